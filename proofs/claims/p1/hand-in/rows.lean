section
-- ===== PART A: goes FIRST, ahead of the names: the tables' words, and 'selects' of the private methods out of them =====
/-- a private method of a class that the tables say can be made, by its rows of tables_1 -/
def lw_okq (q : MethodName × Nat) : Prop := (q.1.cls ≠ "java/lang/invoke/MethodHandle" ∧ q.1.cls ≠ "java/lang/invoke/VarHandle") ∧ Cond.instantiable q.1.cls q.2 ∈ tables_1 ∧ Cond.privateMethod q.1 ∈ tables_1 ∧ Cond.instanceMethod q.1 ∈ tables_1
theorem lw_p0 : lw_okq (⟨"FactorDesk$CommonDivisor", "makeWhole", "()V"⟩, 7) := ⟨⟨by decide +kernel, by decide +kernel⟩, List.mem_of_getElem? (i := 95) (by decide +kernel), List.mem_of_getElem? (i := 445) (by decide +kernel), List.mem_of_getElem? (i := 446) (by decide +kernel)⟩
theorem lw_p1 : lw_okq (⟨"FactorDesk$Division", "goesUp", "(LFactorDesk$Poly;LFactorDesk$Poly;I)Z"⟩, 2) := ⟨⟨by decide +kernel, by decide +kernel⟩, List.mem_of_getElem? (i := 101) (by decide +kernel), List.mem_of_getElem? (i := 468) (by decide +kernel), List.mem_of_getElem? (i := 469) (by decide +kernel)⟩
theorem lw_p2 : lw_okq (⟨"FactorDesk$Division", "isProduct", "(LFactorDesk$Poly;LFactorDesk$Poly;)Z"⟩, 2) := ⟨⟨by decide +kernel, by decide +kernel⟩, List.mem_of_getElem? (i := 101) (by decide +kernel), List.mem_of_getElem? (i := 475) (by decide +kernel), List.mem_of_getElem? (i := 476) (by decide +kernel)⟩
theorem lw_p3 : lw_okq (⟨"FactorDesk$Splitter", "takeEachFactorOnce", "()V"⟩, 9) := ⟨⟨by decide +kernel, by decide +kernel⟩, List.mem_of_getElem? (i := 87) (by decide +kernel), List.mem_of_getElem? (i := 481) (by decide +kernel), List.mem_of_getElem? (i := 482) (by decide +kernel)⟩
theorem lw_p4 : lw_okq (⟨"FactorDesk$ModularSplit", "suits", "(LFactorDesk$Poly;I)Z"⟩, 11) := ⟨⟨by decide +kernel, by decide +kernel⟩, List.mem_of_getElem? (i := 178) (by decide +kernel), List.mem_of_getElem? (i := 493) (by decide +kernel), List.mem_of_getElem? (i := 494) (by decide +kernel)⟩
theorem lw_p5 : lw_okq (⟨"FactorDesk$ModularSplit", "solveMatrix", "(I)I"⟩, 11) := ⟨⟨by decide +kernel, by decide +kernel⟩, List.mem_of_getElem? (i := 178) (by decide +kernel), List.mem_of_getElem? (i := 503) (by decide +kernel), List.mem_of_getElem? (i := 504) (by decide +kernel)⟩
theorem lw_p6 : lw_okq (⟨"FactorDesk$ModularSplit", "clearColumn", "(III)V"⟩, 11) := ⟨⟨by decide +kernel, by decide +kernel⟩, List.mem_of_getElem? (i := 178) (by decide +kernel), List.mem_of_getElem? (i := 513) (by decide +kernel), List.mem_of_getElem? (i := 514) (by decide +kernel)⟩
theorem lw_p7 : lw_okq (⟨"FactorDesk$ModularSplit", "readKernel", "(II)V"⟩, 11) := ⟨⟨by decide +kernel, by decide +kernel⟩, List.mem_of_getElem? (i := 178) (by decide +kernel), List.mem_of_getElem? (i := 523) (by decide +kernel), List.mem_of_getElem? (i := 524) (by decide +kernel)⟩
theorem lw_p8 : lw_okq (⟨"FactorDesk$ModularSplit", "splitPiece", "(I)V"⟩, 11) := ⟨⟨by decide +kernel, by decide +kernel⟩, List.mem_of_getElem? (i := 178) (by decide +kernel), List.mem_of_getElem? (i := 528) (by decide +kernel), List.mem_of_getElem? (i := 529) (by decide +kernel)⟩
theorem lw_p9 : lw_okq (⟨"FactorDesk$Splitter", "largestCoefficient", "()J"⟩, 9) := ⟨⟨by decide +kernel, by decide +kernel⟩, List.mem_of_getElem? (i := 87) (by decide +kernel), List.mem_of_getElem? (i := 534) (by decide +kernel), List.mem_of_getElem? (i := 535) (by decide +kernel)⟩
theorem lw_p10 : lw_okq (⟨"FactorDesk$Lift", "invertOthers", "(I)V"⟩, 11) := ⟨⟨by decide +kernel, by decide +kernel⟩, List.mem_of_getElem? (i := 172) (by decide +kernel), List.mem_of_getElem? (i := 551) (by decide +kernel), List.mem_of_getElem? (i := 552) (by decide +kernel)⟩
theorem lw_p11 : lw_okq (⟨"FactorDesk$Lift", "swapRows", "()V"⟩, 11) := ⟨⟨by decide +kernel, by decide +kernel⟩, List.mem_of_getElem? (i := 172) (by decide +kernel), List.mem_of_getElem? (i := 565) (by decide +kernel), List.mem_of_getElem? (i := 566) (by decide +kernel)⟩
theorem lw_p12 : lw_okq (⟨"FactorDesk$Lift", "improve", "(J)V"⟩, 11) := ⟨⟨by decide +kernel, by decide +kernel⟩, List.mem_of_getElem? (i := 172) (by decide +kernel), List.mem_of_getElem? (i := 569) (by decide +kernel), List.mem_of_getElem? (i := 570) (by decide +kernel)⟩
theorem lw_p13 : lw_okq (⟨"FactorDesk$Lift", "findShare", "(I)V"⟩, 11) := ⟨⟨by decide +kernel, by decide +kernel⟩, List.mem_of_getElem? (i := 172) (by decide +kernel), List.mem_of_getElem? (i := 585) (by decide +kernel), List.mem_of_getElem? (i := 586) (by decide +kernel)⟩
theorem lw_p14 : lw_okq (⟨"FactorDesk$Splitter", "combinePieces", "()V"⟩, 9) := ⟨⟨by decide +kernel, by decide +kernel⟩, List.mem_of_getElem? (i := 87) (by decide +kernel), List.mem_of_getElem? (i := 590) (by decide +kernel), List.mem_of_getElem? (i := 591) (by decide +kernel)⟩
theorem lw_p15 : lw_okq (⟨"FactorDesk$Splitter", "degreeOf", "(I)I"⟩, 9) := ⟨⟨by decide +kernel, by decide +kernel⟩, List.mem_of_getElem? (i := 87) (by decide +kernel), List.mem_of_getElem? (i := 594) (by decide +kernel), List.mem_of_getElem? (i := 595) (by decide +kernel)⟩
def lw_privs_1 : List (MethodName × Nat) := [(⟨"FactorDesk$CommonDivisor", "makeWhole", "()V"⟩, 7), (⟨"FactorDesk$Division", "goesUp", "(LFactorDesk$Poly;LFactorDesk$Poly;I)Z"⟩, 2), (⟨"FactorDesk$Division", "isProduct", "(LFactorDesk$Poly;LFactorDesk$Poly;)Z"⟩, 2), (⟨"FactorDesk$Splitter", "takeEachFactorOnce", "()V"⟩, 9), (⟨"FactorDesk$ModularSplit", "suits", "(LFactorDesk$Poly;I)Z"⟩, 11), (⟨"FactorDesk$ModularSplit", "solveMatrix", "(I)I"⟩, 11), (⟨"FactorDesk$ModularSplit", "clearColumn", "(III)V"⟩, 11), (⟨"FactorDesk$ModularSplit", "readKernel", "(II)V"⟩, 11), (⟨"FactorDesk$ModularSplit", "splitPiece", "(I)V"⟩, 11), (⟨"FactorDesk$Splitter", "largestCoefficient", "()J"⟩, 9), (⟨"FactorDesk$Lift", "invertOthers", "(I)V"⟩, 11), (⟨"FactorDesk$Lift", "swapRows", "()V"⟩, 11), (⟨"FactorDesk$Lift", "improve", "(J)V"⟩, 11), (⟨"FactorDesk$Lift", "findShare", "(I)V"⟩, 11), (⟨"FactorDesk$Splitter", "combinePieces", "()V"⟩, 9), (⟨"FactorDesk$Splitter", "degreeOf", "(I)I"⟩, 9)]
theorem lw_r1 : ∀ q ∈ lw_privs_1, lw_okq q := List.forall_mem_cons.mpr ⟨lw_p0, List.forall_mem_cons.mpr ⟨lw_p1, List.forall_mem_cons.mpr ⟨lw_p2, List.forall_mem_cons.mpr ⟨lw_p3, List.forall_mem_cons.mpr ⟨lw_p4, List.forall_mem_cons.mpr ⟨lw_p5, List.forall_mem_cons.mpr ⟨lw_p6, List.forall_mem_cons.mpr ⟨lw_p7, List.forall_mem_cons.mpr ⟨lw_p8, List.forall_mem_cons.mpr ⟨lw_p9, List.forall_mem_cons.mpr ⟨lw_p10, List.forall_mem_cons.mpr ⟨lw_p11, List.forall_mem_cons.mpr ⟨lw_p12, List.forall_mem_cons.mpr ⟨lw_p13, List.forall_mem_cons.mpr ⟨lw_p14, List.forall_mem_cons.mpr ⟨lw_p15, fun _ h => absurd h List.not_mem_nil⟩⟩⟩⟩⟩⟩⟩⟩⟩⟩⟩⟩⟩⟩⟩⟩
theorem lw_p16 : lw_okq (⟨"FactorDesk$Splitter", "isFactor", "(I)Z"⟩, 9) := ⟨⟨by decide +kernel, by decide +kernel⟩, List.mem_of_getElem? (i := 87) (by decide +kernel), List.mem_of_getElem? (i := 598) (by decide +kernel), List.mem_of_getElem? (i := 599) (by decide +kernel)⟩
theorem lw_p17 : lw_okq (⟨"FactorDesk$Splitter", "hasRightEnd", "(I)Z"⟩, 9) := ⟨⟨by decide +kernel, by decide +kernel⟩, List.mem_of_getElem? (i := 87) (by decide +kernel), List.mem_of_getElem? (i := 602) (by decide +kernel), List.mem_of_getElem? (i := 603) (by decide +kernel)⟩
theorem lw_p18 : lw_okq (⟨"FactorDesk$Splitter", "countMultiplicities", "()V"⟩, 9) := ⟨⟨by decide +kernel, by decide +kernel⟩, List.mem_of_getElem? (i := 87) (by decide +kernel), List.mem_of_getElem? (i := 621) (by decide +kernel), List.mem_of_getElem? (i := 622) (by decide +kernel)⟩
theorem lw_p19 : lw_okq (⟨"java/lang/Throwable", "fillInStackTrace", "(I)Ljava/lang/Throwable;"⟩, 6) := ⟨⟨by decide +kernel, by decide +kernel⟩, List.mem_of_getElem? (i := 680) (by decide +kernel), List.mem_of_getElem? (i := 678) (by decide +kernel), List.mem_of_getElem? (i := 679) (by decide +kernel)⟩
theorem lw_p20 : lw_okq (⟨"FactorDesk", "tapeTop", "()I"⟩, 10) := ⟨⟨by decide +kernel, by decide +kernel⟩, List.mem_of_getElem? (i := 20) (by decide +kernel), List.mem_of_getElem? (i := 718) (by decide +kernel), List.mem_of_getElem? (i := 719) (by decide +kernel)⟩
theorem lw_p21 : lw_okq (⟨"FactorDesk", "useUpTape", "(LFactorDesk$Poly;I)V"⟩, 10) := ⟨⟨by decide +kernel, by decide +kernel⟩, List.mem_of_getElem? (i := 20) (by decide +kernel), List.mem_of_getElem? (i := 738) (by decide +kernel), List.mem_of_getElem? (i := 739) (by decide +kernel)⟩
theorem lw_p22 : lw_okq (⟨"FactorDesk", "multiplyByTape", "(I)Z"⟩, 10) := ⟨⟨by decide +kernel, by decide +kernel⟩, List.mem_of_getElem? (i := 20) (by decide +kernel), List.mem_of_getElem? (i := 754) (by decide +kernel), List.mem_of_getElem? (i := 755) (by decide +kernel)⟩
theorem lw_p23 : lw_okq (⟨"FactorDeskModel", "fails", "(ZI)Z"⟩, 35) := ⟨⟨by decide +kernel, by decide +kernel⟩, List.mem_of_getElem? (i := 850) (by decide +kernel), List.mem_of_getElem? (i := 971) (by decide +kernel), List.mem_of_getElem? (i := 972) (by decide +kernel)⟩
theorem lw_p24 : lw_okq (⟨"FactorDeskModel", "tapeDegree", "()I"⟩, 35) := ⟨⟨by decide +kernel, by decide +kernel⟩, List.mem_of_getElem? (i := 850) (by decide +kernel), List.mem_of_getElem? (i := 983) (by decide +kernel), List.mem_of_getElem? (i := 984) (by decide +kernel)⟩
theorem lw_p25 : lw_okq (⟨"FactorDeskModel", "finds", "()V"⟩, 35) := ⟨⟨by decide +kernel, by decide +kernel⟩, List.mem_of_getElem? (i := 850) (by decide +kernel), List.mem_of_getElem? (i := 1017) (by decide +kernel), List.mem_of_getElem? (i := 1018) (by decide +kernel)⟩
theorem lw_p26 : lw_okq (⟨"FactorDeskModel", "primitive", "()V"⟩, 35) := ⟨⟨by decide +kernel, by decide +kernel⟩, List.mem_of_getElem? (i := 850) (by decide +kernel), List.mem_of_getElem? (i := 1021) (by decide +kernel), List.mem_of_getElem? (i := 1022) (by decide +kernel)⟩
theorem lw_p27 : lw_okq (⟨"FactorDeskModel", "best", "([JI[JI)I"⟩, 35) := ⟨⟨by decide +kernel, by decide +kernel⟩, List.mem_of_getElem? (i := 850) (by decide +kernel), List.mem_of_getElem? (i := 1025) (by decide +kernel), List.mem_of_getElem? (i := 1026) (by decide +kernel)⟩
theorem lw_p28 : lw_okq (⟨"FactorDeskModel", "choose", "(I)V"⟩, 35) := ⟨⟨by decide +kernel, by decide +kernel⟩, List.mem_of_getElem? (i := 850) (by decide +kernel), List.mem_of_getElem? (i := 1032) (by decide +kernel), List.mem_of_getElem? (i := 1033) (by decide +kernel)⟩
theorem lw_p29 : lw_okq (⟨"FactorDeskModel", "load", "(I[JI)V"⟩, 35) := ⟨⟨by decide +kernel, by decide +kernel⟩, List.mem_of_getElem? (i := 850) (by decide +kernel), List.mem_of_getElem? (i := 1036) (by decide +kernel), List.mem_of_getElem? (i := 1037) (by decide +kernel)⟩
theorem lw_p30 : lw_okq (⟨"FactorDeskModel", "small", "([JIJ)V"⟩, 35) := ⟨⟨by decide +kernel, by decide +kernel⟩, List.mem_of_getElem? (i := 850) (by decide +kernel), List.mem_of_getElem? (i := 1043) (by decide +kernel), List.mem_of_getElem? (i := 1044) (by decide +kernel)⟩
theorem lw_p31 : lw_okq (⟨"FactorDeskModel", "subtract", "([JI[JI[JI)V"⟩, 35) := ⟨⟨by decide +kernel, by decide +kernel⟩, List.mem_of_getElem? (i := 850) (by decide +kernel), List.mem_of_getElem? (i := 1048) (by decide +kernel), List.mem_of_getElem? (i := 1049) (by decide +kernel)⟩
def lw_privs_2 : List (MethodName × Nat) := [(⟨"FactorDesk$Splitter", "isFactor", "(I)Z"⟩, 9), (⟨"FactorDesk$Splitter", "hasRightEnd", "(I)Z"⟩, 9), (⟨"FactorDesk$Splitter", "countMultiplicities", "()V"⟩, 9), (⟨"java/lang/Throwable", "fillInStackTrace", "(I)Ljava/lang/Throwable;"⟩, 6), (⟨"FactorDesk", "tapeTop", "()I"⟩, 10), (⟨"FactorDesk", "useUpTape", "(LFactorDesk$Poly;I)V"⟩, 10), (⟨"FactorDesk", "multiplyByTape", "(I)Z"⟩, 10), (⟨"FactorDeskModel", "fails", "(ZI)Z"⟩, 35), (⟨"FactorDeskModel", "tapeDegree", "()I"⟩, 35), (⟨"FactorDeskModel", "finds", "()V"⟩, 35), (⟨"FactorDeskModel", "primitive", "()V"⟩, 35), (⟨"FactorDeskModel", "best", "([JI[JI)I"⟩, 35), (⟨"FactorDeskModel", "choose", "(I)V"⟩, 35), (⟨"FactorDeskModel", "load", "(I[JI)V"⟩, 35), (⟨"FactorDeskModel", "small", "([JIJ)V"⟩, 35), (⟨"FactorDeskModel", "subtract", "([JI[JI[JI)V"⟩, 35)]
theorem lw_r2 : ∀ q ∈ lw_privs_2, lw_okq q := List.forall_mem_cons.mpr ⟨lw_p16, List.forall_mem_cons.mpr ⟨lw_p17, List.forall_mem_cons.mpr ⟨lw_p18, List.forall_mem_cons.mpr ⟨lw_p19, List.forall_mem_cons.mpr ⟨lw_p20, List.forall_mem_cons.mpr ⟨lw_p21, List.forall_mem_cons.mpr ⟨lw_p22, List.forall_mem_cons.mpr ⟨lw_p23, List.forall_mem_cons.mpr ⟨lw_p24, List.forall_mem_cons.mpr ⟨lw_p25, List.forall_mem_cons.mpr ⟨lw_p26, List.forall_mem_cons.mpr ⟨lw_p27, List.forall_mem_cons.mpr ⟨lw_p28, List.forall_mem_cons.mpr ⟨lw_p29, List.forall_mem_cons.mpr ⟨lw_p30, List.forall_mem_cons.mpr ⟨lw_p31, fun _ h => absurd h List.not_mem_nil⟩⟩⟩⟩⟩⟩⟩⟩⟩⟩⟩⟩⟩⟩⟩⟩
theorem lw_p32 : lw_okq (⟨"FactorDeskModel", "carry", "()V"⟩, 35) := ⟨⟨by decide +kernel, by decide +kernel⟩, List.mem_of_getElem? (i := 850) (by decide +kernel), List.mem_of_getElem? (i := 1052) (by decide +kernel), List.mem_of_getElem? (i := 1053) (by decide +kernel)⟩
theorem lw_p33 : lw_okq (⟨"FactorDeskModel", "fold", "([JI)V"⟩, 35) := ⟨⟨by decide +kernel, by decide +kernel⟩, List.mem_of_getElem? (i := 850) (by decide +kernel), List.mem_of_getElem? (i := 1056) (by decide +kernel), List.mem_of_getElem? (i := 1057) (by decide +kernel)⟩
theorem lw_p34 : lw_okq (⟨"FactorDeskModel", "trim", "(II)V"⟩, 35) := ⟨⟨by decide +kernel, by decide +kernel⟩, List.mem_of_getElem? (i := 850) (by decide +kernel), List.mem_of_getElem? (i := 1060) (by decide +kernel), List.mem_of_getElem? (i := 1061) (by decide +kernel)⟩
theorem lw_p35 : lw_okq (⟨"FactorDeskModel", "isZero", "([JI)Z"⟩, 35) := ⟨⟨by decide +kernel, by decide +kernel⟩, List.mem_of_getElem? (i := 850) (by decide +kernel), List.mem_of_getElem? (i := 1064) (by decide +kernel), List.mem_of_getElem? (i := 1065) (by decide +kernel)⟩
theorem lw_p36 : lw_okq (⟨"FactorDeskModel", "meets", "(III)V"⟩, 35) := ⟨⟨by decide +kernel, by decide +kernel⟩, List.mem_of_getElem? (i := 850) (by decide +kernel), List.mem_of_getElem? (i := 1068) (by decide +kernel), List.mem_of_getElem? (i := 1069) (by decide +kernel)⟩
theorem lw_p37 : lw_okq (⟨"FactorDeskModel", "monic", "(I)V"⟩, 35) := ⟨⟨by decide +kernel, by decide +kernel⟩, List.mem_of_getElem? (i := 850) (by decide +kernel), List.mem_of_getElem? (i := 1072) (by decide +kernel), List.mem_of_getElem? (i := 1073) (by decide +kernel)⟩
theorem lw_p38 : lw_okq (⟨"FactorDeskModel", "invert", "([JI[JI)V"⟩, 35) := ⟨⟨by decide +kernel, by decide +kernel⟩, List.mem_of_getElem? (i := 850) (by decide +kernel), List.mem_of_getElem? (i := 1076) (by decide +kernel), List.mem_of_getElem? (i := 1077) (by decide +kernel)⟩
theorem lw_p39 : lw_okq (⟨"FactorDeskModel", "multiply", "([JI[JI[JI)V"⟩, 35) := ⟨⟨by decide +kernel, by decide +kernel⟩, List.mem_of_getElem? (i := 850) (by decide +kernel), List.mem_of_getElem? (i := 1080) (by decide +kernel), List.mem_of_getElem? (i := 1081) (by decide +kernel)⟩
theorem lw_p40 : lw_okq (⟨"FactorDeskModel", "reduce", "(II)V"⟩, 35) := ⟨⟨by decide +kernel, by decide +kernel⟩, List.mem_of_getElem? (i := 850) (by decide +kernel), List.mem_of_getElem? (i := 1084) (by decide +kernel), List.mem_of_getElem? (i := 1085) (by decide +kernel)⟩
theorem lw_p41 : lw_okq (⟨"FactorDeskModel", "copy", "(II)V"⟩, 35) := ⟨⟨by decide +kernel, by decide +kernel⟩, List.mem_of_getElem? (i := 850) (by decide +kernel), List.mem_of_getElem? (i := 1088) (by decide +kernel), List.mem_of_getElem? (i := 1089) (by decide +kernel)⟩
theorem lw_p42 : lw_okq (⟨"FactorDeskModel", "derive", "(II)V"⟩, 35) := ⟨⟨by decide +kernel, by decide +kernel⟩, List.mem_of_getElem? (i := 850) (by decide +kernel), List.mem_of_getElem? (i := 1092) (by decide +kernel), List.mem_of_getElem? (i := 1093) (by decide +kernel)⟩
theorem lw_p43 : lw_okq (⟨"FactorDeskModel", "quotient", "(III)V"⟩, 35) := ⟨⟨by decide +kernel, by decide +kernel⟩, List.mem_of_getElem? (i := 850) (by decide +kernel), List.mem_of_getElem? (i := 1096) (by decide +kernel), List.mem_of_getElem? (i := 1097) (by decide +kernel)⟩
theorem lw_p44 : lw_okq (⟨"FactorDeskModel", "splitsAll", "()V"⟩, 35) := ⟨⟨by decide +kernel, by decide +kernel⟩, List.mem_of_getElem? (i := 850) (by decide +kernel), List.mem_of_getElem? (i := 1100) (by decide +kernel), List.mem_of_getElem? (i := 1101) (by decide +kernel)⟩
theorem lw_p45 : lw_okq (⟨"FactorDeskModel", "frobenius", "(I)V"⟩, 35) := ⟨⟨by decide +kernel, by decide +kernel⟩, List.mem_of_getElem? (i := 850) (by decide +kernel), List.mem_of_getElem? (i := 1104) (by decide +kernel), List.mem_of_getElem? (i := 1105) (by decide +kernel)⟩
theorem lw_p46 : lw_okq (⟨"FactorDeskModel", "ones", "(IIII)V"⟩, 35) := ⟨⟨by decide +kernel, by decide +kernel⟩, List.mem_of_getElem? (i := 850) (by decide +kernel), List.mem_of_getElem? (i := 1108) (by decide +kernel), List.mem_of_getElem? (i := 1109) (by decide +kernel)⟩
theorem lw_p47 : lw_okq (⟨"FactorDeskModel", "productModulo", "(IIII)V"⟩, 35) := ⟨⟨by decide +kernel, by decide +kernel⟩, List.mem_of_getElem? (i := 850) (by decide +kernel), List.mem_of_getElem? (i := 1112) (by decide +kernel), List.mem_of_getElem? (i := 1113) (by decide +kernel)⟩
def lw_privs_3 : List (MethodName × Nat) := [(⟨"FactorDeskModel", "carry", "()V"⟩, 35), (⟨"FactorDeskModel", "fold", "([JI)V"⟩, 35), (⟨"FactorDeskModel", "trim", "(II)V"⟩, 35), (⟨"FactorDeskModel", "isZero", "([JI)Z"⟩, 35), (⟨"FactorDeskModel", "meets", "(III)V"⟩, 35), (⟨"FactorDeskModel", "monic", "(I)V"⟩, 35), (⟨"FactorDeskModel", "invert", "([JI[JI)V"⟩, 35), (⟨"FactorDeskModel", "multiply", "([JI[JI[JI)V"⟩, 35), (⟨"FactorDeskModel", "reduce", "(II)V"⟩, 35), (⟨"FactorDeskModel", "copy", "(II)V"⟩, 35), (⟨"FactorDeskModel", "derive", "(II)V"⟩, 35), (⟨"FactorDeskModel", "quotient", "(III)V"⟩, 35), (⟨"FactorDeskModel", "splitsAll", "()V"⟩, 35), (⟨"FactorDeskModel", "frobenius", "(I)V"⟩, 35), (⟨"FactorDeskModel", "ones", "(IIII)V"⟩, 35), (⟨"FactorDeskModel", "productModulo", "(IIII)V"⟩, 35)]
theorem lw_r3 : ∀ q ∈ lw_privs_3, lw_okq q := List.forall_mem_cons.mpr ⟨lw_p32, List.forall_mem_cons.mpr ⟨lw_p33, List.forall_mem_cons.mpr ⟨lw_p34, List.forall_mem_cons.mpr ⟨lw_p35, List.forall_mem_cons.mpr ⟨lw_p36, List.forall_mem_cons.mpr ⟨lw_p37, List.forall_mem_cons.mpr ⟨lw_p38, List.forall_mem_cons.mpr ⟨lw_p39, List.forall_mem_cons.mpr ⟨lw_p40, List.forall_mem_cons.mpr ⟨lw_p41, List.forall_mem_cons.mpr ⟨lw_p42, List.forall_mem_cons.mpr ⟨lw_p43, List.forall_mem_cons.mpr ⟨lw_p44, List.forall_mem_cons.mpr ⟨lw_p45, List.forall_mem_cons.mpr ⟨lw_p46, List.forall_mem_cons.mpr ⟨lw_p47, fun _ h => absurd h List.not_mem_nil⟩⟩⟩⟩⟩⟩⟩⟩⟩⟩⟩⟩⟩⟩⟩⟩
theorem lw_p48 : lw_okq (⟨"FactorDeskModel", "product", "(III)V"⟩, 35) := ⟨⟨by decide +kernel, by decide +kernel⟩, List.mem_of_getElem? (i := 850) (by decide +kernel), List.mem_of_getElem? (i := 1116) (by decide +kernel), List.mem_of_getElem? (i := 1117) (by decide +kernel)⟩
theorem lw_p49 : lw_okq (⟨"FactorDeskModel", "add", "([JI[JI[JI)V"⟩, 35) := ⟨⟨by decide +kernel, by decide +kernel⟩, List.mem_of_getElem? (i := 850) (by decide +kernel), List.mem_of_getElem? (i := 1120) (by decide +kernel), List.mem_of_getElem? (i := 1121) (by decide +kernel)⟩
theorem lw_p50 : lw_okq (⟨"FactorDeskModel", "less", "(II)V"⟩, 35) := ⟨⟨by decide +kernel, by decide +kernel⟩, List.mem_of_getElem? (i := 850) (by decide +kernel), List.mem_of_getElem? (i := 1124) (by decide +kernel), List.mem_of_getElem? (i := 1125) (by decide +kernel)⟩
theorem lw_p51 : lw_okq (⟨"FactorDeskModel", "splits", "(II)V"⟩, 35) := ⟨⟨by decide +kernel, by decide +kernel⟩, List.mem_of_getElem? (i := 850) (by decide +kernel), List.mem_of_getElem? (i := 1128) (by decide +kernel), List.mem_of_getElem? (i := 1129) (by decide +kernel)⟩
theorem lw_p52 : lw_okq (⟨"FactorDeskModel", "tries", "(II)V"⟩, 35) := ⟨⟨by decide +kernel, by decide +kernel⟩, List.mem_of_getElem? (i := 850) (by decide +kernel), List.mem_of_getElem? (i := 1132) (by decide +kernel), List.mem_of_getElem? (i := 1133) (by decide +kernel)⟩
theorem lw_p53 : lw_okq (⟨"FactorDeskModel", "draws", "()J"⟩, 35) := ⟨⟨by decide +kernel, by decide +kernel⟩, List.mem_of_getElem? (i := 850) (by decide +kernel), List.mem_of_getElem? (i := 1136) (by decide +kernel), List.mem_of_getElem? (i := 1137) (by decide +kernel)⟩
theorem lw_p54 : lw_okq (⟨"FactorDeskModel", "compose", "(IIII)V"⟩, 35) := ⟨⟨by decide +kernel, by decide +kernel⟩, List.mem_of_getElem? (i := 850) (by decide +kernel), List.mem_of_getElem? (i := 1142) (by decide +kernel), List.mem_of_getElem? (i := 1143) (by decide +kernel)⟩
theorem lw_p55 : lw_okq (⟨"FactorDeskModel", "counts", "(I)V"⟩, 35) := ⟨⟨by decide +kernel, by decide +kernel⟩, List.mem_of_getElem? (i := 850) (by decide +kernel), List.mem_of_getElem? (i := 1146) (by decide +kernel), List.mem_of_getElem? (i := 1147) (by decide +kernel)⟩
theorem lw_p56 : lw_okq (⟨"FactorDeskModel", "least", "(I)I"⟩, 35) := ⟨⟨by decide +kernel, by decide +kernel⟩, List.mem_of_getElem? (i := 850) (by decide +kernel), List.mem_of_getElem? (i := 1150) (by decide +kernel), List.mem_of_getElem? (i := 1151) (by decide +kernel)⟩
theorem lw_p57 : lw_okq (⟨"FactorDeskModel", "makes", "(I)Z"⟩, 35) := ⟨⟨by decide +kernel, by decide +kernel⟩, List.mem_of_getElem? (i := 850) (by decide +kernel), List.mem_of_getElem? (i := 1157) (by decide +kernel), List.mem_of_getElem? (i := 1158) (by decide +kernel)⟩
theorem lw_p58 : lw_okq (⟨"FactorDeskModel", "lifts", "(IJ)Z"⟩, 35) := ⟨⟨by decide +kernel, by decide +kernel⟩, List.mem_of_getElem? (i := 850) (by decide +kernel), List.mem_of_getElem? (i := 1161) (by decide +kernel), List.mem_of_getElem? (i := 1162) (by decide +kernel)⟩
theorem lw_p59 : lw_okq (⟨"FactorDeskModel", "isSmall", "(I)Z"⟩, 35) := ⟨⟨by decide +kernel, by decide +kernel⟩, List.mem_of_getElem? (i := 850) (by decide +kernel), List.mem_of_getElem? (i := 1165) (by decide +kernel), List.mem_of_getElem? (i := 1166) (by decide +kernel)⟩
theorem lw_p60 : lw_okq (⟨"FactorDeskModel", "isShort", "(I)Z"⟩, 35) := ⟨⟨by decide +kernel, by decide +kernel⟩, List.mem_of_getElem? (i := 850) (by decide +kernel), List.mem_of_getElem? (i := 1169) (by decide +kernel), List.mem_of_getElem? (i := 1170) (by decide +kernel)⟩
theorem lw_p61 : lw_okq (⟨"FactorDeskModel", "restOf", "(IJ)J"⟩, 35) := ⟨⟨by decide +kernel, by decide +kernel⟩, List.mem_of_getElem? (i := 850) (by decide +kernel), List.mem_of_getElem? (i := 1173) (by decide +kernel), List.mem_of_getElem? (i := 1174) (by decide +kernel)⟩
theorem lw_p62 : lw_okq (⟨"FactorDeskModel", "negative", "(I)Z"⟩, 35) := ⟨⟨by decide +kernel, by decide +kernel⟩, List.mem_of_getElem? (i := 850) (by decide +kernel), List.mem_of_getElem? (i := 1179) (by decide +kernel), List.mem_of_getElem? (i := 1180) (by decide +kernel)⟩
theorem lw_p63 : lw_okq (⟨"FactorDeskModel", "keeps", "(I)V"⟩, 35) := ⟨⟨by decide +kernel, by decide +kernel⟩, List.mem_of_getElem? (i := 850) (by decide +kernel), List.mem_of_getElem? (i := 1183) (by decide +kernel), List.mem_of_getElem? (i := 1184) (by decide +kernel)⟩
def lw_privs_4 : List (MethodName × Nat) := [(⟨"FactorDeskModel", "product", "(III)V"⟩, 35), (⟨"FactorDeskModel", "add", "([JI[JI[JI)V"⟩, 35), (⟨"FactorDeskModel", "less", "(II)V"⟩, 35), (⟨"FactorDeskModel", "splits", "(II)V"⟩, 35), (⟨"FactorDeskModel", "tries", "(II)V"⟩, 35), (⟨"FactorDeskModel", "draws", "()J"⟩, 35), (⟨"FactorDeskModel", "compose", "(IIII)V"⟩, 35), (⟨"FactorDeskModel", "counts", "(I)V"⟩, 35), (⟨"FactorDeskModel", "least", "(I)I"⟩, 35), (⟨"FactorDeskModel", "makes", "(I)Z"⟩, 35), (⟨"FactorDeskModel", "lifts", "(IJ)Z"⟩, 35), (⟨"FactorDeskModel", "isSmall", "(I)Z"⟩, 35), (⟨"FactorDeskModel", "isShort", "(I)Z"⟩, 35), (⟨"FactorDeskModel", "restOf", "(IJ)J"⟩, 35), (⟨"FactorDeskModel", "negative", "(I)Z"⟩, 35), (⟨"FactorDeskModel", "keeps", "(I)V"⟩, 35)]
theorem lw_r4 : ∀ q ∈ lw_privs_4, lw_okq q := List.forall_mem_cons.mpr ⟨lw_p48, List.forall_mem_cons.mpr ⟨lw_p49, List.forall_mem_cons.mpr ⟨lw_p50, List.forall_mem_cons.mpr ⟨lw_p51, List.forall_mem_cons.mpr ⟨lw_p52, List.forall_mem_cons.mpr ⟨lw_p53, List.forall_mem_cons.mpr ⟨lw_p54, List.forall_mem_cons.mpr ⟨lw_p55, List.forall_mem_cons.mpr ⟨lw_p56, List.forall_mem_cons.mpr ⟨lw_p57, List.forall_mem_cons.mpr ⟨lw_p58, List.forall_mem_cons.mpr ⟨lw_p59, List.forall_mem_cons.mpr ⟨lw_p60, List.forall_mem_cons.mpr ⟨lw_p61, List.forall_mem_cons.mpr ⟨lw_p62, List.forall_mem_cons.mpr ⟨lw_p63, fun _ h => absurd h List.not_mem_nil⟩⟩⟩⟩⟩⟩⟩⟩⟩⟩⟩⟩⟩⟩⟩⟩
theorem lw_p64 : lw_okq (⟨"FactorDeskModel", "compares", "(I)I"⟩, 35) := ⟨⟨by decide +kernel, by decide +kernel⟩, List.mem_of_getElem? (i := 850) (by decide +kernel), List.mem_of_getElem? (i := 1187) (by decide +kernel), List.mem_of_getElem? (i := 1188) (by decide +kernel)⟩
def lw_privs_5 : List (MethodName × Nat) := [(⟨"FactorDeskModel", "compares", "(I)I"⟩, 35)]
theorem lw_r5 : ∀ q ∈ lw_privs_5, lw_okq q := List.forall_mem_cons.mpr ⟨lw_p64, fun _ h => absurd h List.not_mem_nil⟩
def lw_privs : List (MethodName × Nat) := lw_privs_1 ++ (lw_privs_2 ++ (lw_privs_3 ++ (lw_privs_4 ++ (lw_privs_5))))
def lw_tbl : List Cond := k2_sels lw_privs ++ tables_1
theorem lw_privs_ok : ∀ q ∈ lw_privs, lw_okq q := by
  show ∀ q ∈ lw_privs_1 ++ (lw_privs_2 ++ (lw_privs_3 ++ (lw_privs_4 ++ (lw_privs_5)))), lw_okq q
  exact List.forall_mem_append.mpr ⟨lw_r1, List.forall_mem_append.mpr ⟨lw_r2, List.forall_mem_append.mpr ⟨lw_r3, List.forall_mem_append.mpr ⟨lw_r4, lw_r5⟩⟩⟩⟩
-- ===== end of PART A; then your names; then what follows =====
end
section
-- names of the classes, their fields in the order of the tables; by a program of mine (wip/gen/names.py)
abbrev R_Poly : String := "FactorDesk$Poly"
def T_Poly : u_T := fun k => match k with
  | 0 => ("FactorDesk$Poly", "c", "[J", true)
  | _ => ("FactorDesk$Poly", "degree", "I", false)
def t_Poly : Nat → FieldType := fun k => match k with
  | 0 => .array .long
  | _ => .int
theorem n_Poly : ∀ a, a < 2 → ∀ b, b < 2 → a ≠ b → (T_Poly a).2.1 ≠ (T_Poly b).2.1 := by decide +kernel
theorem t_Poly_ok : ∀ k, k < 2 → parseFieldDescriptor (T_Poly k).2.2.1 = some (t_Poly k) := by decide +kernel
theorem i_Poly_e : u_ws R_Poly T_Poly 2 = [115, 117].filterMap (fun i => lw_tbl[i]?) := by decide +kernel
theorem i_Poly_g : (u_ws R_Poly T_Poly 2).all goodWord = true := by decide +kernel
abbrev R_FList : String := "FactorDesk$FactorList"
def T_FList : u_T := fun k => match k with
  | 0 => ("FactorDesk$FactorList", "parts", "[LFactorDesk$Poly;", true)
  | 1 => ("FactorDesk$FactorList", "multiplicities", "[I", true)
  | _ => ("FactorDesk$FactorList", "count", "I", false)
def t_FList : Nat → FieldType := fun k => match k with
  | 0 => .array (.object "FactorDesk$Poly")
  | 1 => .array .int
  | _ => .int
theorem n_FList : ∀ a, a < 3 → ∀ b, b < 3 → a ≠ b → (T_FList a).2.1 ≠ (T_FList b).2.1 := by decide +kernel
theorem t_FList_ok : ∀ k, k < 3 → parseFieldDescriptor (T_FList k).2.2.1 = some (t_FList k) := by decide +kernel
theorem i_FList_e : u_ws R_FList T_FList 3 = [144, 146, 148].filterMap (fun i => lw_tbl[i]?) := by decide +kernel
theorem i_FList_g : (u_ws R_FList T_FList 3).all goodWord = true := by decide +kernel
abbrev R_Divn : String := "FactorDesk$Division"
def T_Divn : u_T := fun k => match k with
  | 0 => ("FactorDesk$Division", "quotient", "LFactorDesk$Poly;", true)
  | _ => ("FactorDesk$Division", "left", "[J", true)
def t_Divn : Nat → FieldType := fun k => match k with
  | 0 => .object "FactorDesk$Poly"
  | _ => .array .long
theorem n_Divn : ∀ a, a < 2 → ∀ b, b < 2 → a ≠ b → (T_Divn a).2.1 ≠ (T_Divn b).2.1 := by decide +kernel
theorem t_Divn_ok : ∀ k, k < 2 → parseFieldDescriptor (T_Divn k).2.2.1 = some (t_Divn k) := by decide +kernel
theorem i_Divn_e : u_ws R_Divn T_Divn 2 = [176, 178].filterMap (fun i => lw_tbl[i]?) := by decide +kernel
theorem i_Divn_g : (u_ws R_Divn T_Divn 2).all goodWord = true := by decide +kernel
abbrev R_Resi : String := "FactorDesk$Residues"
def T_Resi : u_T := fun k => match k with
  | 0 => ("FactorDesk$Residues", "quotient", "LFactorDesk$Poly;", true)
  | 1 => ("FactorDesk$Residues", "modulus", "J", false)
  | 2 => ("FactorDesk$Residues", "chunk", "I", false)
  | 3 => ("FactorDesk$Residues", "chunkMask", "J", false)
  | _ => ("FactorDesk$Residues", "chunks", "I", false)
def t_Resi : Nat → FieldType := fun k => match k with
  | 0 => .object "FactorDesk$Poly"
  | 1 => .long
  | 2 => .int
  | 3 => .long
  | _ => .int
theorem n_Resi : ∀ a, a < 5 → ∀ b, b < 5 → a ≠ b → (T_Resi a).2.1 ≠ (T_Resi b).2.1 := by decide +kernel
theorem t_Resi_ok : ∀ k, k < 5 → parseFieldDescriptor (T_Resi k).2.2.1 = some (t_Resi k) := by decide +kernel
theorem i_Resi_e : u_ws R_Resi T_Resi 5 = [198, 200, 202, 204, 206].filterMap (fun i => lw_tbl[i]?) := by decide +kernel
theorem i_Resi_g : (u_ws R_Resi T_Resi 5).all goodWord = true := by decide +kernel
abbrev R_CDiv : String := "FactorDesk$CommonDivisor"
def T_CDiv : u_T := fun k => match k with
  | 0 => ("FactorDesk$CommonDivisor", "answer", "LFactorDesk$Poly;", true)
  | 1 => ("FactorDesk$CommonDivisor", "division", "LFactorDesk$Division;", true)
  | 2 => ("FactorDesk$CommonDivisor", "residues", "LFactorDesk$Residues;", true)
  | 3 => ("FactorDesk$CommonDivisor", "one", "LFactorDesk$Poly;", true)
  | 4 => ("FactorDesk$CommonDivisor", "two", "LFactorDesk$Poly;", true)
  | 5 => ("FactorDesk$CommonDivisor", "a", "LFactorDesk$Poly;", true)
  | _ => ("FactorDesk$CommonDivisor", "b", "LFactorDesk$Poly;", true)
def t_CDiv : Nat → FieldType := fun k => match k with
  | 0 => .object "FactorDesk$Poly"
  | 1 => .object "FactorDesk$Division"
  | 2 => .object "FactorDesk$Residues"
  | 3 => .object "FactorDesk$Poly"
  | 4 => .object "FactorDesk$Poly"
  | 5 => .object "FactorDesk$Poly"
  | _ => .object "FactorDesk$Poly"
theorem n_CDiv : ∀ a, a < 7 → ∀ b, b < 7 → a ≠ b → (T_CDiv a).2.1 ≠ (T_CDiv b).2.1 := by decide +kernel
theorem t_CDiv_ok : ∀ k, k < 7 → parseFieldDescriptor (T_CDiv k).2.2.1 = some (t_CDiv k) := by decide +kernel
theorem i_CDiv_e : u_ws R_CDiv T_CDiv 7 = [221, 223, 225, 227, 229, 231, 233].filterMap (fun i => lw_tbl[i]?) := by decide +kernel
theorem i_CDiv_g : (u_ws R_CDiv T_CDiv 7).all goodWord = true := by decide +kernel
abbrev R_MSpl : String := "FactorDesk$ModularSplit"
def T_MSpl : u_T := fun k => match k with
  | 0 => ("FactorDesk$ModularSplit", "residues", "LFactorDesk$Residues;", true)
  | 1 => ("FactorDesk$ModularSplit", "pieces", "[LFactorDesk$Poly;", true)
  | 2 => ("FactorDesk$ModularSplit", "monic", "LFactorDesk$Poly;", true)
  | 3 => ("FactorDesk$ModularSplit", "count", "I", false)
  | 4 => ("FactorDesk$ModularSplit", "prime", "I", false)
  | 5 => ("FactorDesk$ModularSplit", "wanted", "I", false)
  | 6 => ("FactorDesk$ModularSplit", "matrix", "[[J", true)
  | 7 => ("FactorDesk$ModularSplit", "pivotRow", "[I", true)
  | 8 => ("FactorDesk$ModularSplit", "kernel", "LFactorDesk$Poly;", true)
  | 9 => ("FactorDesk$ModularSplit", "a", "LFactorDesk$Poly;", true)
  | _ => ("FactorDesk$ModularSplit", "b", "LFactorDesk$Poly;", true)
def t_MSpl : Nat → FieldType := fun k => match k with
  | 0 => .object "FactorDesk$Residues"
  | 1 => .array (.object "FactorDesk$Poly")
  | 2 => .object "FactorDesk$Poly"
  | 3 => .int
  | 4 => .int
  | 5 => .int
  | 6 => .array (.array .long)
  | 7 => .array .int
  | 8 => .object "FactorDesk$Poly"
  | 9 => .object "FactorDesk$Poly"
  | _ => .object "FactorDesk$Poly"
theorem n_MSpl : ∀ a, a < 11 → ∀ b, b < 11 → a ≠ b → (T_MSpl a).2.1 ≠ (T_MSpl b).2.1 := by decide +kernel
theorem t_MSpl_ok : ∀ k, k < 11 → parseFieldDescriptor (T_MSpl k).2.2.1 = some (t_MSpl k) := by decide +kernel
theorem i_MSpl_e : u_ws R_MSpl T_MSpl 11 = [272, 274, 276, 278, 280, 282, 284, 286, 288, 290, 292].filterMap (fun i => lw_tbl[i]?) := by decide +kernel
theorem i_MSpl_g : (u_ws R_MSpl T_MSpl 11).all goodWord = true := by decide +kernel
abbrev R_Lift : String := "FactorDesk$Lift"
def T_Lift : u_T := fun k => match k with
  | 0 => ("FactorDesk$Lift", "split", "LFactorDesk$ModularSplit;", true)
  | 1 => ("FactorDesk$Lift", "residues", "LFactorDesk$Residues;", true)
  | 2 => ("FactorDesk$Lift", "pieces", "[LFactorDesk$Poly;", true)
  | 3 => ("FactorDesk$Lift", "inverses", "[LFactorDesk$Poly;", true)
  | 4 => ("FactorDesk$Lift", "target", "LFactorDesk$Poly;", true)
  | 5 => ("FactorDesk$Lift", "error", "LFactorDesk$Poly;", true)
  | 6 => ("FactorDesk$Lift", "work", "LFactorDesk$Poly;", true)
  | 7 => ("FactorDesk$Lift", "one", "LFactorDesk$Poly;", false)
  | 8 => ("FactorDesk$Lift", "two", "LFactorDesk$Poly;", false)
  | 9 => ("FactorDesk$Lift", "oneTimes", "LFactorDesk$Poly;", false)
  | _ => ("FactorDesk$Lift", "twoTimes", "LFactorDesk$Poly;", false)
def t_Lift : Nat → FieldType := fun k => match k with
  | 0 => .object "FactorDesk$ModularSplit"
  | 1 => .object "FactorDesk$Residues"
  | 2 => .array (.object "FactorDesk$Poly")
  | 3 => .array (.object "FactorDesk$Poly")
  | 4 => .object "FactorDesk$Poly"
  | 5 => .object "FactorDesk$Poly"
  | 6 => .object "FactorDesk$Poly"
  | 7 => .object "FactorDesk$Poly"
  | 8 => .object "FactorDesk$Poly"
  | 9 => .object "FactorDesk$Poly"
  | _ => .object "FactorDesk$Poly"
theorem n_Lift : ∀ a, a < 11 → ∀ b, b < 11 → a ≠ b → (T_Lift a).2.1 ≠ (T_Lift b).2.1 := by decide +kernel
theorem t_Lift_ok : ∀ k, k < 11 → parseFieldDescriptor (T_Lift k).2.2.1 = some (t_Lift k) := by decide +kernel
theorem i_Lift_e : u_ws R_Lift T_Lift 11 = [313, 315, 317, 319, 321, 323, 325, 327, 329, 331, 333].filterMap (fun i => lw_tbl[i]?) := by decide +kernel
theorem i_Lift_g : (u_ws R_Lift T_Lift 11).all goodWord = true := by decide +kernel
abbrev R_Splt : String := "FactorDesk$Splitter"
def T_Splt : u_T := fun k => match k with
  | 0 => ("FactorDesk$Splitter", "found", "LFactorDesk$FactorList;", true)
  | 1 => ("FactorDesk$Splitter", "commonDivisor", "LFactorDesk$CommonDivisor;", true)
  | 2 => ("FactorDesk$Splitter", "division", "LFactorDesk$Division;", true)
  | 3 => ("FactorDesk$Splitter", "known", "Z", false)
  | 4 => ("FactorDesk$Splitter", "lift", "LFactorDesk$Lift;", true)
  | 5 => ("FactorDesk$Splitter", "modular", "LFactorDesk$ModularSplit;", true)
  | 6 => ("FactorDesk$Splitter", "whole", "LFactorDesk$Poly;", true)
  | 7 => ("FactorDesk$Splitter", "rest", "LFactorDesk$Poly;", true)
  | _ => ("FactorDesk$Splitter", "candidate", "LFactorDesk$Poly;", true)
def t_Splt : Nat → FieldType := fun k => match k with
  | 0 => .object "FactorDesk$FactorList"
  | 1 => .object "FactorDesk$CommonDivisor"
  | 2 => .object "FactorDesk$Division"
  | 3 => .boolean
  | 4 => .object "FactorDesk$Lift"
  | 5 => .object "FactorDesk$ModularSplit"
  | 6 => .object "FactorDesk$Poly"
  | 7 => .object "FactorDesk$Poly"
  | _ => .object "FactorDesk$Poly"
theorem n_Splt : ∀ a, a < 9 → ∀ b, b < 9 → a ≠ b → (T_Splt a).2.1 ≠ (T_Splt b).2.1 := by decide +kernel
theorem t_Splt_ok : ∀ k, k < 9 → parseFieldDescriptor (T_Splt k).2.2.1 = some (t_Splt k) := by decide +kernel
theorem i_Splt_e : u_ws R_Splt T_Splt 9 = [350, 352, 354, 356, 358, 360, 362, 364, 366].filterMap (fun i => lw_tbl[i]?) := by decide +kernel
theorem i_Splt_g : (u_ws R_Splt T_Splt 9).all goodWord = true := by decide +kernel
abbrev R_Desk : String := "FactorDesk"
def T_Desk : u_T := fun k => match k with
  | 0 => ("FactorDesk", "tape", "[I", true)
  | 1 => ("FactorDesk", "taped", "I", false)
  | 2 => ("FactorDesk", "polynomial", "LFactorDesk$Poly;", true)
  | 3 => ("FactorDesk", "result", "LFactorDesk$Poly;", true)
  | 4 => ("FactorDesk", "operand", "LFactorDesk$Poly;", true)
  | 5 => ("FactorDesk", "latestDivisor", "LFactorDesk$Poly;", true)
  | 6 => ("FactorDesk", "told", "LFactorDesk$FactorList;", true)
  | 7 => ("FactorDesk", "splitter", "LFactorDesk$Splitter;", true)
  | 8 => ("FactorDesk", "commonDivisor", "LFactorDesk$CommonDivisor;", true)
  | _ => ("FactorDesk", "division", "LFactorDesk$Division;", true)
def t_Desk : Nat → FieldType := fun k => match k with
  | 0 => .array .int
  | 1 => .int
  | 2 => .object "FactorDesk$Poly"
  | 3 => .object "FactorDesk$Poly"
  | 4 => .object "FactorDesk$Poly"
  | 5 => .object "FactorDesk$Poly"
  | 6 => .object "FactorDesk$FactorList"
  | 7 => .object "FactorDesk$Splitter"
  | 8 => .object "FactorDesk$CommonDivisor"
  | _ => .object "FactorDesk$Division"
theorem n_Desk : ∀ a, a < 10 → ∀ b, b < 10 → a ≠ b → (T_Desk a).2.1 ≠ (T_Desk b).2.1 := by decide +kernel
theorem t_Desk_ok : ∀ k, k < 10 → parseFieldDescriptor (T_Desk k).2.2.1 = some (t_Desk k) := by decide +kernel
theorem i_Desk_e : u_ws R_Desk T_Desk 10 = [379, 381, 383, 385, 387, 389, 391, 393, 395, 397].filterMap (fun i => lw_tbl[i]?) := by decide +kernel
theorem i_Desk_g : (u_ws R_Desk T_Desk 10).all goodWord = true := by decide +kernel
abbrev R_Modl : String := "FactorDeskModel"
def T_Modl : u_T := fun k => match k with
  | 0 => ("FactorDeskModel", "thrown", "I", false)
  | 1 => ("FactorDeskModel", "tape", "[J", true)
  | 2 => ("FactorDeskModel", "taped", "I", false)
  | 3 => ("FactorDeskModel", "one", "[J", true)
  | 4 => ("FactorDeskModel", "high", "I", false)
  | 5 => ("FactorDeskModel", "divisor", "[J", true)
  | 6 => ("FactorDeskModel", "divisorDegree", "I", false)
  | 7 => ("FactorDeskModel", "shown", "I", false)
  | 8 => ("FactorDeskModel", "shownPart", "[J", true)
  | 9 => ("FactorDeskModel", "shownDegree", "[I", true)
  | 10 => ("FactorDeskModel", "shownTimes", "[I", true)
  | 11 => ("FactorDeskModel", "found", "I", false)
  | 12 => ("FactorDeskModel", "part", "[J", true)
  | 13 => ("FactorDeskModel", "partDegree", "[I", true)
  | 14 => ("FactorDeskModel", "partTimes", "[I", true)
  | 15 => ("FactorDeskModel", "prime", "I", false)
  | 16 => ("FactorDeskModel", "digits", "I", false)
  | 17 => ("FactorDeskModel", "cells", "[J", true)
  | 18 => ("FactorDeskModel", "deg", "[I", true)
  | 19 => ("FactorDeskModel", "w", "[J", true)
  | 20 => ("FactorDeskModel", "t", "[J", true)
  | 21 => ("FactorDeskModel", "u", "[J", true)
  | 22 => ("FactorDeskModel", "zero", "[J", true)
  | 23 => ("FactorDeskModel", "chance", "J", false)
  | 24 => ("FactorDeskModel", "many", "I", false)
  | 25 => ("FactorDeskModel", "times", "[I", true)
  | 26 => ("FactorDeskModel", "used", "[Z", true)
  | 27 => ("FactorDeskModel", "candidate", "[J", true)
  | 28 => ("FactorDeskModel", "candidateDegree", "I", false)
  | 29 => ("FactorDeskModel", "candidateContent", "J", false)
  | 30 => ("FactorDeskModel", "left", "[J", true)
  | 31 => ("FactorDeskModel", "unit", "[J", true)
  | 32 => ("FactorDeskModel", "minus", "[Z", true)
  | 33 => ("FactorDeskModel", "other", "[J", true)
  | _ => ("FactorDeskModel", "otherContent", "J", false)
def t_Modl : Nat → FieldType := fun k => match k with
  | 0 => .int
  | 1 => .array .long
  | 2 => .int
  | 3 => .array .long
  | 4 => .int
  | 5 => .array .long
  | 6 => .int
  | 7 => .int
  | 8 => .array .long
  | 9 => .array .int
  | 10 => .array .int
  | 11 => .int
  | 12 => .array .long
  | 13 => .array .int
  | 14 => .array .int
  | 15 => .int
  | 16 => .int
  | 17 => .array .long
  | 18 => .array .int
  | 19 => .array .long
  | 20 => .array .long
  | 21 => .array .long
  | 22 => .array .long
  | 23 => .long
  | 24 => .int
  | 25 => .array .int
  | 26 => .array .boolean
  | 27 => .array .long
  | 28 => .int
  | 29 => .long
  | 30 => .array .long
  | 31 => .array .long
  | 32 => .array .boolean
  | 33 => .array .long
  | _ => .long
theorem n_Modl : ∀ a, a < 35 → ∀ b, b < 35 → a ≠ b → (T_Modl a).2.1 ≠ (T_Modl b).2.1 := by decide +kernel
theorem t_Modl_ok : ∀ k, k < 35 → parseFieldDescriptor (T_Modl k).2.2.1 = some (t_Modl k) := by decide +kernel
theorem i_Modl_e : u_ws R_Modl T_Modl 35 = [955, 957, 959, 961, 963, 965, 967, 969, 971, 973, 975, 977, 979, 981, 983, 985, 987, 989, 991, 993, 995, 997, 999, 1001, 1003, 1005, 1007, 1009, 1011, 1013, 1015, 1017, 1019, 1021, 1023].filterMap (fun i => lw_tbl[i]?) := by decide +kernel
theorem i_Modl_g : (u_ws R_Modl T_Modl 35).all goodWord = true := by decide +kernel
abbrev vcl : List vw_C := [(R_Poly, T_Poly, 2), (R_FList, T_FList, 3), (R_Divn, T_Divn, 2), (R_Resi, T_Resi, 5), (R_CDiv, T_CDiv, 7), (R_MSpl, T_MSpl, 11), (R_Lift, T_Lift, 11), (R_Splt, T_Splt, 9), (R_Desk, T_Desk, 10), (R_Modl, T_Modl, 35)]
end
section
/-! A layer over the kit's W: the heap is a function from addresses to cells; every method of the law's run keeps what was there at the law's start (the state s0). -/
abbrev jH : Type := Nat → Option va_E
def jh_up (h : jH) (a : Nat) (x : va_E) : jH := fun b => if b = a then some x else h b
def jh_no (h : jH) (a : Nat) : jH := fun b => if b = a then none else h b
theorem jh_up_s (h : jH) (a : Nat) (x : va_E) : jh_up h a x a = some x := by simp [jh_up]
theorem jh_up_n (h : jH) {a b : Nat} (x : va_E) (hb : b ≠ a) : jh_up h a x b = h b := by simp [jh_up, hb]
def jTy (Y : Nat → ClassId) : List (ClassId × FieldType) := [(Y 0, .int), (Y 1, .long), (Y 2, .boolean), (Y 3, .object "FactorDesk$Poly"), (Y 4, .array .long)]
/-- what holds at the law's start -/
def jS0 (b : Nat) (D : va_G) (Y : Nat → ClassId) (s0 : State) : Prop := (∀ w ∈ lw_tbl, w.before #[Value.ref b] s0 = true) ∧ (Jvm.Cond.and given_1 narrow_1).before #[Value.ref b] s0 = true ∧ va_K D vcl (jTy Y) s0
/-- a state that comes from s0: its tables are s0's, warmer; what was in the heap is there -/
def jN (s0 : State) (H : Heap) : Prop := ∀ (q : Nat) (cell : Cell), s0.heap.size ≤ q → H[q]? = some cell → cell.vm.isStatics = false
def jV (s0 U : State) : Prop := s0.WarmedH U.vm ∧ s0.heap.size ≤ U.heap.size ∧ (∀ q : Nat, q < s0.heap.size → U.heap[q]? = s0.heap[q]?) ∧ jN s0 U.heap
def jA (s0 : State) : Nat → Prop := fun q => s0.heap.size ≤ q
/-- the heap H has n cells, and at the addresses of h what h says; all of h is new since s0 -/
def jR (s0 : State) (D : va_G) (h : jH) (n : Nat) (H : Heap) : Prop := H.size = n ∧ (∀ (a : Nat) (x : va_E), h a = some x → va_at D vcl (a, x) H ∧ s0.heap.size ≤ a) ∧ jN s0 H
theorem va_at_ns {D : va_G} {cl : List vw_C} {a : Nat} {x : va_E} {H : Heap} (h : va_at D cl (a, x) H) {cell : Cell} (hc : H[a]? = some cell) : cell.vm.isStatics = false := by
  cases x with
  | inl y =>
    have h1 : H[a]? = some (vp_cell y.1 y.2) := h
    rw [h1] at hc
    cases hc
    obtain ⟨c0, n0, f | f | f | f | f⟩ := y <;> rfl
  | inr o =>
    obtain ⟨r, -, c0, g1, -, g3, -⟩ := h
    have g1 : H[a]? = some c0 := g1
    rw [g1] at hc
    cases hc
    rw [g3]; rfl
def jG (w : Cond) : Prop := w ∈ lw_tbl ∧ goodWord w = true
theorem jG_of {w : Cond} (i : Nat) (h : lw_tbl[i]? = some w) (hg : goodWord w = true) : jG w := ⟨List.mem_of_getElem? h, hg⟩
theorem jG_ws {ws : List Cond} {is : List Nat} (h : ws = is.filterMap (fun i => lw_tbl[i]?)) (hg : ws.all goodWord = true) : ∀ w ∈ ws, jG w := by
  intro w hw
  refine ⟨?_, List.all_eq_true.mp hg w hw⟩
  rw [h] at hw
  obtain ⟨i, -, hi⟩ := List.mem_filterMap.mp hw
  exact List.mem_of_getElem? hi
/-- the static context of a walk -/
def jC (b : Nat) (D : va_G) (Y : Nat → ClassId) (s0 : State) (p : Program) (s : State) (m : MethodId) (args : Array Value) (meth : Method) (c : Code) (own : String) (cc : ByteArray) (nL : Nat) (ret : Option FieldType) (nm : String) : Prop :=
  p.tables.exec = Jvm.exec ∧ c.code = cc ∧ c.maxLocals = nL ∧ meth.sig.returnType = ret ∧ s.vm.findClass own = some m.cls ∧ meth.locks = false ∧ meth.name = nm ∧ jS0 b D Y s0 ∧ jV s0 s
theorem jV.word {s0 U : State} {w : Cond} {b : Nat} {D : va_G} {Y : Nat → ClassId} {args : Array Value} (h : jV s0 U) (h0 : jS0 b D Y s0) (hw : jG w) : w.before args U = true := word_at h.1 (good_of_word hw.2) (h0.1 w hw.1)
theorem jV.K {s0 U : State} {b : Nat} {D : va_G} {Y : Nat → ClassId} (h : jV s0 U) (h0 : jS0 b D Y s0) : va_K D vcl (jTy Y) U := va_K.moved h.1.alike h0.2.2
theorem jR.P {s0 : State} {D : va_G} {h : jH} {n : Nat} {H : Heap} (hR : jR s0 D h n H) {a : Nat} {x : va_E} (ha : h a = some x) : va_P D vcl [(a, x)] H := by
  intro k q hq
  have hk : k = 0 := by
    have := (List.getElem?_eq_some_iff.mp hq).1
    simp at this; exact this
  subst hk
  cases hq
  exact (hR.2.1 a x ha).1
theorem jR.lt {s0 : State} {D : va_G} {h : jH} {n : Nat} {H : Heap} (hR : jR s0 D h n H) {a : Nat} {x : va_E} (ha : h a = some x) : a < n := by
  rw [← hR.1]; exact (hR.2.1 a x ha).1.lt
theorem jR.mono {s0 : State} {D : va_G} {h h2 : jH} {n : Nat} {H : Heap} (hR : jR s0 D h n H) (hh : ∀ a x, h2 a = some x → h a = some x) : jR s0 D h2 n H := ⟨hR.1, fun a x ha => hR.2.1 a x (hh a x ha), hR.2.2⟩
theorem jR.put {s0 : State} {D : va_G} {h : jH} {n : Nat} {H H' : Heap} (hR : jR s0 D h n H) {a : Nat} {x : va_E} (hx : va_at D vcl (a, x) H') (hA : s0.heap.size ≤ a) (hz : H'.size = H.size) (ho : ∀ q : Nat, q ≠ a → H'[q]? = H[q]?) : jR s0 D (jh_up h a x) n H' := by
  refine ⟨by rw [hz]; exact hR.1, fun b y hb => ?_, fun q cell hq hc => by
    by_cases e : q = a
    · subst e; exact va_at_ns hx hc
    · rw [ho q e] at hc; exact hR.2.2 q cell hq hc⟩
  by_cases e : b = a
  · subst e
    rw [jh_up_s] at hb
    cases hb
    exact ⟨hx, hA⟩
  · rw [jh_up_n h x e] at hb
    exact ⟨(hR.2.1 b y hb).1.kept (ho b e), (hR.2.1 b y hb).2⟩
theorem jR.new {s0 : State} {D : va_G} {h : jH} {n : Nat} {H H' : Heap} (hR : jR s0 D h n H) {x : va_E} (hx : va_at D vcl (n, x) H') (hA : s0.heap.size ≤ n) (hz : H'.size = n + 1) (ho : ∀ q : Nat, q < n → H'[q]? = H[q]?) : jR s0 D (jh_up h n x) (n + 1) H' := by
  refine ⟨hz, fun b y hb => ?_, fun q cell hq hc => by
    by_cases e : q = n
    · subst e; exact va_at_ns hx hc
    · have hlt := (Array.getElem?_eq_some_iff.mp hc).1
      rw [hz] at hlt
      rw [ho q (by omega)] at hc; exact hR.2.2 q cell hq hc⟩
  by_cases e : b = n
  · subst e
    rw [jh_up_s] at hb
    cases hb
    exact ⟨hx, hA⟩
  · rw [jh_up_n h x e] at hb
    exact ⟨(hR.2.1 b y hb).1.kept (ho b (hR.lt hb)), (hR.2.1 b y hb).2⟩
def jW (b : Nat) (D : va_G) (Y : Nat → ClassId) (s0 : State) (p : Program) (l : Launch) (e : Env) (R : Room) (s : State) (m : MethodId) (args : Array Value) (below : List Frame) (meth : Method) (c : Code) (own : String) (cc : ByteArray) (nL : Nat) (ret : Option FieldType) (nm : String) (Q : State → Prop) (pc : Nat) (lv : List (Nat × Value)) (st : List Value) (h : jH) (n k sl : Nat) : Prop :=
  jC b D Y s0 p s m args meth c own cc nL ret nm → ∀ (H : Heap) (locs : List Loc) (ls : Array Slot), jR s0 D h n H → va_S (jA s0) s.heap H locs → lv_has ls nL lv → W p l e R s m args below meth c H locs k sl Q (F0 m pc ls st)
section JR
variable {b : Nat} {D : va_G} {Y : Nat → ClassId} {s0 : State} {p : Program} {l : Launch} {e : Env} {R : Room} {s : State} {m : MethodId} {args : Array Value} {below : List Frame} {meth : Method} {c : Code} {own : String} {cc : ByteArray} {nL : Nat} {ret : Option FieldType} {nm : String} {Q : State → Prop} {pc : Nat} {lv : List (Nat × Value)} {st : List Value} {h : jH} {n k sl : Nat}
theorem j_mono {h2 : jH} (hh : ∀ a x, h2 a = some x → h a = some x) (kk : jW b D Y s0 p l e R s m args below meth c own cc nL ret nm Q pc lv st h2 n k sl) : jW b D Y s0 p l e R s m args below meth c own cc nL ret nm Q pc lv st h n k sl :=
  fun C H locs ls hR hS hl => kk C H locs ls (hR.mono hh) hS hl
theorem j_lv {lv2 : List (Nat × Value)} (ks : List Nat) (hk : lv_pick lv ks = lv2) (kk : jW b D Y s0 p l e R s m args below meth c own cc nL ret nm Q pc lv2 st h n k sl) : jW b D Y s0 p l e R s m args below meth c own cc nL ret nm Q pc lv st h n k sl :=
  fun C H locs ls hR hS hl => kk C H locs ls hR hS (lv_sub hl ks hk)
theorem j_widen {k2 sl2 : Nat} (h1 : k ≤ k2) (h2 : sl ≤ sl2) (kk : jW b D Y s0 p l e R s m args below meth c own cc nL ret nm Q pc lv st h n k2 sl2) : jW b D Y s0 p l e R s m args below meth c own cc nL ret nm Q pc lv st h n k sl :=
  fun C H locs ls hR hS hl => W.widen h1 h2 (kk C H locs ls hR hS hl)
theorem j_ctx (kk : jC b D Y s0 p s m args meth c own cc nL ret nm → jW b D Y s0 p l e R s m args below meth c own cc nL ret nm Q pc lv st h n k sl) : jW b D Y s0 p l e R s m args below meth c own cc nL ret nm Q pc lv st h n k sl :=
  fun C H locs ls hR hS hl => kk C C H locs ls hR hS hl
theorem jC.ex (C : jC b D Y s0 p s m args meth c own cc nL ret nm) : p.tables.exec = Jvm.exec := C.1
theorem jC.by (C : jC b D Y s0 p s m args meth c own cc nL ret nm) : c.code = cc := C.2.1
theorem jC.ml (C : jC b D Y s0 p s m args meth c own cc nL ret nm) : c.maxLocals = nL := C.2.2.1
theorem jC.rt (C : jC b D Y s0 p s m args meth c own cc nL ret nm) : meth.sig.returnType = ret := C.2.2.2.1
theorem jC.ow (C : jC b D Y s0 p s m args meth c own cc nL ret nm) : s.vm.findClass own = some m.cls := C.2.2.2.2.1
theorem jC.lk (C : jC b D Y s0 p s m args meth c own cc nL ret nm) : meth.locks = false := C.2.2.2.2.2.1
theorem jC.na (C : jC b D Y s0 p s m args meth c own cc nL ret nm) : meth.name = nm := C.2.2.2.2.2.2.1
theorem jC.z (C : jC b D Y s0 p s m args meth c own cc nL ret nm) : jS0 b D Y s0 := C.2.2.2.2.2.2.2.1
theorem jC.v (C : jC b D Y s0 p s m args meth c own cc nL ret nm) : jV s0 s := C.2.2.2.2.2.2.2.2
theorem jC.w (C : jC b D Y s0 p s m args meth c own cc nL ret nm) {w : Cond} (hw : jG w) : w.before args s = true := C.v.word C.z hw
theorem jC.K (C : jC b D Y s0 p s m args meth c own cc nL ret nm) : va_K D vcl (jTy Y) s := C.v.K C.z
end JR
end
section
section JRW
variable {b : Nat} {D : va_G} {Y : Nat → ClassId} {s0 : State} {p : Program} {l : Launch} {e : Env} {R : Room} {s : State} {m : MethodId} {args : Array Value} {below : List Frame} {meth : Method} {c : Code} {own : String} {cc : ByteArray} {nL : Nat} {ret : Option FieldType} {nm : String} {Q : State → Prop} {pc : Nat} {lv : List (Nat × Value)} {st : List Value} {h : jH} {n k sl : Nat}
theorem j_iconst {z : Int} {v : Int32} (hd : decode cc pc = .ok (.iconst z, 1)) (hv : Int32.ofInt z = v) (kk : jW b D Y s0 p l e R s m args below meth c own cc nL ret nm Q (pc + 1) lv (.int v :: st) h n k sl) : jW b D Y s0 p l e R s m args below meth c own cc nL ret nm Q pc lv st h n k sl := fun C H locs ls hR hS hl => lv_iconst C.ex C.by hd hv (kk C H locs ls hR hS hl)
theorem j_bipush {z : Int} {v : Int32} (hd : decode cc pc = .ok (.bipush z, 2)) (hv : (Int8.ofInt z).toInt32 = v) (kk : jW b D Y s0 p l e R s m args below meth c own cc nL ret nm Q (pc + 2) lv (.int v :: st) h n k sl) : jW b D Y s0 p l e R s m args below meth c own cc nL ret nm Q pc lv st h n k sl := fun C H locs ls hR hS hl => lv_bipush C.ex C.by hd hv (kk C H locs ls hR hS hl)
theorem j_sipush {z : Int} {v : Int32} (hd : decode cc pc = .ok (.sipush z, 3)) (hv : (Int16.ofInt z).toInt32 = v) (kk : jW b D Y s0 p l e R s m args below meth c own cc nL ret nm Q (pc + 3) lv (.int v :: st) h n k sl) : jW b D Y s0 p l e R s m args below meth c own cc nL ret nm Q pc lv st h n k sl := fun C H locs ls hR hS hl => lv_sipush C.ex C.by hd hv (kk C H locs ls hR hS hl)
theorem j_lconst {z : Fin 2} {v : Int64} (hd : decode cc pc = .ok (.lconst z, 1)) (hv : Int64.ofNat (z : Nat) = v) (kk : jW b D Y s0 p l e R s m args below meth c own cc nL ret nm Q (pc + 1) lv (.long v :: st) h n k sl) : jW b D Y s0 p l e R s m args below meth c own cc nL ret nm Q pc lv st h n k sl := fun C H locs ls hR hS hl => lv_lconst C.ex C.by hd hv (kk C H locs ls hR hS hl)
theorem j_iadd {x y : Int32} (hd : decode cc pc = .ok (.iadd, 1))  (kk : jW b D Y s0 p l e R s m args below meth c own cc nL ret nm Q (pc + 1) lv (.int (x + y) :: st) h n k sl) : jW b D Y s0 p l e R s m args below meth c own cc nL ret nm Q pc lv (.int y :: .int x :: st) h n k sl := fun C H locs ls hR hS hl => lv_iadd C.ex C.by hd  (kk C H locs ls hR hS hl)
theorem j_isub {x y : Int32} (hd : decode cc pc = .ok (.isub, 1))  (kk : jW b D Y s0 p l e R s m args below meth c own cc nL ret nm Q (pc + 1) lv (.int (x - y) :: st) h n k sl) : jW b D Y s0 p l e R s m args below meth c own cc nL ret nm Q pc lv (.int y :: .int x :: st) h n k sl := fun C H locs ls hR hS hl => lv_isub C.ex C.by hd  (kk C H locs ls hR hS hl)
theorem j_imul {x y : Int32} (hd : decode cc pc = .ok (.imul, 1))  (kk : jW b D Y s0 p l e R s m args below meth c own cc nL ret nm Q (pc + 1) lv (.int (x * y) :: st) h n k sl) : jW b D Y s0 p l e R s m args below meth c own cc nL ret nm Q pc lv (.int y :: .int x :: st) h n k sl := fun C H locs ls hR hS hl => lv_imul C.ex C.by hd  (kk C H locs ls hR hS hl)
theorem j_iand {x y : Int32} (hd : decode cc pc = .ok (.iand, 1))  (kk : jW b D Y s0 p l e R s m args below meth c own cc nL ret nm Q (pc + 1) lv (.int (x &&& y) :: st) h n k sl) : jW b D Y s0 p l e R s m args below meth c own cc nL ret nm Q pc lv (.int y :: .int x :: st) h n k sl := fun C H locs ls hR hS hl => lv_iand C.ex C.by hd  (kk C H locs ls hR hS hl)
theorem j_ior {x y : Int32} (hd : decode cc pc = .ok (.ior, 1))  (kk : jW b D Y s0 p l e R s m args below meth c own cc nL ret nm Q (pc + 1) lv (.int (x ||| y) :: st) h n k sl) : jW b D Y s0 p l e R s m args below meth c own cc nL ret nm Q pc lv (.int y :: .int x :: st) h n k sl := fun C H locs ls hR hS hl => lv_ior C.ex C.by hd  (kk C H locs ls hR hS hl)
theorem j_ladd {x y : Int64} (hd : decode cc pc = .ok (.ladd, 1))  (kk : jW b D Y s0 p l e R s m args below meth c own cc nL ret nm Q (pc + 1) lv (.long (x + y) :: st) h n k sl) : jW b D Y s0 p l e R s m args below meth c own cc nL ret nm Q pc lv (.long y :: .long x :: st) h n k sl := fun C H locs ls hR hS hl => lv_ladd C.ex C.by hd  (kk C H locs ls hR hS hl)
theorem j_lsub {x y : Int64} (hd : decode cc pc = .ok (.lsub, 1))  (kk : jW b D Y s0 p l e R s m args below meth c own cc nL ret nm Q (pc + 1) lv (.long (x - y) :: st) h n k sl) : jW b D Y s0 p l e R s m args below meth c own cc nL ret nm Q pc lv (.long y :: .long x :: st) h n k sl := fun C H locs ls hR hS hl => lv_lsub C.ex C.by hd  (kk C H locs ls hR hS hl)
theorem j_lmul {x y : Int64} (hd : decode cc pc = .ok (.lmul, 1))  (kk : jW b D Y s0 p l e R s m args below meth c own cc nL ret nm Q (pc + 1) lv (.long (x * y) :: st) h n k sl) : jW b D Y s0 p l e R s m args below meth c own cc nL ret nm Q pc lv (.long y :: .long x :: st) h n k sl := fun C H locs ls hR hS hl => lv_lmul C.ex C.by hd  (kk C H locs ls hR hS hl)
theorem j_land {x y : Int64} (hd : decode cc pc = .ok (.land, 1))  (kk : jW b D Y s0 p l e R s m args below meth c own cc nL ret nm Q (pc + 1) lv (.long (x &&& y) :: st) h n k sl) : jW b D Y s0 p l e R s m args below meth c own cc nL ret nm Q pc lv (.long y :: .long x :: st) h n k sl := fun C H locs ls hR hS hl => lv_land C.ex C.by hd  (kk C H locs ls hR hS hl)
theorem j_lor {x y : Int64} (hd : decode cc pc = .ok (.lor, 1))  (kk : jW b D Y s0 p l e R s m args below meth c own cc nL ret nm Q (pc + 1) lv (.long (x ||| y) :: st) h n k sl) : jW b D Y s0 p l e R s m args below meth c own cc nL ret nm Q pc lv (.long y :: .long x :: st) h n k sl := fun C H locs ls hR hS hl => lv_lor C.ex C.by hd  (kk C H locs ls hR hS hl)
theorem j_lxor {x y : Int64} (hd : decode cc pc = .ok (.lxor, 1))  (kk : jW b D Y s0 p l e R s m args below meth c own cc nL ret nm Q (pc + 1) lv (.long (x ^^^ y) :: st) h n k sl) : jW b D Y s0 p l e R s m args below meth c own cc nL ret nm Q pc lv (.long y :: .long x :: st) h n k sl := fun C H locs ls hR hS hl => lv_lxor C.ex C.by hd  (kk C H locs ls hR hS hl)
theorem j_lrem {x y : Int64} (hd : decode cc pc = .ok (.lrem, 1)) (hne : ¬ y = 0) (kk : jW b D Y s0 p l e R s m args below meth c own cc nL ret nm Q (pc + 1) lv (.long (x - x / y * y) :: st) h n k sl) : jW b D Y s0 p l e R s m args below meth c own cc nL ret nm Q pc lv (.long y :: .long x :: st) h n k sl := fun C H locs ls hR hS hl => lv_lrem C.ex C.by hd hne (kk C H locs ls hR hS hl)
theorem j_ldiv {x y : Int64} (hd : decode cc pc = .ok (.ldiv, 1)) (hne : ¬ y = 0) (kk : jW b D Y s0 p l e R s m args below meth c own cc nL ret nm Q (pc + 1) lv (.long (x / y) :: st) h n k sl) : jW b D Y s0 p l e R s m args below meth c own cc nL ret nm Q pc lv (.long y :: .long x :: st) h n k sl := fun C H locs ls hR hS hl => lv_ldiv C.ex C.by hd hne (kk C H locs ls hR hS hl)
theorem j_lneg {x : Int64} (hd : decode cc pc = .ok (.lneg, 1))  (kk : jW b D Y s0 p l e R s m args below meth c own cc nL ret nm Q (pc + 1) lv (.long (-x) :: st) h n k sl) : jW b D Y s0 p l e R s m args below meth c own cc nL ret nm Q pc lv (.long x :: st) h n k sl := fun C H locs ls hR hS hl => lv_lneg C.ex C.by hd  (kk C H locs ls hR hS hl)
theorem j_ineg {x : Int32} (hd : decode cc pc = .ok (.ineg, 1))  (kk : jW b D Y s0 p l e R s m args below meth c own cc nL ret nm Q (pc + 1) lv (.int (-x) :: st) h n k sl) : jW b D Y s0 p l e R s m args below meth c own cc nL ret nm Q pc lv (.int x :: st) h n k sl := fun C H locs ls hR hS hl => lv_ineg C.ex C.by hd  (kk C H locs ls hR hS hl)
theorem j_i2l {x : Int32} {v : Int64} (hd : decode cc pc = .ok (.i2l, 1)) (hv : x.toInt64 = v) (kk : jW b D Y s0 p l e R s m args below meth c own cc nL ret nm Q (pc + 1) lv (.long v :: st) h n k sl) : jW b D Y s0 p l e R s m args below meth c own cc nL ret nm Q pc lv (.int x :: st) h n k sl := fun C H locs ls hR hS hl => lv_i2l C.ex C.by hd hv (kk C H locs ls hR hS hl)
theorem j_l2i {x : Int64} {v : Int32} (hd : decode cc pc = .ok (.l2i, 1)) (hv : x.toInt32 = v) (kk : jW b D Y s0 p l e R s m args below meth c own cc nL ret nm Q (pc + 1) lv (.int v :: st) h n k sl) : jW b D Y s0 p l e R s m args below meth c own cc nL ret nm Q pc lv (.long x :: st) h n k sl := fun C H locs ls hR hS hl => lv_l2i C.ex C.by hd hv (kk C H locs ls hR hS hl)
theorem j_lshl {x v : Int64} {y : Int32} (hd : decode cc pc = .ok (.lshl, 1)) (hv : x <<< (y.toInt64 &&& 63) = v) (kk : jW b D Y s0 p l e R s m args below meth c own cc nL ret nm Q (pc + 1) lv (.long v :: st) h n k sl) : jW b D Y s0 p l e R s m args below meth c own cc nL ret nm Q pc lv (.int y :: .long x :: st) h n k sl := fun C H locs ls hR hS hl => lv_lshl C.ex C.by hd hv (kk C H locs ls hR hS hl)
theorem j_lshr {x v : Int64} {y : Int32} (hd : decode cc pc = .ok (.lshr, 1)) (hv : x >>> (y.toInt64 &&& 63) = v) (kk : jW b D Y s0 p l e R s m args below meth c own cc nL ret nm Q (pc + 1) lv (.long v :: st) h n k sl) : jW b D Y s0 p l e R s m args below meth c own cc nL ret nm Q pc lv (.int y :: .long x :: st) h n k sl := fun C H locs ls hR hS hl => lv_lshr C.ex C.by hd hv (kk C H locs ls hR hS hl)
theorem j_lcmp {x y : Int64} (hd : decode cc pc = .ok (.lcmp, 1))  (kk : jW b D Y s0 p l e R s m args below meth c own cc nL ret nm Q (pc + 1) lv (.int (lg_cmp x y) :: st) h n k sl) : jW b D Y s0 p l e R s m args below meth c own cc nL ret nm Q pc lv (.long y :: .long x :: st) h n k sl := fun C H locs ls hR hS hl => W.lcmp C.ex C.by hd  (kk C H locs ls hR hS hl)
theorem j_dup {va : Value} (hd : decode cc pc = .ok (.dup, 1)) (hva : va.category = 1) (kk : jW b D Y s0 p l e R s m args below meth c own cc nL ret nm Q (pc + 1) lv (va :: va :: st) h n k sl) : jW b D Y s0 p l e R s m args below meth c own cc nL ret nm Q pc lv (va :: st) h n k sl := fun C H locs ls hR hS hl => lv_dup C.ex C.by hd hva (kk C H locs ls hR hS hl)
theorem j_pop {va : Value} (hd : decode cc pc = .ok (.pop, 1)) (hva : va.category = 1) (kk : jW b D Y s0 p l e R s m args below meth c own cc nL ret nm Q (pc + 1) lv st h n k sl) : jW b D Y s0 p l e R s m args below meth c own cc nL ret nm Q pc lv (va :: st) h n k sl := fun C H locs ls hR hS hl => lv_pop C.ex C.by hd hva (kk C H locs ls hR hS hl)
theorem j_pop2 {va : Value} (hd : decode cc pc = .ok (.pop2, 1)) (hva : va.category = 2) (kk : jW b D Y s0 p l e R s m args below meth c own cc nL ret nm Q (pc + 1) lv st h n k sl) : jW b D Y s0 p l e R s m args below meth c own cc nL ret nm Q pc lv (va :: st) h n k sl := fun C H locs ls hR hS hl => lv_pop2_2 C.ex C.by hd hva (kk C H locs ls hR hS hl)
theorem j_dup_x1 {va vb : Value} (hd : decode cc pc = .ok (.dup_x1, 1)) (hva : va.category = 1) (hvb : vb.category = 1) (kk : jW b D Y s0 p l e R s m args below meth c own cc nL ret nm Q (pc + 1) lv (va :: vb :: va :: st) h n k sl) : jW b D Y s0 p l e R s m args below meth c own cc nL ret nm Q pc lv (va :: vb :: st) h n k sl := fun C H locs ls hR hS hl => lv_dup_x1 C.ex C.by hd hva hvb (kk C H locs ls hR hS hl)
theorem j_dup2_11 {va vb : Value} (hd : decode cc pc = .ok (.dup2, 1)) (hva : va.category = 1) (hvb : vb.category = 1) (kk : jW b D Y s0 p l e R s m args below meth c own cc nL ret nm Q (pc + 1) lv (va :: vb :: va :: vb :: st) h n k sl) : jW b D Y s0 p l e R s m args below meth c own cc nL ret nm Q pc lv (va :: vb :: st) h n k sl := fun C H locs ls hR hS hl => lv_dup2_11 C.ex C.by hd hva hvb (kk C H locs ls hR hS hl)
theorem j_iload_n {f : Fin 4} {x : Int32} (hd : decode cc pc = .ok (.iload_n f, 1)) (q : Nat) (hq : lv[q]? = some ((f : Nat), .int x)) (kk : jW b D Y s0 p l e R s m args below meth c own cc nL ret nm Q (pc + 1) lv (.int x :: st) h n k sl) : jW b D Y s0 p l e R s m args below meth c own cc nL ret nm Q pc lv st h n k sl := fun C H locs ls hR hS hl => lv_iload_n C.ex C.by hd rfl (lv_at hl q hq) (kk C H locs ls hR hS hl)
theorem j_iload {i : Nat} {x : Int32} (hd : decode cc pc = .ok (.iload i, 2)) (q : Nat) (hq : lv[q]? = some (i, .int x)) (kk : jW b D Y s0 p l e R s m args below meth c own cc nL ret nm Q (pc + 2) lv (.int x :: st) h n k sl) : jW b D Y s0 p l e R s m args below meth c own cc nL ret nm Q pc lv st h n k sl := fun C H locs ls hR hS hl => lv_iload C.ex C.by hd (lv_at hl q hq) (kk C H locs ls hR hS hl)
theorem j_lload_n {f : Fin 4} {x : Int64} (hd : decode cc pc = .ok (.lload_n f, 1)) (q : Nat) (hq : lv[q]? = some ((f : Nat), .long x)) (kk : jW b D Y s0 p l e R s m args below meth c own cc nL ret nm Q (pc + 1) lv (.long x :: st) h n k sl) : jW b D Y s0 p l e R s m args below meth c own cc nL ret nm Q pc lv st h n k sl := fun C H locs ls hR hS hl => lv_lload_n C.ex C.by hd rfl (lv_at hl q hq) (kk C H locs ls hR hS hl)
theorem j_lload {i : Nat} {x : Int64} (hd : decode cc pc = .ok (.lload i, 2)) (q : Nat) (hq : lv[q]? = some (i, .long x)) (kk : jW b D Y s0 p l e R s m args below meth c own cc nL ret nm Q (pc + 2) lv (.long x :: st) h n k sl) : jW b D Y s0 p l e R s m args below meth c own cc nL ret nm Q pc lv st h n k sl := fun C H locs ls hR hS hl => lv_lload C.ex C.by hd (lv_at hl q hq) (kk C H locs ls hR hS hl)
theorem j_aload_n {f : Fin 4} {x : Nat} (hd : decode cc pc = .ok (.aload_n f, 1)) (q : Nat) (hq : lv[q]? = some ((f : Nat), .ref x)) (kk : jW b D Y s0 p l e R s m args below meth c own cc nL ret nm Q (pc + 1) lv (.ref x :: st) h n k sl) : jW b D Y s0 p l e R s m args below meth c own cc nL ret nm Q pc lv st h n k sl := fun C H locs ls hR hS hl => lv_aload_n C.ex C.by hd rfl (lv_at hl q hq) (kk C H locs ls hR hS hl)
theorem j_aload {i : Nat} {x : Nat} (hd : decode cc pc = .ok (.aload i, 2)) (q : Nat) (hq : lv[q]? = some (i, .ref x)) (kk : jW b D Y s0 p l e R s m args below meth c own cc nL ret nm Q (pc + 2) lv (.ref x :: st) h n k sl) : jW b D Y s0 p l e R s m args below meth c own cc nL ret nm Q pc lv st h n k sl := fun C H locs ls hR hS hl => lv_aload C.ex C.by hd (lv_at hl q hq) (kk C H locs ls hR hS hl)
theorem j_istore_n {f : Fin 4} {x : Int32} {lv2 : List (Nat × Value)} (hd : decode cc pc = .ok (.istore_n f, 1)) (hn : (f : Nat) < nL) (h2 : ((f : Nat), Value.int x) :: lv.filter (fun q => !(q.1 == (f : Nat)) && !(q.1 + 1 == (f : Nat) && q.2.category == 2)) = lv2) (kk : jW b D Y s0 p l e R s m args below meth c own cc nL ret nm Q (pc + 1) lv2 st h n k sl) : jW b D Y s0 p l e R s m args below meth c own cc nL ret nm Q pc lv (.int x :: st) h n k sl := fun C H locs ls hR hS hl => lv_istore_n C.ex C.by hd rfl hl hn h2 (fun ls2 hl2 => kk C H locs ls2 hR hS hl2)
theorem j_istore {i : Nat} {x : Int32} {lv2 : List (Nat × Value)} (hd : decode cc pc = .ok (.istore i, 2)) (hn : i < nL) (h2 : (i, Value.int x) :: lv.filter (fun q => !(q.1 == i) && !(q.1 + 1 == i && q.2.category == 2)) = lv2) (kk : jW b D Y s0 p l e R s m args below meth c own cc nL ret nm Q (pc + 2) lv2 st h n k sl) : jW b D Y s0 p l e R s m args below meth c own cc nL ret nm Q pc lv (.int x :: st) h n k sl := fun C H locs ls hR hS hl => lv_istore C.ex C.by hd hl hn h2 (fun ls2 hl2 => kk C H locs ls2 hR hS hl2)
theorem j_lstore_n {f : Fin 4} {x : Int64} {lv2 : List (Nat × Value)} (hd : decode cc pc = .ok (.lstore_n f, 1)) (hn : (f : Nat) + 1 < nL) (h2 : ((f : Nat), Value.long x) :: lv.filter (fun q => !(q.1 == (f : Nat)) && (!(q.1 == (f : Nat) + 1) && !(q.1 + 1 == (f : Nat) && q.2.category == 2))) = lv2) (kk : jW b D Y s0 p l e R s m args below meth c own cc nL ret nm Q (pc + 1) lv2 st h n k sl) : jW b D Y s0 p l e R s m args below meth c own cc nL ret nm Q pc lv (.long x :: st) h n k sl := fun C H locs ls hR hS hl => lv_lstore_n C.ex C.by hd rfl hl hn h2 (fun ls2 hl2 => kk C H locs ls2 hR hS hl2)
theorem j_lstore {i : Nat} {x : Int64} {lv2 : List (Nat × Value)} (hd : decode cc pc = .ok (.lstore i, 2)) (hn : i + 1 < nL) (h2 : (i, Value.long x) :: lv.filter (fun q => !(q.1 == i) && (!(q.1 == i + 1) && !(q.1 + 1 == i && q.2.category == 2))) = lv2) (kk : jW b D Y s0 p l e R s m args below meth c own cc nL ret nm Q (pc + 2) lv2 st h n k sl) : jW b D Y s0 p l e R s m args below meth c own cc nL ret nm Q pc lv (.long x :: st) h n k sl := fun C H locs ls hR hS hl => lv_lstore C.ex C.by hd hl hn h2 (fun ls2 hl2 => kk C H locs ls2 hR hS hl2)
theorem j_astore_n {f : Fin 4} {x : Nat} {lv2 : List (Nat × Value)} (hd : decode cc pc = .ok (.astore_n f, 1)) (hn : (f : Nat) < nL) (h2 : ((f : Nat), Value.ref x) :: lv.filter (fun q => !(q.1 == (f : Nat)) && !(q.1 + 1 == (f : Nat) && q.2.category == 2)) = lv2) (kk : jW b D Y s0 p l e R s m args below meth c own cc nL ret nm Q (pc + 1) lv2 st h n k sl) : jW b D Y s0 p l e R s m args below meth c own cc nL ret nm Q pc lv (.ref x :: st) h n k sl := fun C H locs ls hR hS hl => lv_astore_n C.ex C.by hd rfl hl hn h2 (fun ls2 hl2 => kk C H locs ls2 hR hS hl2)
theorem j_astore {i : Nat} {x : Nat} {lv2 : List (Nat × Value)} (hd : decode cc pc = .ok (.astore i, 2)) (hn : i < nL) (h2 : (i, Value.ref x) :: lv.filter (fun q => !(q.1 == i) && !(q.1 + 1 == i && q.2.category == 2)) = lv2) (kk : jW b D Y s0 p l e R s m args below meth c own cc nL ret nm Q (pc + 2) lv2 st h n k sl) : jW b D Y s0 p l e R s m args below meth c own cc nL ret nm Q pc lv (.ref x :: st) h n k sl := fun C H locs ls hR hS hl => lv_astore C.ex C.by hd hl hn h2 (fun ls2 hl2 => kk C H locs ls2 hR hS hl2)
theorem j_iinc {i : Nat} {z : Int} {x v : Int32} {lv2 : List (Nat × Value)} (hd : decode cc pc = .ok (.iinc i z, 3)) (q : Nat) (hq : lv[q]? = some (i, .int x)) (hv : x + Int32.ofInt z = v) (hn : i < nL) (h2 : (i, Value.int v) :: lv.filter (fun q => !(q.1 == i) && !(q.1 + 1 == i && q.2.category == 2)) = lv2) (kk : jW b D Y s0 p l e R s m args below meth c own cc nL ret nm Q (pc + 3) lv2 st h n k sl) : jW b D Y s0 p l e R s m args below meth c own cc nL ret nm Q pc lv st h n k sl := fun C H locs ls hR hS hl => lv_iinc C.ex C.by hd hl hq hv hn h2 (fun ls2 hl2 => kk C H locs ls2 hR hS hl2)
theorem j_if_eq {x : Int32} {off : Int} {tgt : Nat} (hd : decode cc pc = .ok (.ifCond .eq off, 3)) (ht : (pc : Int) + off = (tgt : Int)) (kt : x = 0 → jW b D Y s0 p l e R s m args below meth c own cc nL ret nm Q tgt lv st h n k sl) (kf : ¬ x = 0 → jW b D Y s0 p l e R s m args below meth c own cc nL ret nm Q (pc + 3) lv st h n k sl) : jW b D Y s0 p l e R s m args below meth c own cc nL ret nm Q pc lv (.int x :: st) h n k sl := fun C H locs ls hR hS hl => lv_if_eq C.ex C.by hd ht (fun q => kt q C H locs ls hR hS hl) (fun q => kf q C H locs ls hR hS hl)
theorem j_if_eq_t {x : Int32} {off : Int} {tgt : Nat} (hd : decode cc pc = .ok (.ifCond .eq off, 3)) (ht : (pc : Int) + off = (tgt : Int)) (hc : x = 0) (kk : jW b D Y s0 p l e R s m args below meth c own cc nL ret nm Q tgt lv st h n k sl) : jW b D Y s0 p l e R s m args below meth c own cc nL ret nm Q pc lv (.int x :: st) h n k sl := fun C H locs ls hR hS hl => lv_if_eq C.ex C.by hd ht (fun _ => kk C H locs ls hR hS hl) (fun q => absurd hc q)
theorem j_if_eq_f {x : Int32} {off : Int} {tgt : Nat} (hd : decode cc pc = .ok (.ifCond .eq off, 3)) (ht : (pc : Int) + off = (tgt : Int)) (hc : ¬ x = 0) (kk : jW b D Y s0 p l e R s m args below meth c own cc nL ret nm Q (pc + 3) lv st h n k sl) : jW b D Y s0 p l e R s m args below meth c own cc nL ret nm Q pc lv (.int x :: st) h n k sl := fun C H locs ls hR hS hl => lv_if_eq C.ex C.by hd ht (fun q => absurd q hc) (fun _ => kk C H locs ls hR hS hl)
theorem j_icmp_eq {x y : Int32} {off : Int} {tgt : Nat} (hd : decode cc pc = .ok (.if_icmp .eq off, 3)) (ht : (pc : Int) + off = (tgt : Int)) (kt : x = y → jW b D Y s0 p l e R s m args below meth c own cc nL ret nm Q tgt lv st h n k sl) (kf : ¬ x = y → jW b D Y s0 p l e R s m args below meth c own cc nL ret nm Q (pc + 3) lv st h n k sl) : jW b D Y s0 p l e R s m args below meth c own cc nL ret nm Q pc lv (.int y :: .int x :: st) h n k sl := fun C H locs ls hR hS hl => lv_icmp_eq C.ex C.by hd ht (fun q => kt q C H locs ls hR hS hl) (fun q => kf q C H locs ls hR hS hl)
theorem j_icmp_eq_t {x y : Int32} {off : Int} {tgt : Nat} (hd : decode cc pc = .ok (.if_icmp .eq off, 3)) (ht : (pc : Int) + off = (tgt : Int)) (hc : x = y) (kk : jW b D Y s0 p l e R s m args below meth c own cc nL ret nm Q tgt lv st h n k sl) : jW b D Y s0 p l e R s m args below meth c own cc nL ret nm Q pc lv (.int y :: .int x :: st) h n k sl := fun C H locs ls hR hS hl => lv_icmp_eq C.ex C.by hd ht (fun _ => kk C H locs ls hR hS hl) (fun q => absurd hc q)
theorem j_icmp_eq_f {x y : Int32} {off : Int} {tgt : Nat} (hd : decode cc pc = .ok (.if_icmp .eq off, 3)) (ht : (pc : Int) + off = (tgt : Int)) (hc : ¬ x = y) (kk : jW b D Y s0 p l e R s m args below meth c own cc nL ret nm Q (pc + 3) lv st h n k sl) : jW b D Y s0 p l e R s m args below meth c own cc nL ret nm Q pc lv (.int y :: .int x :: st) h n k sl := fun C H locs ls hR hS hl => lv_icmp_eq C.ex C.by hd ht (fun q => absurd q hc) (fun _ => kk C H locs ls hR hS hl)
theorem j_if_ne {x : Int32} {off : Int} {tgt : Nat} (hd : decode cc pc = .ok (.ifCond .ne off, 3)) (ht : (pc : Int) + off = (tgt : Int)) (kt : ¬ x = 0 → jW b D Y s0 p l e R s m args below meth c own cc nL ret nm Q tgt lv st h n k sl) (kf : x = 0 → jW b D Y s0 p l e R s m args below meth c own cc nL ret nm Q (pc + 3) lv st h n k sl) : jW b D Y s0 p l e R s m args below meth c own cc nL ret nm Q pc lv (.int x :: st) h n k sl := fun C H locs ls hR hS hl => lv_if_ne C.ex C.by hd ht (fun q => kt q C H locs ls hR hS hl) (fun q => kf q C H locs ls hR hS hl)
theorem j_if_ne_t {x : Int32} {off : Int} {tgt : Nat} (hd : decode cc pc = .ok (.ifCond .ne off, 3)) (ht : (pc : Int) + off = (tgt : Int)) (hc : ¬ x = 0) (kk : jW b D Y s0 p l e R s m args below meth c own cc nL ret nm Q tgt lv st h n k sl) : jW b D Y s0 p l e R s m args below meth c own cc nL ret nm Q pc lv (.int x :: st) h n k sl := fun C H locs ls hR hS hl => lv_if_ne C.ex C.by hd ht (fun _ => kk C H locs ls hR hS hl) (fun q => absurd hc (by simpa using q))
theorem j_if_ne_f {x : Int32} {off : Int} {tgt : Nat} (hd : decode cc pc = .ok (.ifCond .ne off, 3)) (ht : (pc : Int) + off = (tgt : Int)) (hc : x = 0) (kk : jW b D Y s0 p l e R s m args below meth c own cc nL ret nm Q (pc + 3) lv st h n k sl) : jW b D Y s0 p l e R s m args below meth c own cc nL ret nm Q pc lv (.int x :: st) h n k sl := fun C H locs ls hR hS hl => lv_if_ne C.ex C.by hd ht (fun q => absurd hc q) (fun _ => kk C H locs ls hR hS hl)
theorem j_icmp_ne {x y : Int32} {off : Int} {tgt : Nat} (hd : decode cc pc = .ok (.if_icmp .ne off, 3)) (ht : (pc : Int) + off = (tgt : Int)) (kt : ¬ x = y → jW b D Y s0 p l e R s m args below meth c own cc nL ret nm Q tgt lv st h n k sl) (kf : x = y → jW b D Y s0 p l e R s m args below meth c own cc nL ret nm Q (pc + 3) lv st h n k sl) : jW b D Y s0 p l e R s m args below meth c own cc nL ret nm Q pc lv (.int y :: .int x :: st) h n k sl := fun C H locs ls hR hS hl => lv_icmp_ne C.ex C.by hd ht (fun q => kt q C H locs ls hR hS hl) (fun q => kf q C H locs ls hR hS hl)
theorem j_icmp_ne_t {x y : Int32} {off : Int} {tgt : Nat} (hd : decode cc pc = .ok (.if_icmp .ne off, 3)) (ht : (pc : Int) + off = (tgt : Int)) (hc : ¬ x = y) (kk : jW b D Y s0 p l e R s m args below meth c own cc nL ret nm Q tgt lv st h n k sl) : jW b D Y s0 p l e R s m args below meth c own cc nL ret nm Q pc lv (.int y :: .int x :: st) h n k sl := fun C H locs ls hR hS hl => lv_icmp_ne C.ex C.by hd ht (fun _ => kk C H locs ls hR hS hl) (fun q => absurd hc (by simpa using q))
theorem j_icmp_ne_f {x y : Int32} {off : Int} {tgt : Nat} (hd : decode cc pc = .ok (.if_icmp .ne off, 3)) (ht : (pc : Int) + off = (tgt : Int)) (hc : x = y) (kk : jW b D Y s0 p l e R s m args below meth c own cc nL ret nm Q (pc + 3) lv st h n k sl) : jW b D Y s0 p l e R s m args below meth c own cc nL ret nm Q pc lv (.int y :: .int x :: st) h n k sl := fun C H locs ls hR hS hl => lv_icmp_ne C.ex C.by hd ht (fun q => absurd hc q) (fun _ => kk C H locs ls hR hS hl)
theorem j_if_lt {x : Int32} {off : Int} {tgt : Nat} (hd : decode cc pc = .ok (.ifCond .lt off, 3)) (ht : (pc : Int) + off = (tgt : Int)) (kt : x < 0 → jW b D Y s0 p l e R s m args below meth c own cc nL ret nm Q tgt lv st h n k sl) (kf : ¬ x < 0 → jW b D Y s0 p l e R s m args below meth c own cc nL ret nm Q (pc + 3) lv st h n k sl) : jW b D Y s0 p l e R s m args below meth c own cc nL ret nm Q pc lv (.int x :: st) h n k sl := fun C H locs ls hR hS hl => lv_if_lt C.ex C.by hd ht (fun q => kt q C H locs ls hR hS hl) (fun q => kf q C H locs ls hR hS hl)
theorem j_if_lt_t {x : Int32} {off : Int} {tgt : Nat} (hd : decode cc pc = .ok (.ifCond .lt off, 3)) (ht : (pc : Int) + off = (tgt : Int)) (hc : x < 0) (kk : jW b D Y s0 p l e R s m args below meth c own cc nL ret nm Q tgt lv st h n k sl) : jW b D Y s0 p l e R s m args below meth c own cc nL ret nm Q pc lv (.int x :: st) h n k sl := fun C H locs ls hR hS hl => lv_if_lt C.ex C.by hd ht (fun _ => kk C H locs ls hR hS hl) (fun q => absurd hc q)
theorem j_if_lt_f {x : Int32} {off : Int} {tgt : Nat} (hd : decode cc pc = .ok (.ifCond .lt off, 3)) (ht : (pc : Int) + off = (tgt : Int)) (hc : ¬ x < 0) (kk : jW b D Y s0 p l e R s m args below meth c own cc nL ret nm Q (pc + 3) lv st h n k sl) : jW b D Y s0 p l e R s m args below meth c own cc nL ret nm Q pc lv (.int x :: st) h n k sl := fun C H locs ls hR hS hl => lv_if_lt C.ex C.by hd ht (fun q => absurd q hc) (fun _ => kk C H locs ls hR hS hl)
theorem j_icmp_lt {x y : Int32} {off : Int} {tgt : Nat} (hd : decode cc pc = .ok (.if_icmp .lt off, 3)) (ht : (pc : Int) + off = (tgt : Int)) (kt : x < y → jW b D Y s0 p l e R s m args below meth c own cc nL ret nm Q tgt lv st h n k sl) (kf : ¬ x < y → jW b D Y s0 p l e R s m args below meth c own cc nL ret nm Q (pc + 3) lv st h n k sl) : jW b D Y s0 p l e R s m args below meth c own cc nL ret nm Q pc lv (.int y :: .int x :: st) h n k sl := fun C H locs ls hR hS hl => lv_icmp_lt C.ex C.by hd ht (fun q => kt q C H locs ls hR hS hl) (fun q => kf q C H locs ls hR hS hl)
theorem j_icmp_lt_t {x y : Int32} {off : Int} {tgt : Nat} (hd : decode cc pc = .ok (.if_icmp .lt off, 3)) (ht : (pc : Int) + off = (tgt : Int)) (hc : x < y) (kk : jW b D Y s0 p l e R s m args below meth c own cc nL ret nm Q tgt lv st h n k sl) : jW b D Y s0 p l e R s m args below meth c own cc nL ret nm Q pc lv (.int y :: .int x :: st) h n k sl := fun C H locs ls hR hS hl => lv_icmp_lt C.ex C.by hd ht (fun _ => kk C H locs ls hR hS hl) (fun q => absurd hc q)
theorem j_icmp_lt_f {x y : Int32} {off : Int} {tgt : Nat} (hd : decode cc pc = .ok (.if_icmp .lt off, 3)) (ht : (pc : Int) + off = (tgt : Int)) (hc : ¬ x < y) (kk : jW b D Y s0 p l e R s m args below meth c own cc nL ret nm Q (pc + 3) lv st h n k sl) : jW b D Y s0 p l e R s m args below meth c own cc nL ret nm Q pc lv (.int y :: .int x :: st) h n k sl := fun C H locs ls hR hS hl => lv_icmp_lt C.ex C.by hd ht (fun q => absurd q hc) (fun _ => kk C H locs ls hR hS hl)
theorem j_if_ge {x : Int32} {off : Int} {tgt : Nat} (hd : decode cc pc = .ok (.ifCond .ge off, 3)) (ht : (pc : Int) + off = (tgt : Int)) (kt : 0 ≤ x → jW b D Y s0 p l e R s m args below meth c own cc nL ret nm Q tgt lv st h n k sl) (kf : ¬ 0 ≤ x → jW b D Y s0 p l e R s m args below meth c own cc nL ret nm Q (pc + 3) lv st h n k sl) : jW b D Y s0 p l e R s m args below meth c own cc nL ret nm Q pc lv (.int x :: st) h n k sl := fun C H locs ls hR hS hl => lv_if_ge C.ex C.by hd ht (fun q => kt q C H locs ls hR hS hl) (fun q => kf q C H locs ls hR hS hl)
theorem j_if_ge_t {x : Int32} {off : Int} {tgt : Nat} (hd : decode cc pc = .ok (.ifCond .ge off, 3)) (ht : (pc : Int) + off = (tgt : Int)) (hc : 0 ≤ x) (kk : jW b D Y s0 p l e R s m args below meth c own cc nL ret nm Q tgt lv st h n k sl) : jW b D Y s0 p l e R s m args below meth c own cc nL ret nm Q pc lv (.int x :: st) h n k sl := fun C H locs ls hR hS hl => lv_if_ge C.ex C.by hd ht (fun _ => kk C H locs ls hR hS hl) (fun q => absurd hc q)
theorem j_if_ge_f {x : Int32} {off : Int} {tgt : Nat} (hd : decode cc pc = .ok (.ifCond .ge off, 3)) (ht : (pc : Int) + off = (tgt : Int)) (hc : ¬ 0 ≤ x) (kk : jW b D Y s0 p l e R s m args below meth c own cc nL ret nm Q (pc + 3) lv st h n k sl) : jW b D Y s0 p l e R s m args below meth c own cc nL ret nm Q pc lv (.int x :: st) h n k sl := fun C H locs ls hR hS hl => lv_if_ge C.ex C.by hd ht (fun q => absurd q hc) (fun _ => kk C H locs ls hR hS hl)
theorem j_icmp_ge {x y : Int32} {off : Int} {tgt : Nat} (hd : decode cc pc = .ok (.if_icmp .ge off, 3)) (ht : (pc : Int) + off = (tgt : Int)) (kt : y ≤ x → jW b D Y s0 p l e R s m args below meth c own cc nL ret nm Q tgt lv st h n k sl) (kf : ¬ y ≤ x → jW b D Y s0 p l e R s m args below meth c own cc nL ret nm Q (pc + 3) lv st h n k sl) : jW b D Y s0 p l e R s m args below meth c own cc nL ret nm Q pc lv (.int y :: .int x :: st) h n k sl := fun C H locs ls hR hS hl => lv_icmp_ge C.ex C.by hd ht (fun q => kt q C H locs ls hR hS hl) (fun q => kf q C H locs ls hR hS hl)
theorem j_icmp_ge_t {x y : Int32} {off : Int} {tgt : Nat} (hd : decode cc pc = .ok (.if_icmp .ge off, 3)) (ht : (pc : Int) + off = (tgt : Int)) (hc : y ≤ x) (kk : jW b D Y s0 p l e R s m args below meth c own cc nL ret nm Q tgt lv st h n k sl) : jW b D Y s0 p l e R s m args below meth c own cc nL ret nm Q pc lv (.int y :: .int x :: st) h n k sl := fun C H locs ls hR hS hl => lv_icmp_ge C.ex C.by hd ht (fun _ => kk C H locs ls hR hS hl) (fun q => absurd hc q)
theorem j_icmp_ge_f {x y : Int32} {off : Int} {tgt : Nat} (hd : decode cc pc = .ok (.if_icmp .ge off, 3)) (ht : (pc : Int) + off = (tgt : Int)) (hc : ¬ y ≤ x) (kk : jW b D Y s0 p l e R s m args below meth c own cc nL ret nm Q (pc + 3) lv st h n k sl) : jW b D Y s0 p l e R s m args below meth c own cc nL ret nm Q pc lv (.int y :: .int x :: st) h n k sl := fun C H locs ls hR hS hl => lv_icmp_ge C.ex C.by hd ht (fun q => absurd q hc) (fun _ => kk C H locs ls hR hS hl)
theorem j_if_gt {x : Int32} {off : Int} {tgt : Nat} (hd : decode cc pc = .ok (.ifCond .gt off, 3)) (ht : (pc : Int) + off = (tgt : Int)) (kt : 0 < x → jW b D Y s0 p l e R s m args below meth c own cc nL ret nm Q tgt lv st h n k sl) (kf : ¬ 0 < x → jW b D Y s0 p l e R s m args below meth c own cc nL ret nm Q (pc + 3) lv st h n k sl) : jW b D Y s0 p l e R s m args below meth c own cc nL ret nm Q pc lv (.int x :: st) h n k sl := fun C H locs ls hR hS hl => lv_if_gt C.ex C.by hd ht (fun q => kt q C H locs ls hR hS hl) (fun q => kf q C H locs ls hR hS hl)
theorem j_if_gt_t {x : Int32} {off : Int} {tgt : Nat} (hd : decode cc pc = .ok (.ifCond .gt off, 3)) (ht : (pc : Int) + off = (tgt : Int)) (hc : 0 < x) (kk : jW b D Y s0 p l e R s m args below meth c own cc nL ret nm Q tgt lv st h n k sl) : jW b D Y s0 p l e R s m args below meth c own cc nL ret nm Q pc lv (.int x :: st) h n k sl := fun C H locs ls hR hS hl => lv_if_gt C.ex C.by hd ht (fun _ => kk C H locs ls hR hS hl) (fun q => absurd hc q)
theorem j_if_gt_f {x : Int32} {off : Int} {tgt : Nat} (hd : decode cc pc = .ok (.ifCond .gt off, 3)) (ht : (pc : Int) + off = (tgt : Int)) (hc : ¬ 0 < x) (kk : jW b D Y s0 p l e R s m args below meth c own cc nL ret nm Q (pc + 3) lv st h n k sl) : jW b D Y s0 p l e R s m args below meth c own cc nL ret nm Q pc lv (.int x :: st) h n k sl := fun C H locs ls hR hS hl => lv_if_gt C.ex C.by hd ht (fun q => absurd q hc) (fun _ => kk C H locs ls hR hS hl)
theorem j_icmp_gt {x y : Int32} {off : Int} {tgt : Nat} (hd : decode cc pc = .ok (.if_icmp .gt off, 3)) (ht : (pc : Int) + off = (tgt : Int)) (kt : y < x → jW b D Y s0 p l e R s m args below meth c own cc nL ret nm Q tgt lv st h n k sl) (kf : ¬ y < x → jW b D Y s0 p l e R s m args below meth c own cc nL ret nm Q (pc + 3) lv st h n k sl) : jW b D Y s0 p l e R s m args below meth c own cc nL ret nm Q pc lv (.int y :: .int x :: st) h n k sl := fun C H locs ls hR hS hl => lv_icmp_gt C.ex C.by hd ht (fun q => kt q C H locs ls hR hS hl) (fun q => kf q C H locs ls hR hS hl)
theorem j_icmp_gt_t {x y : Int32} {off : Int} {tgt : Nat} (hd : decode cc pc = .ok (.if_icmp .gt off, 3)) (ht : (pc : Int) + off = (tgt : Int)) (hc : y < x) (kk : jW b D Y s0 p l e R s m args below meth c own cc nL ret nm Q tgt lv st h n k sl) : jW b D Y s0 p l e R s m args below meth c own cc nL ret nm Q pc lv (.int y :: .int x :: st) h n k sl := fun C H locs ls hR hS hl => lv_icmp_gt C.ex C.by hd ht (fun _ => kk C H locs ls hR hS hl) (fun q => absurd hc q)
theorem j_icmp_gt_f {x y : Int32} {off : Int} {tgt : Nat} (hd : decode cc pc = .ok (.if_icmp .gt off, 3)) (ht : (pc : Int) + off = (tgt : Int)) (hc : ¬ y < x) (kk : jW b D Y s0 p l e R s m args below meth c own cc nL ret nm Q (pc + 3) lv st h n k sl) : jW b D Y s0 p l e R s m args below meth c own cc nL ret nm Q pc lv (.int y :: .int x :: st) h n k sl := fun C H locs ls hR hS hl => lv_icmp_gt C.ex C.by hd ht (fun q => absurd q hc) (fun _ => kk C H locs ls hR hS hl)
theorem j_if_le {x : Int32} {off : Int} {tgt : Nat} (hd : decode cc pc = .ok (.ifCond .le off, 3)) (ht : (pc : Int) + off = (tgt : Int)) (kt : x ≤ 0 → jW b D Y s0 p l e R s m args below meth c own cc nL ret nm Q tgt lv st h n k sl) (kf : ¬ x ≤ 0 → jW b D Y s0 p l e R s m args below meth c own cc nL ret nm Q (pc + 3) lv st h n k sl) : jW b D Y s0 p l e R s m args below meth c own cc nL ret nm Q pc lv (.int x :: st) h n k sl := fun C H locs ls hR hS hl => lv_if_le C.ex C.by hd ht (fun q => kt q C H locs ls hR hS hl) (fun q => kf q C H locs ls hR hS hl)
theorem j_if_le_t {x : Int32} {off : Int} {tgt : Nat} (hd : decode cc pc = .ok (.ifCond .le off, 3)) (ht : (pc : Int) + off = (tgt : Int)) (hc : x ≤ 0) (kk : jW b D Y s0 p l e R s m args below meth c own cc nL ret nm Q tgt lv st h n k sl) : jW b D Y s0 p l e R s m args below meth c own cc nL ret nm Q pc lv (.int x :: st) h n k sl := fun C H locs ls hR hS hl => lv_if_le C.ex C.by hd ht (fun _ => kk C H locs ls hR hS hl) (fun q => absurd hc q)
theorem j_if_le_f {x : Int32} {off : Int} {tgt : Nat} (hd : decode cc pc = .ok (.ifCond .le off, 3)) (ht : (pc : Int) + off = (tgt : Int)) (hc : ¬ x ≤ 0) (kk : jW b D Y s0 p l e R s m args below meth c own cc nL ret nm Q (pc + 3) lv st h n k sl) : jW b D Y s0 p l e R s m args below meth c own cc nL ret nm Q pc lv (.int x :: st) h n k sl := fun C H locs ls hR hS hl => lv_if_le C.ex C.by hd ht (fun q => absurd q hc) (fun _ => kk C H locs ls hR hS hl)
theorem j_icmp_le {x y : Int32} {off : Int} {tgt : Nat} (hd : decode cc pc = .ok (.if_icmp .le off, 3)) (ht : (pc : Int) + off = (tgt : Int)) (kt : x ≤ y → jW b D Y s0 p l e R s m args below meth c own cc nL ret nm Q tgt lv st h n k sl) (kf : ¬ x ≤ y → jW b D Y s0 p l e R s m args below meth c own cc nL ret nm Q (pc + 3) lv st h n k sl) : jW b D Y s0 p l e R s m args below meth c own cc nL ret nm Q pc lv (.int y :: .int x :: st) h n k sl := fun C H locs ls hR hS hl => lv_icmp_le C.ex C.by hd ht (fun q => kt q C H locs ls hR hS hl) (fun q => kf q C H locs ls hR hS hl)
theorem j_icmp_le_t {x y : Int32} {off : Int} {tgt : Nat} (hd : decode cc pc = .ok (.if_icmp .le off, 3)) (ht : (pc : Int) + off = (tgt : Int)) (hc : x ≤ y) (kk : jW b D Y s0 p l e R s m args below meth c own cc nL ret nm Q tgt lv st h n k sl) : jW b D Y s0 p l e R s m args below meth c own cc nL ret nm Q pc lv (.int y :: .int x :: st) h n k sl := fun C H locs ls hR hS hl => lv_icmp_le C.ex C.by hd ht (fun _ => kk C H locs ls hR hS hl) (fun q => absurd hc q)
theorem j_icmp_le_f {x y : Int32} {off : Int} {tgt : Nat} (hd : decode cc pc = .ok (.if_icmp .le off, 3)) (ht : (pc : Int) + off = (tgt : Int)) (hc : ¬ x ≤ y) (kk : jW b D Y s0 p l e R s m args below meth c own cc nL ret nm Q (pc + 3) lv st h n k sl) : jW b D Y s0 p l e R s m args below meth c own cc nL ret nm Q pc lv (.int y :: .int x :: st) h n k sl := fun C H locs ls hR hS hl => lv_icmp_le C.ex C.by hd ht (fun q => absurd q hc) (fun _ => kk C H locs ls hR hS hl)
theorem j_goto {off : Int} {tgt : Nat} (hd : decode cc pc = .ok (.goto off, 3)) (ht : (pc : Int) + off = (tgt : Int)) (kk : jW b D Y s0 p l e R s m args below meth c own cc nL ret nm Q tgt lv st h n k sl) : jW b D Y s0 p l e R s m args below meth c own cc nL ret nm Q pc lv st h n k sl := fun C H locs ls hR hS hl => lv_goto C.ex C.by hd ht (kk C H locs ls hR hS hl)
theorem j_tableIn {dflt lo hi : Int} {offs : Array Int} {len : Nat} {x : Int32} {off : Int} {tgt : Nat} (hd : decode cc pc = .ok (.tableswitch dflt lo hi offs, len)) (h1 : ¬ x.toInt < lo) (h2 : ¬ hi < x.toInt) (ho : offs[(x.toInt - lo).toNat]? = some off) (ht : (pc : Int) + off = (tgt : Int)) (kk : jW b D Y s0 p l e R s m args below meth c own cc nL ret nm Q tgt lv st h n k sl) : jW b D Y s0 p l e R s m args below meth c own cc nL ret nm Q pc lv (.int x :: st) h n k sl := fun C H locs ls hR hS hl => lv_tableIn C.ex C.by hd h1 h2 ho ht (kk C H locs ls hR hS hl)
theorem j_ldc2 {index : Nat} {v : Int64} (hw : jG (.constantLong own index v)) (hd : decode cc pc = .ok (.ldc2_w index, 3)) (kk : jW b D Y s0 p l e R s m args below meth c own cc nL ret nm Q (pc + 3) lv (.long v :: st) h n k sl) : jW b D Y s0 p l e R s m args below meth c own cc nL ret nm Q pc lv st h n k sl := fun C H locs ls hR hS hl => lv_ldc2 C.ex C.by C.ow (C.w hw) hd (kk C H locs ls hR hS hl)
theorem j_get {Cn : String} {T : u_T} {N ci index kf a : Nat} {fs : List Value} {v : Value} (hin : ∀ w ∈ u_ws Cn T N, jG w) (hc : vcl[ci]? = some (Cn, T, N)) (hk : kf < N) (hw : jG (.fieldLink own index (T kf).1 (T kf).2.1 (T kf).2.2.1)) (hd : decode cc pc = .ok (.getfield index, 3)) (he : h a = some (.inr (ci, fs))) (hv : fs[kf]? = some v) (kk : jW b D Y s0 p l e R s m args below meth c own cc nL ret nm Q (pc + 3) lv (v :: st) h n k sl) : jW b D Y s0 p l e R s m args below meth c own cc nL ret nm Q pc lv (.ref a :: st) h n k sl := fun C H locs ls hR hS hl =>
  va_get (D := D) (Ts := u_ws Cn T N) C.ex C.by (fun w hw => C.w (hin w hw)) (fun _ h9 => h9) C.ow C.K (hR.P he) 0 rfl hc kf hk (C.w hw) (fun _ h9 => h9) hv hd (kk C H locs ls hR hS hl)
theorem j_put {Cn : String} {T : u_T} {N ci index kf a : Nat} {fs : List Value} {v : Value} {ty : FieldType} (hin : ∀ w ∈ u_ws Cn T N, jG w) (ty0 : Nat → FieldType) (hty : ∀ k, k < N → parseFieldDescriptor (T k).2.2.1 = some (ty0 k)) (hnm : ∀ a, a < N → ∀ b, b < N → a ≠ b → (T a).2.1 ≠ (T b).2.1) (hc : vcl[ci]? = some (Cn, T, N)) (hk : kf < N) (hw : jG (.fieldLink own index (T kf).1 (T kf).2.1 (T kf).2.2.1)) (hfin : (T kf).2.2.2 = false) (hdn : parseFieldDescriptor (T kf).2.2.1 = some ty) (hn : narrow ty v = v) (hfit : fits ty v = true) (hd : decode cc pc = .ok (.putfield index, 3)) (he : h a = some (.inr (ci, fs))) (hlen : kf < fs.length) (kk : jW b D Y s0 p l e R s m args below meth c own cc nL ret nm Q (pc + 3) lv st (jh_up h a (.inr (ci, fs.set kf v))) n k sl) : jW b D Y s0 p l e R s m args below meth c own cc nL ret nm Q pc lv (v :: .ref a :: st) h n k sl := by
  intro C H locs ls hR hS hl
  have hts : ∀ w ∈ u_ws Cn T N, w.before args s = true := fun w hw => C.w (hin w hw)
  have hK := C.K
  have hap := va_apart (own := own) hts (fun _ h9 => h9) ty0 hty hnm hK hc
  obtain ⟨⟨r, h1, cell, q1, q2, q3, q4⟩, hA⟩ := hR.2.1 a _ he
  have hr : r = (Cn, T, N) := Option.some.inj (h1.symm.trans hc)
  subst hr
  obtain ⟨hSl, hfc, kC, hkC, hkind⟩ := hK.1 ci _ hc
  obtain ⟨cf, kf2, fi, f, hi, hsl⟩ := hSl kf hk
  have hlay := hts _ (u_in_lay hk)
  unfold u_lay at hlay
  rw [if_neg (by rw [hfin]; decide)] at hlay
  have hst := (u_facts hfc hkC (u_lays hts (fun _ h9 => h9) hk) hi).1
  have h6 := u_store hfc hkC hkind hlay hi hdn hn hfit
  refine W.putK C.ex C.by (f := f) ⟨C.ow, C.w hw, ⟨_, _, _, hi⟩, hst⟩ (by rw [q2]; exact h6) q1 q3 (by rw [hsl]; exact k2_hasslot (q4 kf hk)) rfl rfl hd fun H1 e1 e2 e3 => ?_
  rw [hsl] at e1 ⊢
  exact kk C H1 _ ls (hR.put (x := .inr (ci, fs.set kf v)) ⟨_, hc, t_OB.to (V := updV (vp_V fs) kf v) ⟨_, e1, q2, q3, t_set q4 hap hk v⟩ (fun j _ => vp_updV_set hlen v j)⟩ hA e2 e3) (hS.put e2 e3 hA) hl
theorem j_putF {Cn : String} {T : u_T} {N ci index kf a : Nat} {fs : List Value} {v : Value} {ty : FieldType} (hin : ∀ w ∈ u_ws Cn T N, jG w) (ty0 : Nat → FieldType) (hty : ∀ k, k < N → parseFieldDescriptor (T k).2.2.1 = some (ty0 k)) (hnm : ∀ a, a < N → ∀ b, b < N → a ≠ b → (T a).2.1 ≠ (T b).2.1) (hc : vcl[ci]? = some (Cn, T, N)) (hk : kf < N) (hw : jG (.fieldLink own index (T kf).1 (T kf).2.1 (T kf).2.2.1)) (hfin : (T kf).2.2.2 = true) (hini : nm = "<init>") (hdecl : (T kf).1 = own) (hdn : parseFieldDescriptor (T kf).2.2.1 = some ty) (hn : narrow ty v = v) (hfit : fits ty v = true) (hd : decode cc pc = .ok (.putfield index, 3)) (he : h a = some (.inr (ci, fs))) (hlen : kf < fs.length) (kk : jW b D Y s0 p l e R s m args below meth c own cc nL ret nm Q (pc + 3) lv st (jh_up h a (.inr (ci, fs.set kf v))) n k sl) : jW b D Y s0 p l e R s m args below meth c own cc nL ret nm Q pc lv (v :: .ref a :: st) h n k sl := by
  intro C H locs ls hR hS hl
  have hts : ∀ w ∈ u_ws Cn T N, w.before args s = true := fun w hw => C.w (hin w hw)
  have hK := C.K
  have hap := va_apart (own := own) hts (fun _ h9 => h9) ty0 hty hnm hK hc
  obtain ⟨⟨r, h1, cell, q1, q2, q3, q4⟩, hA⟩ := hR.2.1 a _ he
  have hr : r = (Cn, T, N) := Option.some.inj (h1.symm.trans hc)
  subst hr
  obtain ⟨hSl, hfc, kC, hkC, hkind⟩ := hK.1 ci _ hc
  obtain ⟨cf, kf2, fi, f, hi, hsl⟩ := hSl kf hk
  have hlay := hts _ (u_in_lay hk)
  unfold u_lay at hlay
  rw [if_pos hfin] at hlay
  have hst := (u_facts hfc hkC (u_lays hts (fun _ h9 => h9) hk) hi).1
  have hcf : m.cls = cf := by
    obtain ⟨_, _, c1, _, _, _, -, -, hf1, -, -, -, hown2, -⟩ := Cond.laysFinal_spec hlay
    have e1 : c1 = cf := by have := hi.symm.trans hf1; simp at this; exact this.1.symm
    rw [hdecl] at hown2
    rw [← e1]; exact Option.some.inj (C.ow.symm.trans hown2)
  have h6 := u_fits hfc hkC hkind (Or.inr hlay) hi hdn hn hfit
  refine W.putFinK C.ex C.by C.ow (C.w hw) hi hst hcf (C.na.trans hini) (by rw [q2]; exact h6) q1 q3 (by rw [hsl]; exact k2_hasslot (q4 kf hk)) rfl rfl hd fun H1 e1 e2 e3 => ?_
  rw [hsl] at e1 ⊢
  exact kk C H1 _ ls (hR.put (x := .inr (ci, fs.set kf v)) ⟨_, hc, t_OB.to (V := updV (vp_V fs) kf v) ⟨_, e1, q2, q3, t_set q4 hap hk v⟩ (fun j _ => vp_updV_set hlen v j)⟩ hA e2 e3) (hS.put e2 e3 hA) hl
end JRW
end
section
section JRA
variable {b : Nat} {D : va_G} {Y : Nat → ClassId} {s0 : State} {p : Program} {l : Launch} {e : Env} {R : Room} {s : State} {m : MethodId} {args : Array Value} {below : List Frame} {meth : Method} {c : Code} {own : String} {cc : ByteArray} {nL : Nat} {ret : Option FieldType} {nm : String} {Q : State → Prop} {pc : Nat} {lv : List (Nat × Value)} {st : List Value} {h : jH} {n k sl : Nat}
theorem j_iald {a N : Nat} {f : Nat → Int32} {i : Int32} (hd : decode cc pc = .ok (.iaload, 1)) (he : h a = some (.inl (Y 0, N, .inl f))) (hi : vp_in i N) (kk : jW b D Y s0 p l e R s m args below meth c own cc nL ret nm Q (pc + 1) lv (.int (f i.toNatClampNeg) :: st) h n k sl) : jW b D Y s0 p l e R s m args below meth c own cc nL ret nm Q pc lv (.int i :: .ref a :: st) h n k sl := fun C H locs ls hR hS hl => va_iald C.ex C.by C.K (hR.P he) 0 0 rfl rfl hi hd (kk C H locs ls hR hS hl)
theorem j_zald {a N : Nat} {f : Nat → Int32} {i : Int32} (hd : decode cc pc = .ok (.baload, 1)) (he : h a = some (.inl (Y 2, N, .inl f))) (hi : vp_in i N) (kk : jW b D Y s0 p l e R s m args below meth c own cc nL ret nm Q (pc + 1) lv (.int (f i.toNatClampNeg) :: st) h n k sl) : jW b D Y s0 p l e R s m args below meth c own cc nL ret nm Q pc lv (.int i :: .ref a :: st) h n k sl := fun C H locs ls hR hS hl => va_zald C.ex C.by C.K (hR.P he) 0 2 rfl rfl hi hd (kk C H locs ls hR hS hl)
theorem j_lald {a N : Nat} {f : Nat → Int64} {i : Int32} (hd : decode cc pc = .ok (.laload, 1)) (he : h a = some (.inl (Y 1, N, .inr (.inl f)))) (hi : vp_in i N) (kk : jW b D Y s0 p l e R s m args below meth c own cc nL ret nm Q (pc + 1) lv (.long (f i.toNatClampNeg) :: st) h n k sl) : jW b D Y s0 p l e R s m args below meth c own cc nL ret nm Q pc lv (.int i :: .ref a :: st) h n k sl := fun C H locs ls hR hS hl => va_lald C.ex C.by C.K (hR.P he) 0 1 rfl rfl hi hd (kk C H locs ls hR hS hl)
theorem j_alen {a : Nat} {x : vp_A} {t : Nat} {ty : FieldType} {v : Int32} (t0 : Nat) (ht : (jTy Y)[t0]? = some (Y t, ty)) (hd : decode cc pc = .ok (.arraylength, 1)) (he : h a = some (.inl (Y t, x))) (hv : Int32.ofNat x.1 = v) (kk : jW b D Y s0 p l e R s m args below meth c own cc nL ret nm Q (pc + 1) lv (.int v :: st) h n k sl) : jW b D Y s0 p l e R s m args below meth c own cc nL ret nm Q pc lv (.ref a :: st) h n k sl := fun C H locs ls hR hS hl => va_alen C.ex C.by C.K (hR.P he) 0 t0 rfl ht hv hd (kk C H locs ls hR hS hl)
theorem j_iast {a N : Nat} {f : Nat → Int32} {i : Int32} {x : Int32} (hd : decode cc pc = .ok (.iastore, 1)) (he : h a = some (.inl (Y 0, N, .inl f))) (hi : vp_in i N) (kk : jW b D Y s0 p l e R s m args below meth c own cc nL ret nm Q (pc + 1) lv st (jh_up h a (.inl (Y 0, N, .inl (upd f i.toNatClampNeg x)))) n k sl) : jW b D Y s0 p l e R s m args below meth c own cc nL ret nm Q pc lv (.int x :: .int i :: .ref a :: st) h n k sl := by
  intro C H locs ls hR hS hl
  have hc : H[a]? = some (vp_cell (Y 0) (N, .inl f)) := (hR.2.1 a _ he).1
  refine W.iast C.ex C.by hc ((C.K.2 0 _ rfl).1 N (fun j => .int (f j))) (fun q => by cases q) (by show ¬ (i < 0 ∨ (arrV _ _ _).slots.size ≤ _); rw [arrV_size]; exact hi) rfl rfl hd fun H1 e z oq => ?_
  refine kk C H1 _ ls (hR.put ?_ (hR.2.1 a _ he).2 z oq) (hS.put z oq (hR.2.1 a _ he).2) hl
  show H1[a]? = some (vp_cell _ _)
  rw [e, vp_cell_i, vp_cell_i, arrV_store]
  congr 2
  funext q
  by_cases hq : q = i.toNatClampNeg
  · subst hq
    simp [updV, upd]
  · simp [updV, upd, hq]
theorem j_last {a N : Nat} {f : Nat → Int64} {i : Int32} {x : Int64} (hd : decode cc pc = .ok (.lastore, 1)) (he : h a = some (.inl (Y 1, N, .inr (.inl f)))) (hi : vp_in i N) (kk : jW b D Y s0 p l e R s m args below meth c own cc nL ret nm Q (pc + 1) lv st (jh_up h a (.inl (Y 1, N, .inr (.inl (vp_updL f i.toNatClampNeg x))))) n k sl) : jW b D Y s0 p l e R s m args below meth c own cc nL ret nm Q pc lv (.long x :: .int i :: .ref a :: st) h n k sl := by
  intro C H locs ls hR hS hl
  have hc : H[a]? = some (vp_cell (Y 1) (N, .inr (.inl f))) := (hR.2.1 a _ he).1
  refine W.last C.ex C.by hc ((C.K.2 1 _ rfl).1 N (fun j => .long (f j))) (fun q => by cases q) (by show ¬ (i < 0 ∨ (arrV _ _ _).slots.size ≤ _); rw [arrV_size]; exact hi) rfl rfl hd fun H1 e z oq => ?_
  refine kk C H1 _ ls (hR.put ?_ (hR.2.1 a _ he).2 z oq) (hS.put z oq (hR.2.1 a _ he).2) hl
  show H1[a]? = some (vp_cell _ _)
  rw [e, vp_cell_l, vp_cell_l, arrV_store]
  congr 2
  funext q
  by_cases hq : q = i.toNatClampNeg
  · subst hq
    simp [updV, vp_updL]
  · simp [updV, vp_updL, hq]
theorem j_aast {a N v ci : Nat} {f : Nat → Option Nat} {i : Int32} {T : u_T} {M : Nat} {vs : List Value} (hd : decode cc pc = .ok (.aastore, 1)) (he : h a = some (.inl (Y 3, N, .inr (.inr (.inr (.inr f)))))) (hi : vp_in i N) (hv : h v = some (.inr (ci, vs))) (hc : vcl[ci]? = some ("FactorDesk$Poly", T, M)) (kk : jW b D Y s0 p l e R s m args below meth c own cc nL ret nm Q (pc + 1) lv st (jh_up h a (.inl (Y 3, N, .inr (.inr (.inr (.inr (va_up f i.toNatClampNeg (some v)))))))) n k sl) : jW b D Y s0 p l e R s m args below meth c own cc nL ret nm Q pc lv (.ref v :: .int i :: .ref a :: st) h n k sl := by
  intro C H locs ls hR hS hl
  have hlt : i.toNatClampNeg < N := Nat.not_le.mp fun q => hi (Or.inr q)
  have h0 : ¬ i < 0 := fun q => hi (Or.inl q)
  have hca : H[a]? = some (vp_cell (Y 3) (N, .inr (.inr (.inr (.inr f))))) := (hR.2.1 a _ he).1
  obtain ⟨⟨r, hr, cellV, g1, g2, g3, -⟩, -⟩ := hR.2.1 v _ hv
  have hcls := (C.K.1 ci _ hc).2
  obtain ⟨kA, comp, k1, k2, k3, -⟩ := (C.K.2 3 _ rfl).2
  have hcomp : comp = D.1 ci := Option.some.inj (k3.symm.trans hcls.1)
  subst hcomp
  obtain ⟨kC, hkC, -⟩ := hcls.2
  refine W.aast C.ex C.by hca (fun q h => by cases h) (fun h => by cases h) k1 k2 rfl hkC ⟨h0, by show _ < (arrV _ _ _).slots.size; rw [arrV_size]; exact hlt⟩ g1 (fun q h => by rw [g3] at h; cases h) (by rw [g2]; exact hkC) (by rw [g2]; exact va_assign hcls) rfl rfl hd fun H1 e z oq => ?_
  refine kk C H1 _ ls (hR.put ?_ (hR.2.1 a _ he).2 z oq) (hS.put z oq (hR.2.1 a _ he).2) hl
  show H1[a]? = some (vp_cell _ _)
  rw [e, vp_cell_q, vp_cell_q, arrV_store]
  congr 2
  funext q
  by_cases hq : q = i.toNatClampNeg
  · subst hq
    simp [updV, va_up, va_rf]
  · simp [updV, va_up, hq]
theorem jC.n0 (C : jC b D Y s0 p s m args meth c own cc nL ret nm) {H : Heap} {locs : List Loc} (hR : jR s0 D h n H) (hS : va_S (jA s0) s.heap H locs) : s0.heap.size ≤ n := by
  rw [← hR.1]; exact Nat.le_trans C.v.2.1 hS.1
theorem jS_grow {H H1 : Heap} {locs : List Loc} (hS : va_S (jA s0) s.heap H locs) (hz : H.size ≤ H1.size) (ho : ∀ q : Nat, q < H.size → H1[q]? = H[q]?) : va_S (jA s0) s.heap H1 locs :=
  ⟨Nat.le_trans hS.1 hz, fun x h1 h2 => (ho x (Nat.lt_of_lt_of_le h1 hS.1)).trans (hS.2.1 x h1 h2), hS.2.2⟩
theorem j_new {Cn : String} {T : u_T} {N ci index : Nat} {fs : List Value} (hin : ∀ w ∈ u_ws Cn T N, jG w) (ty0 : Nat → FieldType) (hty : ∀ k, k < N → parseFieldDescriptor (T k).2.2.1 = some (ty0 k)) (hc : vcl[ci]? = some (Cn, T, N)) (hw1 : jG (.classLink own index Cn)) (hw2 : jG (.instantiable Cn N)) (hw3 : jG (.initialized Cn)) (hfs : ∀ j, j < N → defaultValue (ty0 j) = vp_V fs j) (hk : k + 1 ≤ R.cells) (hs : sl + N ≤ R.slots) (hd : decode cc pc = .ok (.new index, 3)) (kk : jW b D Y s0 p l e R s m args below meth c own cc nL ret nm Q (pc + 3) lv (.ref n :: st) (jh_up h n (.inr (ci, fs))) (n + 1) (k + 1) (sl + N)) : jW b D Y s0 p l e R s m args below meth c own cc nL ret nm Q pc lv st h n k sl := by
  intro C H locs ls hR hS hl
  have hKn := C.K.1 ci _ hc
  refine W.newcK C.ex C.by C.ow (C.w hw1) (C.w hw2) (C.w hw3) rfl hd hk hs hKn.2.1 hR.1 fun H1 kC hkC e1 z1 o1 => ?_
  exact kk C H1 _ ls (hR.new (x := .inr (ci, fs)) ⟨_, hc, (u_born (ws := u_ws Cn T N) ty0 (fun w hw => C.w (hin w hw)) (fun _ h9 => h9) hKn hkC e1 hty).to hfs⟩ (C.n0 hR hS) z1 o1) (jS_grow hS (by rw [z1, hR.1]; omega) (fun q hq => o1 q (by rw [← hR.1]; exact hq))) hl
theorem j_newI {z : Int32} {N : Nat} (hw : jG (.arrayClass .int)) (hz : ¬ z < 0) (hN : z.toNatClampNeg = N) (hb1 : N * 8 ≤ 536870912) (hk : k + 1 ≤ R.cells) (hs : sl + N ≤ R.slots) (hd : decode cc pc = .ok (.newarray .int, 2)) (kk : jW b D Y s0 p l e R s m args below meth c own cc nL ret nm Q (pc + 2) lv (.ref n :: st) (jh_up h n (.inl (Y 0, N, .inl (fun _ => 0)))) (n + 1) (k + 1) (sl + N)) : jW b D Y s0 p l e R s m args below meth c own cc nL ret nm Q pc lv (.int z :: st) h n k sl := by
  intro C H locs ls hR hS hl
  refine va_newaK C.ex C.by (atype := .int) (C.w hw) rfl hd rfl hz hN (by show N * _ ≤ _; first | omega | (simp [componentBytes, newarray.typeOf]; omega)) hk hs hR.1 fun H1 cA e1 z1 o1 hAr hNm => ?_
  have hcA : cA = Y 0 := Option.some.inj (hNm.symm.trans (C.K.2 0 _ rfl).2)
  subst hcA
  refine kk C H1 _ ls (hR.new (x := .inl (Y 0, N, .inl (fun _ => 0))) ?_ (C.n0 hR hS) z1 o1) (jS_grow hS (by rw [z1, hR.1]; omega) (fun q hq => o1 q (by rw [← hR.1]; exact hq))) hl
  show H1[n]? = some (vp_cell _ _)
  rw [vp_cell_i]
  exact e1
theorem j_newJ {z : Int32} {N : Nat} (hw : jG (.arrayClass .long)) (hz : ¬ z < 0) (hN : z.toNatClampNeg = N) (hb1 : N * 8 ≤ 536870912) (hk : k + 1 ≤ R.cells) (hs : sl + N ≤ R.slots) (hd : decode cc pc = .ok (.newarray .long, 2)) (kk : jW b D Y s0 p l e R s m args below meth c own cc nL ret nm Q (pc + 2) lv (.ref n :: st) (jh_up h n (.inl (Y 1, N, .inr (.inl (fun _ => 0))))) (n + 1) (k + 1) (sl + N)) : jW b D Y s0 p l e R s m args below meth c own cc nL ret nm Q pc lv (.int z :: st) h n k sl := by
  intro C H locs ls hR hS hl
  refine va_newaK C.ex C.by (atype := .long) (C.w hw) rfl hd rfl hz hN (by show N * _ ≤ _; first | omega | (simp [componentBytes, newarray.typeOf]; omega)) hk hs hR.1 fun H1 cA e1 z1 o1 hAr hNm => ?_
  have hcA : cA = Y 1 := Option.some.inj (hNm.symm.trans (C.K.2 1 _ rfl).2)
  subst hcA
  refine kk C H1 _ ls (hR.new (x := .inl (Y 1, N, .inr (.inl (fun _ => 0)))) ?_ (C.n0 hR hS) z1 o1) (jS_grow hS (by rw [z1, hR.1]; omega) (fun q hq => o1 q (by rw [← hR.1]; exact hq))) hl
  show H1[n]? = some (vp_cell _ _)
  rw [vp_cell_l]
  exact e1
theorem j_newZ {z : Int32} {N : Nat} (hw : jG (.arrayClass .boolean)) (hz : ¬ z < 0) (hN : z.toNatClampNeg = N) (hb1 : N * 8 ≤ 536870912) (hk : k + 1 ≤ R.cells) (hs : sl + N ≤ R.slots) (hd : decode cc pc = .ok (.newarray .boolean, 2)) (kk : jW b D Y s0 p l e R s m args below meth c own cc nL ret nm Q (pc + 2) lv (.ref n :: st) (jh_up h n (.inl (Y 2, N, .inl (fun _ => 0)))) (n + 1) (k + 1) (sl + N)) : jW b D Y s0 p l e R s m args below meth c own cc nL ret nm Q pc lv (.int z :: st) h n k sl := by
  intro C H locs ls hR hS hl
  refine va_newaK C.ex C.by (atype := .boolean) (C.w hw) rfl hd rfl hz hN (by show N * _ ≤ _; first | omega | (simp [componentBytes, newarray.typeOf]; omega)) hk hs hR.1 fun H1 cA e1 z1 o1 hAr hNm => ?_
  have hcA : cA = Y 2 := Option.some.inj (hNm.symm.trans (C.K.2 2 _ rfl).2)
  subst hcA
  refine kk C H1 _ ls (hR.new (x := .inl (Y 2, N, .inl (fun _ => 0))) ?_ (C.n0 hR hS) z1 o1) (jS_grow hS (by rw [z1, hR.1]; omega) (fun q hq => o1 q (by rw [← hR.1]; exact hq))) hl
  show H1[n]? = some (vp_cell _ _)
  rw [vp_cell_i]
  exact e1
theorem jC.ao (C : jC b D Y s0 p s m args meth c own cc nL ret nm) {Cn : String} (hw : Cond.arrayOver (.object Cn) ∈ lw_tbl) : va_AO Cn s := va_AO.moved C.v.1.alike (va_AO.of (C.z.1 _ hw))
theorem j_newP {index : Nat} {z : Int32} {N : Nat} (hw1 : jG (.classLink own index "FactorDesk$Poly")) (hw2 : Cond.arrayOver (.object "FactorDesk$Poly") ∈ lw_tbl) (hz : ¬ z < 0) (hN : z.toNatClampNeg = N) (hb1 : N * 4 ≤ 536870912) (hk : k + 1 ≤ R.cells) (hs : sl + N ≤ R.slots) (hd : decode cc pc = .ok (.anewarray index, 3)) (kk : jW b D Y s0 p l e R s m args below meth c own cc nL ret nm Q (pc + 3) lv (.ref n :: st) (jh_up h n (.inl (Y 3, N, .inr (.inr (.inr (.inr (fun _ => none))))))) (n + 1) (k + 1) (sl + N)) : jW b D Y s0 p l e R s m args below meth c own cc nL ret nm Q pc lv (.int z :: st) h n k sl := by
  intro C H locs ls hR hS hl
  subst hN
  refine W.anew C.ex C.by C.ow (C.w hw1) (va_AO.use (C.ao hw2)) rfl hd rfl hz hb1 hk hs fun cA kA comp f1 f2 f3 f4 => ?_
  generalize hH1 : H.push ({ cls := cA, slots := Array.replicate z.toNatClampNeg .null, vm := .none } : Cell) = H1
  have z1 : H1.size = H.size + 1 := by rw [← hH1, Array.size_push]
  have e1 : H1[H.size]? = some (arrV cA z.toNatClampNeg (fun _ => .null)) := by rw [← hH1, Array.getElem?_push_size, ← arrV_new]
  have o1 : ∀ q : Nat, q < H.size → H1[q]? = H[q]? := fun q hq => by rw [← hH1, Array.getElem?_push, if_neg (Nat.ne_of_lt hq)]
  obtain ⟨kA2, comp2, -, -, -, hNm⟩ := (C.K.2 3 _ rfl).2
  have hcA : cA = Y 3 := Option.some.inj (f1.symm.trans hNm)
  subst hcA
  have hn := hR.1
  rw [hn] at z1 e1 o1
  have hx : va_at D vcl (n, .inl (Y 3, z.toNatClampNeg, .inr (.inr (.inr (.inr (fun _ => none)))))) H1 := by
    show H1[n]? = some (vp_cell _ _)
    rw [vp_cell_q]
    exact e1
  have K := kk C H1 locs ls (hR.new hx (C.n0 hR hS) z1 o1) (jS_grow hS (by rw [z1, hn]; omega) (fun q hq => o1 q (by rw [← hn]; exact hq))) hl
  rw [hn]
  exact K
end JRA
def jrm (fr mc ms : Nat) : Room := { frames := fr, cells := mc, slots := ms, locals := 42 * fr }
def jPre (D : va_G) (s0 : State) (av : List Value) (h : jH) (n : Nat) : Array Value → State → Prop := fun v U => v = av.toArray ∧ jV s0 U ∧ jR s0 D h n U.heap
def jPost (D : va_G) (s0 : State) (Post : Option Value → jH → Nat → Prop) : Array Value → State → Outcome → State → Prop := fun _ st o t => (∃ (r : Option Value) (h2 : jH) (n2 : Nat), o = .returned r ∧ Post r h2 n2 ∧ jR s0 D h2 n2 t.heap) ∧ va_F (jA s0) st t
def jMet (l : Launch) (D : va_G) (s0 : State) (y : MethodName) (cc : ByteArray) (maxL : Nat) (ret : Option FieldType) (fr : Nat) (av : List Value) (h : jH) (n mc ms : Nat) (Post : Option Value → jH → Nat → Prop) : Prop :=
  Met l y [.code y cc maxL ret] (jrm fr mc ms) (jPre D s0 av h n) (jPost D s0 Post) mc ms (jA s0)
section JRC
variable {b : Nat} {D : va_G} {Y : Nat → ClassId} {s0 : State} {p : Program} {l : Launch} {e : Env} {R : Room} {s : State} {m : MethodId} {args : Array Value} {below : List Frame} {meth : Method} {c : Code} {own : String} {cc : ByteArray} {nL : Nat} {ret : Option FieldType} {nm : String} {Q : State → Prop} {pc : Nat} {lv : List (Nat × Value)} {st : List Value} {h : jH} {n k sl : Nat}
theorem jMet_of {y : MethodName} {cy : ByteArray} {maxL fr mc ms : Nat} {rt : Option FieldType} {av : List Value} {Post : Option Value → jH → Nat → Prop} (Z : jS0 b D Y s0) (hy : plainName y.cls = true) (hlen : (lg_sl av).length ≤ maxL)
    (body : ∀ (p : Program) (e : Env) (s : State) (m : MethodId) (below : List Frame) (meth : Method) (c : Code), jW b D Y s0 p l e (jrm fr mc ms) s m av.toArray below meth c y.cls cy maxL rt y.name (MQ below (jPost D s0 Post) av.toArray s mc ms (jA s0)) 0 (lv_args 0 av) [] h n 0 0) : jMet l D s0 y cy maxL rt fr av h n mc ms Post := by
  refine Met.ofW (cc := cy) (maxL := maxL) (ret := rt) hy rfl ?_
  intro p e s m args below meth c s₁ B hml hv
  obtain ⟨rfl, hV, hR⟩ := hv
  have hown : s.vm.findClass y.cls = some m.cls := findClass_of_methodNamed B.named
  rw [lg_entry_eq]
  exact body p e s m below meth c ⟨B.exec, B.bytes, hml, B.returns, hown, B.notSynchronized, (name_of_methodNamed B.named B.method).1, Z, hV⟩ s.heap [] _ hR va_S.rf (lv_entry av hlen)
theorem j_iret {Post : Option Value → jH → Nat → Prop} {v : Int32} (hr : ret = some .int) (hd : decode cc pc = .ok (.ireturn, 1)) (hp : Post (some (.int v)) h n) : jW b D Y s0 p l e R s m args below meth c own cc nL ret nm (MQ below (jPost D s0 Post) args s k sl (jA s0)) pc lv [.int v] h n k sl := fun C H locs ls hR hS hl =>
  W.iret C.ex C.by (C.rt.trans hr) (fun t ht _ => ⟨⟨_, _, _, rfl, hp, by rw [ht]; exact hR⟩, hS.F ht⟩) hS.2.2 hd (hlocks := C.lk)
theorem j_zret {Post : Option Value → jH → Nat → Prop} {v : Int32} (hr : ret = some .boolean) (hn : narrow .boolean (.int v) = .int v) (hd : decode cc pc = .ok (.ireturn, 1)) (hp : Post (some (.int v)) h n) : jW b D Y s0 p l e R s m args below meth c own cc nL ret nm (MQ below (jPost D s0 Post) args s k sl (jA s0)) pc lv [.int v] h n k sl := fun C H locs ls hR hS hl =>
  W.zret C.ex C.by (C.rt.trans hr) hn (fun t ht _ => ⟨⟨_, _, _, rfl, hp, by rw [ht]; exact hR⟩, hS.F ht⟩) hS.2.2 hd (hlocks := C.lk)
theorem j_lret {Post : Option Value → jH → Nat → Prop} {v : Int64} (hr : ret = some .long) (hd : decode cc pc = .ok (.lreturn, 1)) (hp : Post (some (.long v)) h n) : jW b D Y s0 p l e R s m args below meth c own cc nL ret nm (MQ below (jPost D s0 Post) args s k sl (jA s0)) pc lv [.long v] h n k sl := fun C H locs ls hR hS hl =>
  W.lret C.ex C.by (C.rt.trans hr) (fun t ht _ => ⟨⟨_, _, _, rfl, hp, by rw [ht]; exact hR⟩, hS.F ht⟩) hS.2.2 hd (hlocks := C.lk)
theorem j_vret {Post : Option Value → jH → Nat → Prop} (hr : ret = none) (hd : decode cc pc = .ok (.return_, 1)) (hp : Post none h n) : jW b D Y s0 p l e R s m args below meth c own cc nL ret nm (MQ below (jPost D s0 Post) args s k sl (jA s0)) pc lv [] h n k sl := fun C H locs ls hR hS hl =>
  W.vret C.ex C.by (C.rt.trans hr) (fun t ht _ => ⟨⟨_, _, _, rfl, hp, by rw [ht]; exact hR⟩, hS.F ht⟩) hS.2.2 hd (hlocks := C.lk)
theorem jPre_blind {av : List Value} : FrameBlind (jPre D s0 av h n) := fun _ _ _ _ q => ⟨q.1, q.2.1, q.2.2⟩
theorem jPre_at {av : List Value} (C : jC b D Y s0 p s m args meth c own cc nL ret nm) {H : Heap} {locs : List Loc} (hR : jR s0 D h n H) (hS : va_S (jA s0) s.heap H locs) {U : State} (hU : U.heap = H) (hW : s.WarmedH U.vm) : jPre D s0 av h n av.toArray U := by
  refine ⟨rfl, ⟨State.WarmedH.trans C.v.1 hW, ?_, fun q hq => ?_, by rw [hU]; exact hR.2.2⟩, by rw [hU]; exact hR⟩
  · rw [hU]; exact Nat.le_trans C.v.2.1 hS.1
  · rw [hU, hS.2.1 q (Nat.lt_of_lt_of_le hq C.v.2.1) (Nat.not_le.mpr hq)]; exact C.v.2.2.1 q hq
theorem jS_call {H : Heap} {locs L : List Loc} {st₀ t : State} (hS : va_S (jA s0) s.heap H locs) (h0 : st₀.heap = H) (hF : va_F (jA s0) st₀ t) (hL : ∀ q ∈ L, jA s0 q.base) : va_S (jA s0) s.heap t.heap (locs ++ L) := by
  subst h0
  refine ⟨Nat.le_trans hS.1 hF.1, fun q h1 h2 => (hF.2 q (Nat.lt_of_lt_of_le h1 hS.1) h2).trans (hS.2.1 q h1 h2), fun q hq => ?_⟩
  rcases List.mem_append.mp hq with h1 | h1
  · exact hS.2.2 q h1
  · exact hL q h1
theorem j_goes {mc ms : Nat} {Post : Option Value → jH → Nat → Prop} {a9 : Array Value} {st1 : List Value} (hrun : ∀ (H : Heap) (locs : List Loc) (ls : Array Slot), jC b D Y s0 p s m args meth c own cc nL ret nm → jR s0 D h n H → va_S (jA s0) s.heap H locs → lv_has ls nL lv → CallRun p l e R s m args below meth c H locs k sl mc ms (F0 m pc ls st1) st (jPost D s0 Post a9) (jA s0))
    (kk : ∀ (r : Option Value) (h2 : jH) (n2 : Nat), Post r h2 n2 → jW b D Y s0 p l e R s m args below meth c own cc nL ret nm Q (pc + 3) lv (r.toList ++ st) h2 n2 (k + mc) (sl + ms)) : jW b D Y s0 p l e R s m args below meth c own cc nL ret nm Q pc lv st1 h n k sl := by
  intro C H locs ls hR hS hl T hT X
  obtain ⟨v, st₀, t, T1, L, h0, X1, hL, e1, ⟨⟨r, h2, n2, ho, hp, hR2⟩, hF⟩, go⟩ := hrun H locs ls C hR hS hl T hT X
  cases ho
  obtain ⟨t2, a1, b1⟩ := kk v h2 n2 hp C t.heap (locs ++ L) ls hR2 (jS_call hS h0 hF hL) hl T1 e1 X1
  exact ⟨t2, go t2 a1, b1⟩
theorem jG_all {ws : List Cond} (h : ∀ w ∈ ws, jG w) (C : jC b D Y s0 p s m args meth c own cc nL ret nm) : (∀ w ∈ ws, w.before args s = true) ∧ GoodIn ws ws := ⟨fun w hw => C.w (h w hw), fun w hw => ⟨hw, good_of_word (h w hw).2⟩⟩
def jCallee (own : String) (idx : Nat) (y : MethodName) (cy : ByteArray) (maxL : Nat) (rt : Option FieldType) (fr np : Nat) (R : Room) : Prop := (fr + 1 ≤ R.frames ∧ 8 + (maxL + 11) + 42 * fr ≤ R.locals) ∧ jG (.methodLink own idx y) ∧ jG (.code y cy maxL rt) ∧ jG (.initialized y.cls) ∧ (y.cls ≠ "java/lang/invoke/MethodHandle" ∧ y.cls ≠ "java/lang/invoke/VarHandle" ∧ (parseMethodDescriptor y.desc).map (fun d => d.parameters.length) = some np)
theorem j_callV {y : MethodName} {cy : ByteArray} {maxL fr mc ms idx a ci : Nat} {rt : Option FieldType} {av : List Value} {Post : Option Value → jH → Nat → Prop} {T : u_T} {N : Nat} {fs : List Value} (M : jMet l D s0 y cy maxL rt fr (.ref a :: av) h n mc ms Post) (hy : jCallee own idx y cy maxL rt fr av.length R) (hw2 : jG (.instanceMethod y)) (hw3 : jG (.selects y.cls y y)) (hc : vcl[ci]? = some (y.cls, T, N)) (he : h a = some (.inr (ci, fs))) (hcs : k + mc ≤ R.cells ∧ sl + ms ≤ R.slots) (hst : (st.map fun v => v.category).sum ≤ 8) (hd : decode cc pc = .ok (.invokevirtual idx, 3)) (kk : ∀ (r : Option Value) (h2 : jH) (n2 : Nat), Post r h2 n2 → jW b D Y s0 p l e R s m args below meth c own cc nL ret nm Q (pc + 3) lv (r.toList ++ st) h2 n2 (k + mc) (sl + ms)) : jW b D Y s0 p l e R s m args below meth c own cc nL ret nm Q pc lv (av.reverse ++ .ref a :: st) h n k sl := by
  refine j_goes (a9 := (Value.ref a :: av).toArray) (mc := mc) (ms := ms) (fun H locs ls C hR hS hl => ?_) kk
  obtain ⟨hfr, hw1, hw5, hw4, hdd⟩ := hy
  have hG : ∀ w ∈ wsV own idx y.cls y [.code y cy maxL rt], jG w := by
    intro w hw
    simp only [wsV, List.cons_append, List.nil_append, List.mem_cons, List.not_mem_nil, or_false] at hw
    rcases hw with rfl | rfl | rfl | rfl | rfl
    · exact hw1
    · exact hw2
    · exact hw3
    · exact hw4
    · exact hw5
  obtain ⟨g1, g2⟩ := jG_all hG C
  exact W.runV (As := av) (rest := st) ⟨C.ex, C.by, C.ml, C.ow, g1⟩ M (cwV av.length g1 g2 rfl rfl rfl ⟨rfl, hdd⟩ hfr) ⟨jPre_blind, va_recv C.K (hR.P he) hc (q0 := 0) rfl, fun U hU hW => jPre_at C hR hS hU hW⟩ rfl rfl hl.1 rfl (lv_room hst) hd hcs
theorem j_callS {y : MethodName} {cy : ByteArray} {maxL fr mc ms idx : Nat} {rt : Option FieldType} {av : List Value} {Post : Option Value → jH → Nat → Prop} (M : jMet l D s0 y cy maxL rt fr av h n mc ms Post) (hy : jCallee own idx y cy maxL rt fr av.length R) (hw2 : jG (.static y)) (hcs : k + mc ≤ R.cells ∧ sl + ms ≤ R.slots) (hst : (st.map fun v => v.category).sum ≤ 8) (hd : decode cc pc = .ok (.invokestatic idx, 3)) (kk : ∀ (r : Option Value) (h2 : jH) (n2 : Nat), Post r h2 n2 → jW b D Y s0 p l e R s m args below meth c own cc nL ret nm Q (pc + 3) lv (r.toList ++ st) h2 n2 (k + mc) (sl + ms)) : jW b D Y s0 p l e R s m args below meth c own cc nL ret nm Q pc lv (av.reverse ++ st) h n k sl := by
  refine j_goes (a9 := av.toArray) (mc := mc) (ms := ms) (fun H locs ls C hR hS hl => ?_) kk
  obtain ⟨hfr, hw1, hw5, hw4, hdd⟩ := hy
  have hG : ∀ w ∈ [Cond.code y cy maxL rt], jG w := by
    intro w hw
    rw [List.mem_singleton.mp hw]; exact hw5
  obtain ⟨g1, g2⟩ := jG_all hG C
  exact W.runS (As := av) (rest := st) ⟨C.ex, C.by, C.ml, C.ow, g1⟩ M ⟨callB_of av.length g1 g2 rfl rfl rfl (C.w hw4) (C.w hw1) hdd hfr, C.w hw2⟩ ⟨jPre_blind, fun U hU hW => jPre_at C hR hS hU hW⟩ rfl rfl hl.1 rfl (lv_room hst) hd hcs
theorem j_callI {y : MethodName} {cy : ByteArray} {maxL fr mc ms idx a : Nat} {av : List Value} {Post : Option Value → jH → Nat → Prop} (M : jMet l D s0 y cy maxL none fr (.ref a :: av) h n mc ms Post) (hy : jCallee own idx y cy maxL none fr av.length R) (hw2 : jG (.instanceMethod y)) (hini : y.name = "<init>") (hcs : k + mc ≤ R.cells ∧ sl + ms ≤ R.slots) (hst : (st.map fun v => v.category).sum ≤ 8) (hd : decode cc pc = .ok (.invokespecial idx, 3)) (kk : ∀ (r : Option Value) (h2 : jH) (n2 : Nat), Post r h2 n2 → jW b D Y s0 p l e R s m args below meth c own cc nL ret nm Q (pc + 3) lv (r.toList ++ st) h2 n2 (k + mc) (sl + ms)) : jW b D Y s0 p l e R s m args below meth c own cc nL ret nm Q pc lv (av.reverse ++ .ref a :: st) h n k sl := by
  refine j_goes (a9 := (Value.ref a :: av).toArray) (mc := mc) (ms := ms) (fun H locs ls C hR hS hl => ?_) kk
  obtain ⟨hfr, hw1, hw5, hw4, hdd⟩ := hy
  have hG : ∀ w ∈ [Cond.code y cy maxL none], jG w := by
    intro w hw
    rw [List.mem_singleton.mp hw]; exact hw5
  obtain ⟨g1, g2⟩ := jG_all hG C
  exact W.runI (As := av) (rest := st) ⟨C.ex, C.by, C.ml, C.ow, g1⟩ M (cwI av.length g1 g2 rfl rfl rfl (C.w hw4) (C.w hw1) (C.w hw2) hini hdd hfr) ⟨jPre_blind, fun U hU hW => jPre_at C hR hS hU hW⟩ rfl rfl hl.1 rfl (lv_room hst) hd hcs
theorem j_objInit {idx a : Nat} (hw1 : jG (.methodLink own idx objectInit)) (hw2 : jG (.instanceMethod objectInit)) (hw3 : jG (.code objectInit ⟨#[0xb1]⟩ 1 none)) (hst : (st.map fun v => v.category).sum + 12 ≤ R.locals) (hf : 1 ≤ R.frames) (hd : decode cc pc = .ok (.invokespecial idx, 3)) (kk : jW b D Y s0 p l e R s m args below meth c own cc nL ret nm Q (pc + 3) lv st h n k sl) : jW b D Y s0 p l e R s m args below meth c own cc nL ret nm Q pc lv (.ref a :: st) h n k sl := fun C H locs ls hR hS hl =>
  W.objInit C.ex C.by C.ow (C.w hw1) (C.w hw2) (C.w hw3) rfl (by rw [C.ml]; exact hl.1) rfl hd hf (by show 2 * 0 + _ + 12 ≤ _; omega) (kk C H locs ls hR hS hl)
end JRC
end
section
/-! Throws and catches over the layer. -/
section JXB
/-- the table's first row takes the thrown object; its class may have to be resolved on the way -/
theorem jx_go {Q : Handler → Pre} {E : CtlPost} {e : Env} {d : Bool} {acts : List Action} {s : State} {f : JFrame} {a : Addr} {x : ExceptionTableEntry} {t : List ExceptionTableEntry} {c : ClassId} {cell : Cell} (hx : covers x f.pc = true) (h0 : x.catchType ≠ 0)
    (hl : s.vm.ClassLinks e.platform f.method.cls x.catchType c) (hcell : s.heap[a]? = some cell) (hobj : ∀ k, cell.vm ≠ .statics k) (hk : ∃ k, s.vm.classes[cell.cls]? = some k) (hc : ∃ k, s.vm.classes[c]? = some k) (hy : s.vm.assignable cell.cls c = true) :
    wp (findHandler.go f a (x :: t)) Q E e d acts s ↔ Q (.found x.handlerPc) d acts (s.setVm (s.vm.noted f.method.cls x.catchType (.cls c))) := by
  have hal : s.vm.Alike (s.vm.noted f.method.cls x.catchType (.cls c)) := (Vm.Alike.refl s.vm).noted _ _ _
  obtain ⟨r1, r2⟩ := (resolveClass_links e.toSetting hl).op (op := VmOp.resolveClass f.method.cls x.catchType) rfl
  obtain ⟨k1, q1⟩ := hk
  obtain ⟨k2, q2⟩ := hc
  obtain ⟨k3, q3, -⟩ := hal.2.2 _ _ q1
  obtain ⟨k4, q4, -⟩ := hal.2.2 _ _ q2
  have hy2 : (s.vm.noted f.method.cls x.catchType (.cls c)).assignable cell.cls c = true := by rw [hal.assignable]; exact hy
  simp only [covers] at hx
  simp [findHandler.go, hx, h0, r1, r2, hcell, hobj, q3, q4, hy2, VmOp.dirties, VmOp.acts]
theorem jx_step {e : Env} {s : State} {a : Addr} {f : JFrame} {r : List Frame} {pc : Nat} {vm1 : Vm} (hf : ∀ (Q : Handler → Pre) (E : CtlPost) (d : Bool) (acts : List Action), wp (findHandler f a) Q E e d acts s ↔ Q (.found pc) d acts (s.setVm vm1)) :
    (stepThrowing e s a (.java f :: r)).Is ((s.setVm vm1).setFrames (.java { f with pc := pc, stack := [.ref a] } :: r)) [] := by
  simp only [stepThrowing, searchFrame, vmDo]
  generalize hr : Sem.go _ e false [] s = res
  obtain ⟨as, rfl, ha⟩ := Sem.eq_ok_of hr (a := Handler.found pc) (s' := s.setVm vm1) (acts' := []) (by simp [hf _ _ _ _])
  exact ⟨rfl, ha⟩
variable {p : Program} {l : Launch} {e : Env} {R : Room} {s : State} {m : MethodId} {args : Array Value} {below : List Frame} {meth : Method} {c : Code} {T : State} {locs : List Loc} {cells slots : Nat}
/-- thrown over the frame g of this method, and caught by the first row of its table -/
theorem jx_caught (X : Stand p l e R s m args below meth c T locs cells slots) {own E : String} (hown : s.vm.findClass own = some m.cls) {a : Addr} {g : JFrame} (hg : g.method = m) {cell : Cell} (hcell : T.heap[a]? = some cell) (hv : cell.vm = .none) (hcl : s.vm.findClass E = some cell.cls)
    {x : ExceptionTableEntry} {rest : List ExceptionTableEntry} (hsplit : c.exceptionTable.toList = x :: rest) (hx : covers x g.pc = true) (h0 : x.catchType ≠ 0) (hlink : (Cond.classLink own x.catchType E).before args s = true) :
    ∃ vm1, Stand p l e R s m args below meth c (T.setVm vm1) locs cells slots ∧ ∀ target, Steps p.tables e below ((T.setVm vm1).setTop { g with pc := x.handlerPc, stack := [.ref a] }) target → Steps p.tables e below ((T.setTop g).pushFrame (.throwing a)) target := by
  subst hg
  have hpl : e.platform.magicAccessors = ({} : Platform).magicAccessors := by rw [X.admits.platform]
  obtain ⟨c1, hc1, hcl1⟩ := Cond.classLink_spec hown hlink e.platform hpl
  cases Option.some.inj (hc1.symm.trans hcl)
  obtain ⟨dk, _, _, kt, hd, _, _, _, _, hkt, _, hopen⟩ := hcl1.here
  obtain ⟨kt1, hkt1, -⟩ := X.warmed.alike.2.2 _ _ hkt
  have hW1 : s.WarmedH (T.vm.noted g.method.cls x.catchType (.cls cell.cls)) := X.warmed.noted hd hopen (State.rightAt_cls hcl1)
  refine ⟨_, X.noted hW1, fun target hrest => ?_⟩
  have hfind : ∀ (Q : Handler → Pre) (E : CtlPost) (d : Bool) (acts : List Action), wp (findHandler g a) Q E e d acts ((T.setTop g).pushFrame (.throwing a)) ↔ Q (.found x.handlerPc) d acts (((T.setTop g).pushFrame (.throwing a)).setVm (T.vm.noted g.method.cls x.catchType (.cls cell.cls))) := by
    intro Q E d acts
    have hm : ((T.setTop g).pushFrame (.throwing a)).vm.method? g.method = some meth := X.method'
    rw [W.findHandler_eq hm X.code, hsplit]
    exact jx_go (s := (T.setTop g).pushFrame (.throwing a)) hx h0 (X.warmed.classLinks hcl1) hcell (fun k => by rw [hv]; exact fun q => by cases q) ⟨kt1, hkt1⟩ ⟨kt1, hkt1⟩ (va_asg _ _)
  have h : At T g.method c below := X.here
  obtain ⟨hgo, hw⟩ := h.throwing a
  refine Steps.head hgo hw ?_
  rw [stepThread_throwing (frames_entered h.top _), (jx_step (s := (T.setTop g).pushFrame (.throwing a)) hfind).1]
  obtain ⟨g₀, hg0⟩ := Option.isSome_iff_exists.mp h.top
  obtain ⟨r, hr⟩ := State.topJava?_eq_some.mp hg0
  have hr2 : (T.setVm (T.vm.noted g.method.cls x.catchType (.cls cell.cls))).frames = .java g₀ :: r := hr
  rw [State.setTop_of_frames _ hr2] at hrest
  have e1 : ∀ F : List Frame, (((T.setTop g).pushFrame (.throwing a)).setVm (T.vm.noted g.method.cls x.catchType (.cls cell.cls))).setFrames F = (T.setVm (T.vm.noted g.method.cls x.catchType (.cls cell.cls))).setFrames F := by
    intro F
    show (((T.setTop g).pushFrame (.throwing a)).setFrames F).setVm _ = (T.setFrames F).setVm _
    rw [State.pushFrame, State.setFrames_setFrames, State.setTop_of_frames _ hr, State.setFrames_setFrames]
    rfl
  rw [e1, hr]
  exact hrest
end JXB
end
section
/-- what a method that throws leaves: an object of class E is thrown -/
def jXQ (D : va_G) (s0 : State) (E : String) (Post : jH → Nat → Prop) (mc ms : Nat) : Array Value → State → Outcome → State → Prop := fun _ st o t =>
  ∃ (q : Addr) (ce : Cell) (h2 : jH) (n2 : Nat) (L : List Loc), o = .threw q ∧ t.heap[q]? = some ce ∧ ce.vm = .none ∧ st.vm.findClass E = some ce.cls ∧ Post h2 n2 ∧ jR s0 D h2 n2 t.heap ∧ va_F (jA s0) st t ∧ st.WarmedH t.vm ∧ st.sameButNew ({ t with vm := st.vm } : State) L mc ms ∧ ∀ z ∈ L, jA s0 z.base
def jMetX (l : Launch) (D : va_G) (s0 : State) (y : MethodName) (cc : ByteArray) (maxL : Nat) (ret : Option FieldType) (fr : Nat) (av : List Value) (h : jH) (n mc ms : Nat) (E : String) (Post : jH → Nat → Prop) : Prop :=
  MetFree l y (headSpec [.code y cc maxL ret] (jrm fr mc ms)) (jPre D s0 av h n) (fun _ _ _ _ _ => True) (jXQ D s0 E Post mc ms)
def jXM (below : List Frame) (D : va_G) (s0 : State) (E : String) (Post : jH → Nat → Prop) (args : Array Value) (s : State) (mc ms : Nat) : State → Prop := fun t => ∃ o, t.status = .running ∧ Ended t below o ∧ jXQ D s0 E Post mc ms args s o t
section JX2
variable {b : Nat} {D : va_G} {Y : Nat → ClassId} {s0 : State} {p : Program} {l : Launch} {e : Env} {R : Room} {s : State} {m : MethodId} {args : Array Value} {below : List Frame} {meth : Method} {c : Code} {own : String} {cc : ByteArray} {nL : Nat} {ret : Option FieldType} {nm : String} {Q : State → Prop} {pc : Nat} {lv : List (Nat × Value)} {st : List Value} {h : jH} {n k sl : Nat}
theorem jMetX_of {y : MethodName} {cy : ByteArray} {maxL fr mc ms : Nat} {rt : Option FieldType} {av : List Value} {E : String} {Post : jH → Nat → Prop} (Z : jS0 b D Y s0) (hy : plainName y.cls = true) (hlen : (lg_sl av).length ≤ maxL)
    (body : ∀ (p : Program) (e : Env) (s : State) (m : MethodId) (below : List Frame) (meth : Method) (c : Code), c.exceptionTable.toList = [] → jW b D Y s0 p l e (jrm fr mc ms) s m av.toArray below meth c y.cls cy maxL rt y.name (jXM below D s0 E Post av.toArray s mc ms) 0 (lv_args 0 av) [] h n 0 0) : jMetX l D s0 y cy maxL rt fr av h n mc ms E Post := by
  refine MetFree.of_bodyS (code := cy) (maxLocals := maxL) (ret := rt) hy ?_ ?_
  · intro args s m h hn
    obtain ⟨meth, c, h1, h2, h3, h4, h5, h6, -, -⟩ := Cond.code_spec hn (atoms_spec (ws := [Cond.code y cy maxL rt]) h _ List.mem_cons_self)
    exact ⟨meth, c, h1, h2, h3, h4, h5, h6⟩
  · intro p e s m args below meth c s₁ B hml hv _
    obtain ⟨rfl, hV, hR⟩ := hv
    have hown : s.vm.findClass y.cls = some m.cls := findClass_of_methodNamed B.named
    have hnh := B.noHandlers (atoms_spec (ws := [Cond.code y cy maxL rt]) B.pre _ List.mem_cons_self)
    have hnl : c.exceptionTable.toList = [] := List.eq_nil_of_length_eq_zero (by simpa [Array.isEmpty] using hnh)
    have hh0 : s₁.heap = s.heap := by rw [B.state]; rfl
    have K := body p e s m below meth c hnl ⟨B.exec, B.bytes, hml, B.returns, hown, B.notSynchronized, (name_of_methodNamed B.named B.method).1, Z, hV⟩ s.heap [] _ hR va_S.rf (lv_entry av hlen)
    rw [← lg_entry_eq] at K
    obtain ⟨t, a1, o, b1, b2, b3⟩ := K s₁ hh0 (Stand.of_body B)
    exact ⟨t, o, a1, b1, b2, b3⟩
/-- a callee that throws: the note lies over the caller's frame -/
theorem jx_thrown {y : MethodName} {cy : ByteArray} {maxL fr mc ms : Nat} {rt : Option FieldType} {av : List Value} {E : String} {Post : jH → Nat → Prop} (M : jMetX l D s0 y cy maxL rt fr av h n mc ms E Post) {U : State} {locs : List Loc} (X : Stand p l e R s m args below meth c U locs k sl)
    (hw : (Cond.code y cy maxL rt).before av.toArray U = true) (hini : (Cond.initialized y.cls).before av.toArray U = true) (hpre : jPre D s0 av h n av.toArray U) (hfr : fr + 1 ≤ R.frames ∧ 8 + (maxL + 11) + 42 * fr ≤ R.locals) (hcs : k + mc ≤ R.cells ∧ sl + ms ≤ R.slots)
    {g : JFrame} (hg : g.method = m) (hsize : g.locals.size = c.maxLocals) (hst : 2 * g.monitorRoom + (g.stack.map fun v => v.category).sum ≤ 8) {ig : Instr} {len : Nat} (hdg : decode c.code g.pc = .ok (ig, len)) {mk : MethodId} (hn : U.methodNamed? y = some mk) :
    ∃ (q : Addr) (ce : Cell) (h2 : jH) (n2 : Nat) (U2 : State) (L : List Loc), Stand p l e R s m args below meth c U2 (locs ++ L) (k + mc) (sl + ms) ∧ U2.heap[q]? = some ce ∧ ce.vm = .none ∧ s.vm.findClass E = some ce.cls ∧ Post h2 n2 ∧ jR s0 D h2 n2 U2.heap ∧ va_F (jA s0) U U2 ∧ (∀ z ∈ L, jA s0 z.base) ∧
      Steps p.tables e below (doInvoke e (U.setTop g) [] mk av.toArray).1 ((U2.setTop g).pushFrame (.throwing q)) := by
  obtain ⟨methY, cY, hmY, hcY, -, hlY, -⟩ := Cond.code_spec hn hw
  obtain ⟨kY, hkY, -⟩ := className_of_methodNamed hn
  have hinitY : kY.init = .initialized := Cond.initialized_spec (findClass_of_methodNamed hn) hkY hini
  have hA : At U g.method c below := by rw [hg]; exact X.here
  have happ : (headSpec [.code y cy maxL rt] (jrm fr mc ms)).appliesLoose y e.platform (U.calling g mk av.toArray) = true :=
    Spec.appliesLoose_calling (g := g) hA hdg hn hkY hinitY
      (X.room_calling (g := g) (R' := jrm fr mc ms) hsize hmY hcY hfr.1 (by rw [hlY]; show _ + 42 * fr ≤ _; omega) hcs.1 hcs.2) (atoms_intro (fun w hw2 => by rw [List.mem_singleton.mp hw2]; exact hw))
  obtain ⟨mid, hmid⟩ := hA.above
  have hfrm : (U.setTop g).frames = (.java g :: mid) ++ below := by rw [State.frames_setTop' g hA.top, hmid]; rfl
  obtain ⟨o, s₂, hsteps, -, hend, hq⟩ := Steps.callFree M p X.admits X.cas X.clock (acts := []) hfrm happ (jPre_blind _ _ _ _ hpre) trivial
  rw [State.frames_setTop' g hA.top] at hend
  have hq2 : jXQ D s0 E Post mc ms av.toArray (U.calling g mk av.toArray) o s₂ := hq
  obtain ⟨q, ce, h2, n2, L, rfl, hce, hv, hcl, hp, hR2, hF, hW2, hsm, hL⟩ := hq2
  obtain ⟨e2, q2, q3, q4, q5, q6⟩ := id hsm
  have hWU : U.WarmedH s₂.vm := hW2
  have hf2 : s₂.frames = .throwing q :: .java g :: U.frames.tail := hend
  have e3 : s₂ = ({ (U.calling g mk av.toArray).setFrames s₂.frames with heap := s₂.heap, slotsUsed := s₂.slotsUsed } : State).setVm s₂.vm := by
    have : s₂ = ({ s₂ with vm := (U.calling g mk av.toArray).vm } : State).setVm s₂.vm := rfl
    rw [e2] at this
    exact this
  obtain ⟨g₀, hg0⟩ := Option.isSome_iff_exists.mp hA.top
  obtain ⟨r, hr⟩ := State.topJava?_eq_some.mp hg0
  have hs₂ : s₂ = ((({ U with heap := s₂.heap, slotsUsed := s₂.slotsUsed } : State).setVm s₂.vm).setTop g).pushFrame (.throwing q) := by
    have hr2 : (({ U with heap := s₂.heap, slotsUsed := s₂.slotsUsed } : State).setVm s₂.vm).frames = .java g₀ :: r := hr
    refine e3.trans ?_
    rw [hf2, State.calling_eq hA.top, State.setFrames_setFrames, State.pushFrame, State.frames_setTop _ hr2, State.setTop_of_frames _ hr2, State.setFrames_setFrames, hr]
    rfl
  have hsame : U.sameButNew ({ U with heap := s₂.heap, slotsUsed := s₂.slotsUsed } : State) L mc ms := by
    refine ⟨?_, q2, q3, q4, q5, q6⟩
    obtain ⟨t, ht, -⟩ := State.frames_cons hr
    show ({ U with heap := s₂.heap, slotsUsed := s₂.slotsUsed } : State) = { U.setFrames U.frames with heap := s₂.heap, slotsUsed := s₂.slotsUsed }
    rw [State.setFrames_self ht]
  subst hg
  refine ⟨q, ce, h2, n2, ({ U with heap := s₂.heap, slotsUsed := s₂.slotsUsed } : State).setVm s₂.vm, L, ⟨X.admits, X.cas, X.clock, X.frames, X.room, X.hears, X.method, X.code, (X.here.setHeapUsed s₂.heap s₂.slotsUsed).setVm hWU.alike, X.tail, State.WarmedH.trans X.warmed hWU, X.limits, X.bytes, X.same.trans (hsame.setVm s.vm)⟩,
    hce, hv, ?_, hp, hR2, hF, hL, ?_⟩
  · have h9 : U.vm.findClass E = some ce.cls := hcl
    rw [X.warmed.alike.findClass] at h9; exact h9
  · rw [← hs₂]; exact hsteps
end JX2
end
section
/-- the words of a throw that the tables alone do not decide -/
def jBad (X : String) (names : List String) : List Cond := [.castable X X, .isRef (.static Bundle.tN "UNASSIGNED_STACK" Bundle.steD), .isRef (.static Bundle.tN "SUPPRESSED_SENTINEL" Bundle.listD), .laysStatic Bundle.tN "UNASSIGNED_STACK" Bundle.steD, .laysStatic Bundle.tN "SUPPRESSED_SENTINEL" Bundle.listD] ++ (names ++ [Bundle.tN]).map (fun n => Cond.declares (Bundle.initS n))
theorem jz_eval {args : Array Value} {s : State} {C n d : String} {v : Value} {A : Nat → Prop} (hz : va_Z C n d v A s s.heap) : (Term.static C n d).eval args s none [] s = some v := by
  obtain ⟨cf, kf, fi, f, a, cell, h1, h2, h3, h4, h5, h6, h7, -⟩ := hz
  simp [Term.eval, State.fieldNamed?, h1, h2, h4, h5, h6, h7]
theorem jz_isRef {args : Array Value} {s : State} {C n d : String} {A : Nat → Prop} (hz : va_Zq C n d A s s.heap) : (Cond.isRef (.static C n d)).before args s = true := by
  rcases hz with hz | ⟨t, hz⟩
  · simp [Cond.before, Cond.holds, Cond.value, jz_eval hz]
  · simp [Cond.before, Cond.holds, Cond.value, jz_eval hz]
theorem jV.zq {s0 U : State} {b : Nat} {D : va_G} {Y : Nat → ClassId} (hV : jV s0 U) (h0 : jS0 b D Y s0) {C n d : String} (h1 : Cond.laysStatic C n d ∈ lw_tbl) (h2 : Cond.initialized C ∈ lw_tbl) (h3 : Cond.isRef (.static C n d) ∈ flatC (Jvm.Cond.and given_1 narrow_1)) : va_Zq C n d (jA s0) U U.heap := by
  have z0 : va_Zq C n d (jA s0) s0 s0.heap := va_Zqof (h0.1 _ h1) (h0.1 _ h2) (flat_of_before _ h0.2.1 _ h3) (fun a ha => Nat.not_le.mpr ha)
  exact (va_Zq.moved hV.1.alike z0).kept (fun a ha _ => hV.2.2.1 a ha)
theorem jV.ls {s0 U : State} {b : Nat} {D : va_G} {Y : Nat → ClassId} {args : Array Value} (hV : jV s0 U) (h0 : jS0 b D Y s0) {C n d : String} (h1 : Cond.laysStatic C n d ∈ lw_tbl) : (Cond.laysStatic C n d).before args U = true := by
  obtain ⟨c, k, i, f, a, cell, hc, hi, hst, ha, hcell, hs, hcls, hlt, hty⟩ := Cond.laysStatic_spec (h0.1 _ h1)
  obtain ⟨k2, hi2, he⟩ := State.fieldFound?_setVm hV.1.alike hi
  have hi3 : U.fieldFound? C n d = some (c, k2, i, f) := hi2
  have hc3 : U.vm.findClass C = some c := by rw [hV.1.alike.findClass]; exact hc
  have ha3 : k2.statics = some a := by rw [he]; exact ha
  have hty3 : k2.staticTypes[f.slot]? = some f.type := by rw [he]; exact hty
  have hcell3 : U.heap[a]? = some cell := by rw [hV.2.2.1 a (Array.getElem?_eq_some_iff.mp hcell).1]; exact hcell
  simp [Cond.before, Cond.holds, Cond.value, hc3, hi3, ha3, hcell3, hst, hs, hcls, hlt, hty3]
theorem jV.bad {s0 U : State} {b : Nat} {D : va_G} {Y : Nat → ClassId} {args : Array Value} (hV : jV s0 U) (h0 : jS0 b D Y s0) {X : String} {names : List String} (hX : Cond.castable X X ∈ lw_tbl) (hd : ∀ n ∈ names ++ [Bundle.tN], Cond.declares (Bundle.initS n) ∈ lw_tbl) : ∀ w ∈ jBad X names, w.before args U = true := by
  intro w hw
  rcases List.mem_append.mp hw with h1 | h1
  · simp only [List.mem_cons, List.not_mem_nil, or_false] at h1
    rcases h1 with rfl | rfl | rfl | rfl | rfl
    · exact va_Nw.use rfl (va_Nw.warmC hV.1 (va_Nw.of rfl (h0.1 _ hX)))
    · exact jz_isRef (hV.zq h0 (List.mem_of_getElem? (i := 733) (by decide +kernel)) (by decide +kernel) (by decide +kernel))
    · exact jz_isRef (hV.zq h0 (List.mem_of_getElem? (i := 735) (by decide +kernel)) (by decide +kernel) (by decide +kernel))
    · exact hV.ls h0 (List.mem_of_getElem? (i := 733) (by decide +kernel))
    · exact hV.ls h0 (List.mem_of_getElem? (i := 735) (by decide +kernel))
  · obtain ⟨n, hn, rfl⟩ := List.mem_map.mp h1
    exact va_Nw.use rfl (va_Nw.warmD hV.1 (va_Nw.of rfl (h0.1 _ (hd n hn))))
theorem jV.str {s0 U : State} {b : Nat} {D : va_G} {Y : Nat → ClassId} (hV : jV s0 U) (h0 : jS0 b D Y s0) {o tx : String} {i : Nat} (hw : Cond.stringRef o i tx ∈ lw_tbl) (hx : Cond.exactly (.string o i) "java/lang/String" ∈ flatC (Jvm.Cond.and given_1 narrow_1)) : ∃ q, vk_R o i tx q U := by
  obtain ⟨a, cB, cell, kB, ha, -⟩ := Cond.exactly_spec (flat_of_before _ h0.2.1 _ hx)
  exact ⟨a, vk_R.warm hV.1 (vk_R.of (h0.1 _ hw) ha)⟩
/-- the state in which the method would be invoked anew, with the heap as it is now -/
def jBase (s T : State) (m : MethodId) (args : Array Value) (below : List Frame) : State := (T.setVm s.vm).setFrames (.invoking m args :: below)
section JX3
variable {b : Nat} {D : va_G} {Y : Nat → ClassId} {s0 : State} {p : Program} {l : Launch} {e : Env} {R : Room} {s : State} {m : MethodId} {args : Array Value} {below : List Frame} {meth : Method} {c : Code} {own : String} {cc : ByteArray} {nL : Nat} {ret : Option FieldType} {nm : String} {Q : State → Prop} {pc : Nat} {lv : List (Nat × Value)} {st : List Value} {h : jH} {n k sl : Nat}
theorem jBase_stand {T : State} {locs : List Loc} (X : Stand p l e R s m args below meth c T locs k sl) {cs ss : Nat} (hc : k + cs ≤ R.cells) (hs : sl + ss ≤ R.slots) : Stand p l e { R with cells := cs, slots := ss } (jBase s T m args below) m args below meth c T [] 0 0 := by
  have htop : (T.setVm s.vm).topJava?.isSome := X.here.top
  obtain ⟨g₀, hg0⟩ := Option.isSome_iff_exists.mp htop
  obtain ⟨r, hr⟩ := State.topJava?_eq_some.mp hg0
  obtain ⟨t, ht, -⟩ := State.frames_cons hr
  have hF : (jBase s T m args below).frames = .invoking m args :: below := State.frames_setFrames _ (State.cur_lt_of_top htop)
  have hL : e.platform.stackLimits (jBase s T m args below).me = e.platform.stackLimits T.me := by
    unfold jBase; rw [State.stackLimits_setFrames]; rfl
  have hB : (jBase s T m args below).me.stackBytes = T.me.stackBytes := by
    unfold jBase; rw [State.stackBytes_setFrames]; rfl
  have hI : (jBase s T m args below).localsInUse = s.localsInUse := by
    rw [State.localsInUse_invoking hF (meth := meth) (c := c) X.method X.code, State.localsInUse_invoking X.frames X.method X.code]
  have hdrop : (T.heap.toList.drop T.heap.size) = [] := List.drop_eq_nil_of_le (Nat.le_of_eq Array.length_toList)
  have hroom : (jBase s T m args below).hasRoom e.platform { R with cells := cs, slots := ss } = true := by
    have h0 := X.room
    have q1 := X.heapSize
    have q2 := X.used
    simp only [State.hasRoom, Bool.and_eq_true, decide_eq_true_eq] at h0 ⊢
    obtain ⟨⟨⟨⟨r1, r2, r3, r4, r5, r6⟩, r7⟩, r8⟩, r9⟩ := h0
    rw [X.frames, List.length_cons] at r2 r3
    rw [hF, hI, hL, hB, X.limits, X.bytes, List.length_cons]
    refine ⟨⟨⟨⟨r1, r2, r3, r4, r5, r6⟩, ?_⟩, ?_⟩, X.book⟩
    · show T.heap.size + cs ≤ _
      omega
    · show T.slotsUsed + ss ≤ _
      omega
  have hsame : (jBase s T m args below).sameButNew (T.setVm s.vm) [] 0 0 := by
    refine ⟨?_, Nat.le_refl _, Nat.le_refl _, ?_, ?_, fun a x hx => ⟨x, hx, rfl, rfl, fun _ _ => rfl⟩⟩
    · show T.setVm s.vm = { ((T.setVm s.vm).setFrames (.invoking m args :: below)).setFrames (T.setVm s.vm).frames with heap := T.heap, slotsUsed := T.slotsUsed }
      rw [State.setFrames_setFrames, State.setFrames_self ht]
      rfl
    · show T.slotsUsed = T.slotsUsed + ((T.heap.toList.drop T.heap.size).map (·.slots.size)).sum
      rw [hdrop]; rfl
    · show ((T.heap.toList.drop T.heap.size).map (·.slots.size)).sum ≤ 0
      rw [hdrop]; exact Nat.le_refl _
  exact { admits := X.admits, cas := X.cas, clock := X.clock, frames := hF, room := hroom, hears := X.hears, method := X.method, code := X.code, here := X.here, tail := X.tail, warmed := X.warmed, limits := hL.symm, bytes := hB.symm, same := hsame }
/-- 'throw new E("text")' in a method without a table of its own -/
theorem j_throwS {ik is ic : Nat} {E tx : String} {names : List String} {Post : jH → Nat → Prop} (hlt : l.stackTraces = false) (hnl : c.exceptionTable.toList = []) (hat : ∀ w ∈ Bundle.ownAtoms own ic E names, jG w ∨ w ∈ jBad E names) (hX : Cond.castable E E ∈ lw_tbl) (hdc : ∀ n ∈ names ++ [Bundle.tN], Cond.declares (Bundle.initS n) ∈ lw_tbl)
    (hE : Bundle.fit E = true) (hnm : ∀ n ∈ names, Bundle.fit n = true) (hw1 : jG (.classLink own ik E)) (hw2 : jG (.instantiable E 6)) (hw3 : jG (.initialized E)) (hsr : Cond.stringRef own is tx ∈ lw_tbl) (hsx : Cond.exactly (.string own is) "java/lang/String" ∈ flatC (Jvm.Cond.and given_1 narrow_1))
    (d0 : decode cc pc = .ok (.new ik, 3)) (d3 : decode cc (pc + 3) = .ok (.dup, 1)) (d4 : decode cc (pc + 4) = .ok (.ldc is, 2)) (d6 : decode cc (pc + 6) = .ok (.invokespecial ic, 3)) (d9 : decode cc (pc + 9) = .ok (.athrow, 1))
    (hfr : names.length + 3 < R.frames) (hlo : (st.map fun v => v.category).sum + 1 + (13 * (names.length + 1) + 42) ≤ R.locals) (hk : k + 1 ≤ R.cells) (hs : sl + 6 ≤ R.slots) (hp : Post h (n + 1)) :
    jW b D Y s0 p l e R s m args below meth c own cc nL ret nm (jXM below D s0 E Post args s (k + 1) (sl + 6)) pc lv st h n k sl := by
  intro C H locs ls hR hS hl T hT X
  have XB := jBase_stand X hk hs
  have hVB : jV s0 (jBase s T m args below) := by
    refine ⟨C.v.1, ?_, fun q hq => ?_, ?_⟩
    · show s0.heap.size ≤ T.heap.size
      rw [hT]; exact Nat.le_trans C.v.2.1 hS.1
    · show T.heap[q]? = _
      rw [hT, hS.2.1 q (Nat.lt_of_lt_of_le hq C.v.2.1) (Nat.not_le.mpr hq)]; exact C.v.2.2.1 q hq
    · show jN s0 T.heap
      rw [hT]; exact hR.2.2
  obtain ⟨q, hq⟩ := hVB.str C.z hsr hsx
  have hw : ∀ {w : Cond}, jG w → w.before args (jBase s T m args below) = true := fun g => hVB.word C.z g
  have hBv : (jBase s T m args below).vm = s.vm := rfl
  have hBh : (jBase s T m args below).heap = T.heap := rfl
  have K : W p l e { R with cells := 1, slots := 6 } (jBase s T m args below) m args below meth c H [] 0 0 (jXM below D s0 E Post args (jBase s T m args below) 1 6) (F0 m pc ls st) := by
    generalize jBase s T m args below = B at hVB hq hw hBv hBh
    obtain ⟨R2, hR2⟩ : ∃ R2 : Room, R2 = { R with cells := 1, slots := 6 } := ⟨_, rfl⟩
    rw [← hR2]
    have c1 : R2.cells = 1 := by rw [hR2]
    have c2 : R2.slots = 6 := by rw [hR2]
    have c3 : R2.frames = R.frames := by rw [hR2]
    have c4 : R2.locals = R.locals := by rw [hR2]
    have hown : B.vm.findClass own = some m.cls := by rw [hBv]; exact C.ow
    refine W.newc C.ex C.by hown (hw hw1) (hw hw2) (hw hw3) rfl d0 (by rw [c1]; exact Nat.le_refl 1) (by rw [c2]; exact Nat.le_refl 6) fun cX kX f1 f2 f3 f4 => ?_
    refine lv_dup C.ex C.by d3 rfl ?_
    refine va_ldcS C.ex C.by hown hq d4 ?_
    intro T2 hT2 X2
    have htr : e.platform.stackTraces = false := by
      have h9 := X.admits.platform
      rw [h9]; exact hlt
    have hcell : T2.heap[H.size]? = some (freshCell cX kX) := by rw [hT2]; simp
    have hge : B.heap.size ≤ H.size := by rw [hBh, hT]; exact Nat.le_refl _
    obtain ⟨U, st1, hrun, hend, hW, hsm, ce, hce, OC⟩ := X2.ctorThrowS C.ex htr (own := own) (cls := E) (names := names) (ic := ic) hown hE hnm (fun w hw2 => (hat w hw2).elim (fun g => hw g) (fun g => hVB.bad C.z hX hdc w g))
      (fun x hx => by cases hx) f1 f2 hcell hge (msg := .ref q) rfl (g := F0 m (pc + 6) ls (.ref q :: .ref H.size :: .ref H.size :: st)) rfl (by rw [C.ml]; exact hl.1) rfl rfl (rest := st) rfl (by rw [C.by]; exact d6) (by rw [C.by]; exact d9) (by rw [hnl]; exact fun x hx => by cases hx) (by rw [c3]; exact hfr)
      (by rw [List.map_cons, List.sum_cons, c4]; show 2 * 0 + (1 + _) + _ ≤ R.locals; omega) C.lk
    obtain ⟨-, z2, z3, -, -, z6⟩ := id hsm
    have hold : ∀ (a : Nat), a < H.size → U.heap[a]? = H[a]? := by
      intro a ha
      have hca : H[a]? = some H[a] := Array.getElem?_eq_getElem ha
      obtain ⟨c2, g1, g2, g3, g4⟩ := z6 a H[a] (by rw [hBh, hT]; exact hca)
      have g1 : U.heap[a]? = some c2 := g1
      rw [g1, hca]
      have hsl : c2.slots = H[a].slots := by
        apply Array.ext_getElem?
        intro i
        exact g4 i (by simp)
      rw [g2, hsl]
    have hz : U.heap.size = n + 1 := by
      have h1 : U.heap.size ≤ B.heap.size + (0 + 1) := z3
      have h2 := (Array.getElem?_eq_some_iff.mp hce).1
      rw [hBh, hT, hR.1] at h1
      rw [hR.1] at h2
      omega
    refine ⟨U, st1, .threw H.size, hrun, hend, H.size, ce, h, n + 1, [], rfl, hce, OC.vm, OC.cls, hp, ⟨hz, fun a x hx => ?_, fun a x ha hx => ?_⟩, ⟨z2, fun a ha _ => ?_⟩, hW, hsm, fun _ h => by cases h⟩
    · exact ⟨(hR.2.1 a x hx).1.kept (hold a (hR.2.1 a x hx).1.lt), (hR.2.1 a x hx).2⟩
    · by_cases e9 : a = H.size
      · subst e9
        rw [hce] at hx
        cases hx
        rw [OC.vm]; rfl
      · have h2 := (Array.getElem?_eq_some_iff.mp hx).1
        rw [hz, ← hR.1] at h2
        rw [hold a (by omega)] at hx
        exact hR.2.2 a x ha hx
    · rw [hBh, hT] at ha
      rw [hBh, hT]; exact hold a ha
  obtain ⟨U, st1, o, hrun, hend, q1, ce, h2, n2, L, ho, hce, hv, hcl, hp2, hR2, hF2, hW2, hsm2, hL2⟩ := K T hT XB
  have hTz : s.heap.size ≤ T.heap.size := by rw [hT]; exact hS.1
  refine ⟨U, st1, o, hrun, hend, q1, ce, h2, n2, locs ++ L, ho, hce, hv, hcl, hp2, hR2, ⟨Nat.le_trans hTz hF2.1, fun a ha hA => ?_⟩, hW2, ?_, fun z hz => ?_⟩
  · have h5 : U.heap[a]? = T.heap[a]? := hF2.2 a (Nat.lt_of_lt_of_le ha hTz) hA
    rw [h5, hT]; exact hS.2.1 a ha hA
  · have h6 : (T.setVm s.vm).sameButNew ({ U with vm := s.vm } : State) L 1 6 := by
      obtain ⟨z1, z2⟩ := hsm2
      refine ⟨?_, z2⟩
      have z1 : ({ U with vm := s.vm } : State) = { ((T.setVm s.vm).setFrames (.invoking m args :: below)).setFrames U.frames with heap := U.heap, slotsUsed := U.slotsUsed } := z1
      rw [State.setFrames_setFrames] at z1
      exact z1
    exact X.same.trans h6
  · rcases List.mem_append.mp hz with h1 | h1
    · exact hS.2.2 z h1
    · exact hL2 z h1
end JX3
end
section
/-- a method with a table of handlers -/
def jMetW (l : Launch) (D : va_G) (s0 : State) (y : MethodName) (cc : ByteArray) (maxL : Nat) (ret : Option FieldType) (hh : List (Nat × Nat × Nat × Nat)) (fr : Nat) (av : List Value) (h : jH) (n mc ms : Nat) (Post : Option Value → jH → Nat → Prop) : Prop :=
  Met l y [.codeWith y cc maxL ret hh] (jrm fr mc ms) (jPre D s0 av h n) (jPost D s0 Post) mc ms (jA s0)
section JM1
variable {b : Nat} {D : va_G} {Y : Nat → ClassId} {s0 : State} {p : Program} {l : Launch} {e : Env} {R : Room} {s : State} {m : MethodId} {args : Array Value} {below : List Frame} {meth : Method} {c : Code} {own : String} {cc : ByteArray} {nL : Nat} {ret : Option FieldType} {nm : String} {Q : State → Prop} {pc : Nat} {lv : List (Nat × Value)} {st : List Value} {h : jH} {n k sl : Nat}
theorem jMetW_of {y : MethodName} {cy : ByteArray} {maxL fr mc ms : Nat} {rt : Option FieldType} {hh : List (Nat × Nat × Nat × Nat)} {av : List Value} {Post : Option Value → jH → Nat → Prop} (Z : jS0 b D Y s0) (hy : plainName y.cls = true) (hlen : (lg_sl av).length ≤ maxL)
    (body : ∀ (p : Program) (e : Env) (s : State) (m : MethodId) (below : List Frame) (meth : Method) (c : Code), c.exceptionTable.toList.map (fun h => (h.startPc, h.endPc, h.handlerPc, h.catchType)) = hh → jW b D Y s0 p l e (jrm fr mc ms) s m av.toArray below meth c y.cls cy maxL rt y.name (MQ below (jPost D s0 Post) av.toArray s mc ms (jA s0)) 0 (lv_args 0 av) [] h n 0 0) : jMetW l D s0 y cy maxL rt hh fr av h n mc ms Post := by
  refine va_MetW (cc := cy) (maxL := maxL) (ret := rt) (hh := hh) hy rfl ?_
  intro p e s m args below meth c s₁ B hml hv
  obtain ⟨rfl, hV, hR⟩ := hv
  have hown : s.vm.findClass y.cls = some m.cls := findClass_of_methodNamed B.named
  obtain ⟨m9, meth9, c9, g1, g2, g3, -, -, g6, -⟩ := Cond.codeWith_spec (atoms_spec (ws := [Cond.codeWith y cy maxL rt hh]) B.pre _ List.mem_cons_self)
  cases B.named.symm.trans g1
  cases B.method.symm.trans g2
  cases (Stand.of_body B).code.symm.trans g3
  rw [lg_entry_eq]
  exact body p e s m below meth c g6 ⟨B.exec, B.bytes, hml, B.returns, hown, B.notSynchronized, (name_of_methodNamed B.named B.method).1, Z, hV⟩ s.heap [] _ hR va_S.rf (lv_entry av hlen)
def jCalleeW (own : String) (idx : Nat) (y : MethodName) (cy : ByteArray) (maxL : Nat) (rt : Option FieldType) (hh : List (Nat × Nat × Nat × Nat)) (fr np : Nat) (R : Room) : Prop := (fr + 1 ≤ R.frames ∧ 8 + (maxL + 11) + 42 * fr ≤ R.locals) ∧ jG (.methodLink own idx y) ∧ jG (.codeWith y cy maxL rt hh) ∧ jG (.initialized y.cls) ∧ (y.cls ≠ "java/lang/invoke/MethodHandle" ∧ y.cls ≠ "java/lang/invoke/VarHandle" ∧ (parseMethodDescriptor y.desc).map (fun d => d.parameters.length) = some np)
theorem j_callSW {y : MethodName} {cy : ByteArray} {maxL fr mc ms idx : Nat} {rt : Option FieldType} {hh : List (Nat × Nat × Nat × Nat)} {av : List Value} {Post : Option Value → jH → Nat → Prop} (M : jMetW l D s0 y cy maxL rt hh fr av h n mc ms Post) (hy : jCalleeW own idx y cy maxL rt hh fr av.length R) (hw2 : jG (.static y)) (hcs : k + mc ≤ R.cells ∧ sl + ms ≤ R.slots) (hst : (st.map fun v => v.category).sum ≤ 8) (hd : decode cc pc = .ok (.invokestatic idx, 3)) (kk : ∀ (r : Option Value) (h2 : jH) (n2 : Nat), Post r h2 n2 → jW b D Y s0 p l e R s m args below meth c own cc nL ret nm Q (pc + 3) lv (r.toList ++ st) h2 n2 (k + mc) (sl + ms)) : jW b D Y s0 p l e R s m args below meth c own cc nL ret nm Q pc lv (av.reverse ++ st) h n k sl := by
  refine j_goes (a9 := av.toArray) (mc := mc) (ms := ms) (fun H locs ls C hR hS hl => ?_) kk
  obtain ⟨hfr, hw1, hw5, hw4, hdd⟩ := hy
  have hK : Back l R p e below s args y 3 8 (PreOf R mc ms (jPre D s0 av h n)) (PostOf (jPost D s0 Post) mc ms (jA s0)) :=
    va_backW (bytes := cy) (maxL := maxL) (ret := rt) (hh := hh) M jPre_blind rfl rfl hfr.1 hfr.2 (fun w hw a2 U hW => by rw [List.mem_singleton.mp hw]; exact word_at hW (good_of_word hw5.2) (C.w hw5)) List.mem_cons_self (fun a2 U hW => word_at hW (good_of_word hw4.2) (C.w hw4))
  obtain ⟨mk, methM, cM, hnamed, hmethM, -, -, -, -, -, -, hsigM⟩ := Cond.codeWith_spec (C.w hw5)
  intro T hT X
  obtain ⟨v, vm₁, B, hW1, X1, hpost, hsteps⟩ : ∃ (v : Option Value) (vm₁ : Vm) (B : Pt), s.WarmedH vm₁ ∧ Stand p l e R s m args below meth c B.U B.locs B.cells B.slots ∧ (PostOf (jPost D s0 Post) mc ms (jA s0)) ⟨T.setVm vm₁, locs, k, sl⟩ av.toArray v B ∧
      ∀ target, Steps p.tables e below (B.U.setTop (F0 m (pc + 3) ls (v.toList ++ st))) target → Steps p.tables e below (T.setTop (F0 m pc ls (av.reverse ++ st))) target := by
    have hstatic : methM.isStatic = true := Cond.static_spec hnamed hmethM (C.w hw2)
    obtain ⟨kP, hkP, -⟩ := className_of_methodNamed hnamed
    have hinitP : kP.init = .initialized := Cond.initialized_spec (findClass_of_methodNamed hnamed) hkP (C.w hw4)
    have hlen2 : av.length = methM.sig.parameters.length := by
      have h3 := hdd.2.2
      rw [hsigM] at h3
      exact (Option.some.inj h3).symm
    obtain ⟨vm₁, X₁, hstep₁⟩ := X.invokestatic C.ex C.ow (C.w hw1) hnamed hmethM hstatic hkP hinitP ⟨hdd.1, hdd.2.1⟩ (g := F0 m pc ls (av.reverse ++ st)) rfl (argsL := av) (rest := st) hlen2 rfl (by rw [C.by]; exact hd)
    obtain ⟨v, B, X2, hpost, hsteps⟩ := hK m meth c ⟨T.setVm vm₁, locs, k, sl⟩ (F0 m pc ls st) (.invokestatic idx) mk av.toArray X₁ rfl (by rw [C.ml]; exact hl.1) (by rw [C.by]; exact hd) (lv_room hst) (X₁.named hnamed) ⟨hcs.1, hcs.2, jPre_at C hR hS hT X₁.warmed⟩
    exact ⟨v, vm₁, B, X₁.warmed, X2, hpost, fun target ht => hstep₁ _ fun acts => by rw [doInvoke_state]; exact hsteps.trans ht⟩
  obtain ⟨U1, l2, c2, s2⟩ := B
  obtain ⟨g1, mk1, t, L, e1, e2, hq, h1, hL, h2, h3⟩ := hpost
  dsimp only [Pt.U, Pt.locs, Pt.cells, Pt.slots] at X1 e1 e2 h1 h2 h3 hsteps
  subst h1; subst h2; subst h3
  exact ⟨v, (T.setVm vm₁).calling g1 mk1 av.toArray, t, U1, L, hT, X1, hL, e1, hq, hsteps⟩
/-- a static private method of a nest mate -/
theorem j_callSN {y : MethodName} {cy : ByteArray} {maxL fr mc ms idx : Nat} {rt : Option FieldType} {host : String} {av : List Value} {Post : Option Value → jH → Nat → Prop} (M : jMet l D s0 y cy maxL rt fr av h n mc ms Post) (hfr : fr + 1 ≤ R.frames ∧ 8 + (maxL + 11) + 42 * fr ≤ R.locals) (hw1 : Cond.methodLinkNest own idx y host ∈ lw_tbl) (hw5 : jG (.code y cy maxL rt)) (hw4 : jG (.initialized y.cls)) (hdd : y.cls ≠ "java/lang/invoke/MethodHandle" ∧ y.cls ≠ "java/lang/invoke/VarHandle" ∧ (parseMethodDescriptor y.desc).map (fun d => d.parameters.length) = some av.length) (hw2 : jG (.static y)) (hcs : k + mc ≤ R.cells ∧ sl + ms ≤ R.slots) (hst : (st.map fun v => v.category).sum ≤ 8) (hd : decode cc pc = .ok (.invokestatic idx, 3)) (kk : ∀ (r : Option Value) (h2 : jH) (n2 : Nat), Post r h2 n2 → jW b D Y s0 p l e R s m args below meth c own cc nL ret nm Q (pc + 3) lv (r.toList ++ st) h2 n2 (k + mc) (sl + ms)) : jW b D Y s0 p l e R s m args below meth c own cc nL ret nm Q pc lv (av.reverse ++ st) h n k sl := by
  refine j_goes (a9 := av.toArray) (mc := mc) (ms := ms) (fun H locs ls C hR hS hl => ?_) kk
  have hG : ∀ w ∈ [Cond.code y cy maxL rt], jG w := by
    intro w hw
    rw [List.mem_singleton.mp hw]; exact hw5
  obtain ⟨g1, g2⟩ := jG_all hG C
  have hN : va_Nw (.methodLinkNest own idx y host) s := va_Nw.warmM C.v.1 (va_Nw.of rfl (C.z.1 _ hw1))
  exact (va_runSN (As := av) (rest := st) ⟨C.ex, C.by, C.ml, C.ow, g1⟩ M ⟨va_cnB av.length g1 g2 rfl rfl rfl hN (C.w hw4) hdd hfr, C.w hw2, trivial⟩ ⟨jPre_blind, fun U hU hW => jPre_at C hR hS hU hW⟩ rfl rfl hl.1 rfl (lv_room hst) hd hcs).run
/-- a callee that throws, its throw caught by the first row of this method's table -/
theorem j_callVX {y : MethodName} {cy : ByteArray} {maxL fr mc ms idx a ci : Nat} {rt : Option FieldType} {av : List Value} {E : String} {Post : jH → Nat → Prop} {T : u_T} {N : Nat} {fs : List Value} {x : ExceptionTableEntry} {rest : List ExceptionTableEntry} (M : jMetX l D s0 y cy maxL rt fr (.ref a :: av) h n mc ms E Post) (hy : jCallee own idx y cy maxL rt fr av.length R) (hw2 : jG (.instanceMethod y)) (hw3 : jG (.selects y.cls y y)) (hc : vcl[ci]? = some (y.cls, T, N)) (he : h a = some (.inr (ci, fs))) (hcs : k + mc ≤ R.cells ∧ sl + ms ≤ R.slots) (hst : (st.map fun v => v.category).sum ≤ 8) (hd : decode cc pc = .ok (.invokevirtual idx, 3))
    (hx : c.exceptionTable.toList = x :: rest) (hcv : covers x pc = true) (h0 : x.catchType ≠ 0) (hwc : jG (.classLink own x.catchType E)) (kk : ∀ (q : Nat) (h2 : jH) (n2 : Nat), Post h2 n2 → jW b D Y s0 p l e R s m args below meth c own cc nL ret nm Q x.handlerPc lv [.ref q] h2 n2 (k + mc) (sl + ms)) : jW b D Y s0 p l e R s m args below meth c own cc nL ret nm Q pc lv (av.reverse ++ .ref a :: st) h n k sl := by
  intro C H locs ls hR hS hl T2 hT X
  obtain ⟨hfr, hw1, hw5, hw4, hdd⟩ := hy
  obtain ⟨cellB, g1, g2, g3⟩ := va_recv C.K (hR.P he) hc (q0 := 0) rfl
  obtain ⟨mk, methM, hnamed, hmethM, hstM, habM⟩ := Cond.instanceMethod_spec (C.w hw2)
  obtain ⟨methM2, cM, hmethM2, -, -, -, -, -, -, hsigM⟩ := Cond.code_spec hnamed (C.w hw5)
  cases hmethM.symm.trans hmethM2
  obtain ⟨c2, r2, m2, q1, q2, q3, q4, kP, hkP, hkPi⟩ := Cond.selects_spec (C.w hw3)
  cases g3.symm.trans q1
  cases (State.methodFound?_of_named hnamed ⟨hdd.1, hdd.2.1⟩).symm.trans q2
  cases hnamed.symm.trans q3
  have hselP : selectMethod e.platform s.vm cellB.cls mk = .method mk := by rw [Launch.admits_selectMethod X.admits]; exact q4
  have hlen2 : av.length = methM.sig.parameters.length := by
    have h3 := hdd.2.2
    rw [hsigM] at h3
    exact (Option.some.inj h3).symm
  obtain ⟨vm₁, X₁, hstep₁⟩ := X.invokevirtual C.ex C.ow (C.w hw1) hnamed hmethM hstM hkP hkPi ⟨hdd.1, hdd.2.1⟩ (a := a) (cell := cellB) (by rw [hT]; exact g1)
    (fun z h => by rw [h] at g2; cases g2) hselP hmethM habM hkP hkPi (g := F0 m pc ls (av.reverse ++ .ref a :: st)) rfl (argsL := av) (rest := st) hlen2 rfl (by rw [C.by]; exact hd)
  have hP : jPre D s0 (.ref a :: av) h n (Value.ref a :: av).toArray (T2.setVm vm₁) := jPre_at C hR hS hT X₁.warmed
  obtain ⟨q, ce, h2, n2, U2, L, X2, hce, hv, hcl, hp, hR2, hF, hL, hst2⟩ := jx_thrown M X₁ (word_at X₁.warmed (good_of_word hw5.2) (C.w hw5)) (word_at X₁.warmed (good_of_word hw4.2) (C.w hw4)) hP hfr hcs (g := F0 m pc ls st) rfl (by rw [C.ml]; exact hl.1) (lv_room hst) (by rw [C.by]; exact hd) (X₁.named hnamed)
  obtain ⟨vm2, X3, hst3⟩ := jx_caught X2 C.ow (g := F0 m pc ls st) rfl hce hv hcl hx hcv h0 (C.w hwc)
  obtain ⟨t, a1, b1⟩ := kk q h2 n2 hp C U2.heap (locs ++ L) ls hR2 (jS_call (st₀ := T2.setVm vm₁) (t := U2) hS hT hF hL) hl (U2.setVm vm2) rfl X3
  refine ⟨t, hstep₁ _ fun acts => ?_, b1⟩
  rw [doInvoke_state]
  exact hst2.trans (hst3 _ a1)
/-- System.arraycopy of longs -/
theorem j_copyl {a a0 n0 n1 idx : Nat} {f g : Nat → Int64} {sp dp z : Int32} (hw1 : jG (.methodLink own idx arraycopyName)) (hw2 : jG (.native arraycopyName)) (hw3 : jG (.static arraycopyName)) (hw4 : jG (.initialized "java/lang/System")) (he0 : h a0 = some (.inl (Y 1, n0, .inr (.inl f)))) (he1 : h a = some (.inl (Y 1, n1, .inr (.inl g)))) (h1 : ¬ sp < 0) (h2 : ¬ dp < 0) (h3 : ¬ z < 0) (h4 : sp.toNatClampNeg + z.toNatClampNeg ≤ n0) (h5 : dp.toNatClampNeg + z.toNatClampNeg ≤ n1) (hf : 1 ≤ R.frames) (hlo : (st.map fun v => v.category).sum + (nativeFrameWords "java/lang/System" "arraycopy" 5 + 11) ≤ R.locals) (hd : decode cc pc = .ok (.invokestatic idx, 3)) (kk : jW b D Y s0 p l e R s m args below meth c own cc nL ret nm Q (pc + 3) lv st (jh_up h a (.inl (Y 1, n1, .inr (.inl (va_cpy f g sp.toNatClampNeg dp.toNatClampNeg z.toNatClampNeg))))) n k sl) : jW b D Y s0 p l e R s m args below meth c own cc nL ret nm Q pc lv (.int z :: .int dp :: .ref a :: .int sp :: .ref a0 :: st) h n k sl := by
  have nn : ∀ z : Int32, ¬ z < 0 → z.toInt = (z.toNatClampNeg : Int) := by
    intro z hz
    have hz0 : (0 : Int) ≤ z.toInt := by
      have := Int32.not_lt.mp hz
      simpa using Int32.le_iff_toInt_le.mp this
    show z.toInt = ((z.toInt.toNat : Nat) : Int)
    omega
  intro C H locs ls hR hS hl T hT X
  have hc0 : H[a0]? = some (vp_cell (Y 1) (n0, .inr (.inl f))) := (hR.2.1 a0 _ he0).1
  have hc1 : H[a]? = some (vp_cell (Y 1) (n1, .inr (.inl g))) := (hR.2.1 a _ he1).1
  obtain ⟨-, k0, hk0, cm0, hkk0⟩ := (C.K.2 1 _ rfl).1 n0 (fun j => .long (f j))
  obtain ⟨-, k1, hk1, cm1, hkk1⟩ := (C.K.2 1 _ rfl).1 n1 (fun j => .long (g j))
  obtain ⟨vm1, X1, step⟩ := X.arraycopy C.ex C.ow (C.w hw1) (C.w hw2) (C.w hw3) (C.w hw4) (src := a0) (dst := a) (cs := vp_cell (Y 1) (n0, .inr (.inl f))) (cd := vp_cell (Y 1) (n1, .inr (.inl g))) (srcPos := sp) (destPos := dp) (n := z) (by rw [hT]; exact hc0) (by rw [hT]; exact hc1)
    (fun _ h => by cases h) (fun _ h => by cases h) (fun h => by cases h) (fun h => by cases h) hk0 hk1 hkk0 hkk1 (by simp [refKind]) h1 h2 h3
    (by rw [nn sp h1, nn z h3]; show ¬ _ > ((arrV (Y 1) n0 (fun j => .long (f j))).slots.size : Int); rw [arrV_size]; omega)
    (by rw [nn dp h2, nn z h3]; show ¬ _ > ((arrV (Y 1) n1 (fun j => .long (g j))).slots.size : Int); rw [arrV_size]; omega)
    (fun vm₁ _ i hi => by
      have e9 : (vp_cell (Y 1) (n0, .inr (.inl f))).slots.getD (sp.toNatClampNeg + i) .null = .long (f (sp.toNatClampNeg + i)) := by
        show (arrV (Y 1) n0 (fun j => .long (f j))).slots.getD _ _ = _
        rw [Array.getD_eq_getD_getElem?, arrV_read _ _ (by omega)]
        rfl
      refine ⟨?_, ?_⟩
      · rw [e9]; rfl
      · rw [e9]; exact trivial)
    (g := F0 m pc ls (.int z :: .int dp :: .ref a :: .int sp :: .ref a0 :: st)) rfl (by rw [C.ml]; exact hl.1) (rest := st) rfl (by rw [C.by]; exact hd) hf (by show 2 * 0 + _ + _ ≤ _; omega)
  have e1 : copied (vp_cell (Y 1) (n0, .inr (.inl f))) (vp_cell (Y 1) (n1, .inr (.inl g))) sp dp z = vp_cell (Y 1) (n1, .inr (.inl (va_cpy f g sp.toNatClampNeg dp.toNatClampNeg z.toNatClampNeg))) := va_copied (fun z => .long z) (Y 1) (Y 1) f g h4
  rw [e1] at X1 step
  have hA := (hR.2.1 a _ he1).2
  have hlt : a < H.size := (Array.getElem?_eq_some_iff.mp hc1).1
  obtain ⟨t, a1, b1⟩ := kk C _ _ ls (hR.put (H' := H.setIfInBounds a (vp_cell (Y 1) (n1, .inr (.inl (va_cpy f g sp.toNatClampNeg dp.toNatClampNeg z.toNatClampNeg))))) (show (H.setIfInBounds a _)[a]? = some _ by simp [Array.getElem?_setIfInBounds, hlt]) hA (by simp) (fun q hq => by simp [Array.getElem?_setIfInBounds, Ne.symm hq]))
    ⟨by simp; exact hS.1, fun q g1 g2 => by
      rw [Array.getElem?_setIfInBounds_ne (fun e9 => g2 (by rw [← e9]; exact hA))]
      exact hS.2.1 q g1 g2, fun q hq => by
      rcases List.mem_append.mp hq with h9 | h9
      · exact hS.2.2 q h9
      · obtain ⟨w, -, hw⟩ := List.mem_map.mp h9
        rw [← hw]; exact hA⟩ hl _ (by rw [← hT]; rfl) X1
  exact ⟨t, step t a1, b1⟩
end JM1
end
section
/-! new long[n][k], by the model's own words: the outer array, then each row made and put into it -/
def jGr (T : State) (cA : ClassId) (N M i : Nat) (U : State) : Prop := U.heap.size = T.heap.size + 1 + i ∧ U.vm = T.vm ∧ U.slotsUsed = T.slotsUsed + N + i * M ∧ (∃ oc : Cell, U.heap[T.heap.size]? = some oc ∧ oc.cls = cA ∧ oc.vm = .none ∧ oc.slots.size = N) ∧ (∀ x : Nat, x < T.heap.size → U.heap[x]? = T.heap[x]?) ∧ ∀ (x : Nat) (cl : Cell), T.heap.size ≤ x → U.heap[x]? = some cl → cl.vm.isStatics = false
theorem jm_arr {E : CtlPost} {e : Env} {d : Bool} {acts : List Action} {s : State} {c comp : ClassId} {k : Class} {ty : FieldType} {len : Nat} {v : Value} (hk : s.vm.classes[c]? = some k) (hkd : k.kind = .array comp ty) (hl : ¬ len > e.platform.arrayLengthLimit) (hb : ¬ len * componentBytes ty > e.platform.maxHeapBytes) (hf : fits ty v = true) (hv : v.isDefault = true) (h1 : s.heap.size < e.platform.maxCells) (h2 : s.slotsUsed + len ≤ e.platform.maxSlots) {Q : Addr → Pre} (hq : Q s.heap.size d acts (s.pushCell { cls := c, slots := Array.replicate len v, vm := .none })) : wp (Jvm.newArray c len v) Q E e d acts s := by
  have e1 : allocActs (Array.replicate len v) s.heap.size acts = acts := by
    unfold allocActs
    rw [if_pos (by rw [Array.all_replicate]; split <;> simp [hv])]
  have e2 : ∀ (i : Nat) (w : Value), (Array.replicate len v)[i]? = some w → s.fitsSlot c .none i w = true := fun i w hw => by
    rw [Array.getElem?_replicate] at hw
    split at hw
    · cases hw; simp [State.fitsSlot, State.slotType?, hk, hkd, hf]
    · cases hw
  simp only [Jvm.newArray, Jvm.arrayFits, wp_bind', W.ask, W.ite, hl, if_false, wp_pure', W.theClass, hk, hkd, hb, W.alloc, W.stop, Option.some.injEq, exists_eq_left', Array.size_replicate, e1]
  rw [if_neg (by omega)]
  exact ⟨h1, h2, e2, hq⟩
theorem jm_row {E : CtlPost} {e : Env} {d : Bool} {acts : List Action} {s : State} {comp cc : ClassId} {kC : Class} {w : Int32} (hkC : s.vm.classes[comp]? = some kC) (hC : kC.kind = .array cc .long) (hw : ¬ w < 0) (hl : ¬ w.toNatClampNeg > e.platform.arrayLengthLimit) (hb : ¬ w.toNatClampNeg * 8 > e.platform.maxHeapBytes) (h1 : s.heap.size < e.platform.maxCells) (h2 : s.slotsUsed + w.toNatClampNeg ≤ e.platform.maxSlots) {Q : Addr → Pre} (hq : Q s.heap.size d acts (s.pushCell { cls := comp, slots := Array.replicate w.toNatClampNeg (defaultValue .long), vm := .none })) : wp (multianewarray.make comp [w]) Q E e d acts s := by
  rw [multianewarray.make]
  simp only [wp_bind', W.ite, hw, if_false, wp_pure', W.theClass, hkC, hC, Option.some.injEq, exists_eq_left']
  exact jm_arr hkC hC hl hb rfl rfl h1 h2 hq
def jgU (T : State) (cA comp : ClassId) (N M : Nat) : Nat → State
  | 0 => T.pushCell { cls := cA, slots := Array.replicate N .null, vm := .none }
  | i + 1 => ((jgU T cA comp N M i).pushCell { cls := comp, slots := Array.replicate M (defaultValue .long), vm := .none }).setCell T.heap.size (((jgU T cA comp N M i).heap[T.heap.size]?.getD { cls := cA, slots := #[], vm := .none }).setSlot i (.ref (jgU T cA comp N M i).heap.size))
set_option maxHeartbeats 1000000 in
theorem jgU_ok {p : Program} {l : Launch} {e : Env} {R : Room} {s : State} {m : MethodId} {args : Array Value} {below : List Frame} {meth : Method} {c : Code} {T : State} {locs : List Loc} {k1 k2 : Nat} (X : Stand p l e R s m args below meth c T locs k1 k2) (cA comp : ClassId) (N M : Nat) : ∀ i, Stand p l e R s m args below meth c (jgU T cA comp N M i) locs (k1 + 1 + i) (k2 + N + i * M) ∧ jGr T cA N M i (jgU T cA comp N M i) := by
  intro i
  induction i with
  | zero =>
    have hpz : (T.pushCell { cls := cA, slots := Array.replicate N .null, vm := .none }).heap.size = T.heap.size + 1 := by simp
    refine ⟨?_, hpz, rfl, ?_, ⟨_, State.heap_pushCell_size _ _, rfl, rfl, by simp⟩, fun x hx => State.heap_pushCell_of_lt _ _ hx, ?_⟩
    · have h9 := X.pushed { cls := cA, slots := Array.replicate N .null, vm := .none }
      simpa [jgU] using h9
    · simp [jgU]
    · intro x cl hx hc
      have hc : (T.pushCell { cls := cA, slots := Array.replicate N .null, vm := .none }).heap[x]? = some cl := hc
      have hlt := (Array.getElem?_eq_some_iff.mp hc).1
      rw [hpz] at hlt
      obtain rfl : x = T.heap.size := by omega
      rw [State.heap_pushCell_size] at hc
      cases hc; rfl
  | succ x ih =>
    obtain ⟨XU, g1, g2, g3, ⟨oc, o1, o2, o3, o4⟩, g5, g6⟩ := ih
    have hTU : T.heap.size < (jgU T cA comp N M x).heap.size := by omega
    rw [jgU, o1, Option.getD_some]
    generalize jgU T cA comp N M x = U at *
    generalize hic : ({ cls := comp, slots := Array.replicate M (defaultValue .long), vm := .none } : Cell) = ic
    have hlk : (U.pushCell ic).heap[T.heap.size]? = some oc := by rw [State.heap_pushCell_of_lt _ _ hTU]; exact o1
    have hiz : ic.slots.size = M := by rw [← hic]; simp
    have hiv : ic.vm = .none := by rw [← hic]
    refine ⟨?_, ?_, ?_, ?_, ⟨_, State.heap_setCell_self hlk, ?_, ?_, ?_⟩, fun y hy => ?_, fun y cl hy hc => ?_⟩
    · have h9 := ((XU.pushed ic).stored hlk x (.ref U.heap.size)).dropFresh (fun q hq9 => by
        rw [List.mem_singleton] at hq9; rw [hq9]; exact X.heapGrown)
      rw [hiz] at h9
      rw [show k2 + N + (x + 1) * M = k2 + N + x * M + M by rw [Nat.succ_mul]; omega]
      exact h9
    · simp [State.setCell, g1]; omega
    · exact g2
    · show (U.pushCell ic).slotsUsed = _
      simp [g3, hiz, Nat.succ_mul]; omega
    · simp [Cell.setSlot, o2]
    · simp [Cell.setSlot, o3]
    · simp [Cell.setSlot, o4]
    · rw [State.heap_setCell_other (Nat.ne_of_gt hy), State.heap_pushCell_of_lt _ _ (Nat.lt_trans hy hTU)]
      exact g5 y hy
    · by_cases e1 : y = T.heap.size
      · subst e1
        rw [State.heap_setCell_self hlk] at hc
        cases hc
        show oc.vm.isStatics = false
        rw [o3]; rfl
      · rw [State.heap_setCell_other (Ne.symm e1)] at hc
        by_cases e2 : y < U.heap.size
        · rw [State.heap_pushCell_of_lt _ _ e2] at hc
          exact g6 y cl hy hc
        · have h7 := (Array.getElem?_eq_some_iff.mp hc).1
          have h8 : (U.pushCell ic).heap.size = U.heap.size + 1 := by simp
          rw [h8] at h7
          obtain rfl : y = U.heap.size := by omega
          rw [State.heap_pushCell_size] at hc
          cases hc
          rw [hiv]; rfl
theorem jgU_top (T : State) (f : JFrame) (cA comp : ClassId) (N M : Nat) : ∀ i, jgU (T.setTop f) cA comp N M i = (jgU T cA comp N M i).setTop f
  | 0 => rfl
  | i + 1 => by simp only [jgU, jgU_top T f cA comp N M i, State.heap_setTop, State.pushCell_setTop, State.setCell_setTop]
set_option maxHeartbeats 1000000 in
theorem jm_make {p : Program} {l : Launch} {e : Env} {R : Room} {s : State} {m : MethodId} {args : Array Value} {below : List Frame} {meth : Method} {c : Code} {T : State} {locs : List Loc} {k1 k2 : Nat} (X : Stand p l e R s m args below meth c T locs k1 k2) {f : JFrame} {E : CtlPost} {d : Bool} {acts : List Action} {cA comp cc : ClassId} {kA kC : Class} {z w : Int32} (hkA : T.vm.classes[cA]? = some kA) (hA : kA.kind = .array comp (.array .long)) (hkC : T.vm.classes[comp]? = some kC) (hC : kC.kind = .array cc .long) (hz : ¬ z < 0) (hw : ¬ w < 0)
    (l1 : ¬ z.toNatClampNeg > e.platform.arrayLengthLimit) (b1 : ¬ z.toNatClampNeg * 4 > e.platform.maxHeapBytes) (l2 : ¬ w.toNatClampNeg > e.platform.arrayLengthLimit) (b2 : ¬ w.toNatClampNeg * 8 > e.platform.maxHeapBytes) (hcs : T.heap.size + (1 + z.toNatClampNeg) ≤ e.platform.maxCells) (hss : T.slotsUsed + (z.toNatClampNeg + z.toNatClampNeg * w.toNatClampNeg) ≤ e.platform.maxSlots) {Q : Addr → Pre}
    (hq : ∀ (d' : Bool) (acts' : List Action), Q T.heap.size d' acts' ((jgU T cA comp z.toNatClampNeg w.toNatClampNeg z.toNatClampNeg).setTop f)) : wp (multianewarray.make cA [z, w]) Q E e d acts (T.setTop f) := by
  generalize hN : z.toNatClampNeg = N at *
  rw [multianewarray.make]
  simp only [wp_bind', W.ite, hz, if_false, wp_pure', W.theClass, show (T.setTop f).vm.classes[cA]? = some kA from hkA, hA, Option.some.injEq, exists_eq_left']
  rw [hN]
  refine jm_arr (s := T.setTop f) (k := kA) (ty := .array .long) (v := .null) hkA hA l1 b1 rfl rfl (by show T.heap.size < _; omega) (by show T.slotsUsed + _ ≤ _; have := Nat.zero_le (N * w.toNatClampNeg); omega) ?_
  have hfind : ([w].find? (· < 0)) = none := by simp [hw]
  simp only [hfind]
  rw [ite_self, wp_bind', Std.Legacy.Range.forIn_eq_forIn_range']
  rw [show ([:N] : Std.Legacy.Range).size = N by simp [Std.Legacy.Range.size]]
  refine wp_forIn_inv (fun rest u => ∃ i : Nat, i ≤ N ∧ rest = List.range' i (N - i) ∧ u = (jgU T cA comp N w.toNatClampNeg i).setTop f) _ _ ⟨0, Nat.zero_le _, rfl, rfl⟩ ?_ ?_
  · rintro x rest u d' acts' Q' ⟨i, hi, hl, rfl⟩ hnext
    have hlt : i < N := by
      rcases Nat.lt_or_ge i N with h | h
      · exact h
      · rw [show N - i = 0 by omega] at hl; cases hl
    obtain ⟨rfl, hrest⟩ : x = i ∧ rest = List.range' (i + 1) (N - (i + 1)) := by
      rw [show N - i = (N - (i + 1)) + 1 by omega, List.range'_succ] at hl
      exact ⟨(List.cons.inj hl).1, (List.cons.inj hl).2⟩
    obtain ⟨XU, g1, g2, g3, ⟨oc, o1, o2, o3, o4⟩, g5, g6⟩ := jgU_ok X cA comp N w.toNatClampNeg x
    have hmul : (x + 1) * w.toNatClampNeg ≤ N * w.toNatClampNeg := Nat.mul_le_mul_right _ hlt
    rw [Nat.succ_mul] at hmul
    have hTU : T.heap.size < (jgU T cA comp N w.toNatClampNeg x).heap.size := by omega
    have hstep : jgU T cA comp N w.toNatClampNeg (x + 1) = ((jgU T cA comp N w.toNatClampNeg x).pushCell { cls := comp, slots := Array.replicate w.toNatClampNeg (defaultValue .long), vm := .none }).setCell T.heap.size (oc.setSlot x (.ref (jgU T cA comp N w.toNatClampNeg x).heap.size)) := by rw [jgU, o1, Option.getD_some]
    have hend := hnext (((jgU T cA comp N w.toNatClampNeg x).pushCell { cls := comp, slots := Array.replicate w.toNatClampNeg (defaultValue .long), vm := .none }).setCell T.heap.size (oc.setSlot x (.ref (jgU T cA comp N w.toNatClampNeg x).heap.size)) |>.setTop f)
    generalize jgU T cA comp N w.toNatClampNeg x = U at *
    simp only [wp_bind']
    refine jm_row (kC := kC) (by show U.vm.classes[comp]? = some kC; rw [g2]; exact hkC) hC hw l2 b2 (by show U.heap.size < _; omega) (by show U.slotsUsed + _ ≤ _; omega) ?_
    simp only [wp_bind', W.writeLoc, wp_pure']
    have hcl : U.vm.classes[cA]? = some kA := by rw [g2]; exact hkA
    refine ⟨oc, by show (U.pushCell _).heap[T.heap.size]? = some oc; rw [State.heap_pushCell_of_lt _ _ hTU]; exact o1, by rw [o3]; simp, by rw [o4]; exact hlt, ?_, hend _ _ ⟨x + 1, hlt, hrest, by rw [hstep]⟩⟩
    rw [o2, o3]
    simp [State.fitsSlot, State.slotType?, hcl, hA, fits]
  · rintro u d' acts' ⟨i, hi, hl, rfl⟩
    obtain rfl : i = N := by
      rcases Nat.lt_or_ge i N with h | h
      · rw [show N - i = (N - (i + 1)) + 1 by omega, List.range'_succ] at hl; cases hl
      · omega
    simp only [wp_pure']
    exact hq _ _
theorem jao_spec {args : Array Value} {s : State} (h : (Cond.arrayOver (.array .long)).before args s = true) : ∃ (comp c : ClassId) (k : Class), s.vm.findClass "[J" = some comp ∧ s.vm.classes[c]? = some k ∧ k.kind = .array comp (.array .long) ∧ s.vm.findClass "[[J" = some c := by
  have h : (Cond.arrayOver (.array .long)).holds args s none s [] = true := h
  simp only [Cond.holds, Cond.value, beq_iff_eq] at h
  have e1 : (FieldType.array .long).toString = "[J" := by decide
  rw [e1] at h
  cases hc : s.vm.findClass "[J" with
  | none => simp [hc] at h
  | some comp =>
    simp only [hc, Option.bind_some, Option.bind_eq_some_iff, Option.map_eq_some_iff] at h
    obtain ⟨c, hi, k, hk, hb⟩ := h
    have hp := (Array.findIdx?_eq_some_iff_getElem.mp hi).2.1
    rw [(Array.getElem?_eq_some_iff.mp hk).2] at hp
    refine ⟨comp, c, k, rfl, hk, ?_⟩
    cases hkd : k.kind with
    | array a b =>
      rw [hkd] at hb hp
      simp at hb hp
      exact ⟨by rw [hp, hb.1], hb.2⟩
    | _ => rw [hkd] at hb; simp at hb
set_option maxHeartbeats 1000000 in
theorem jm_step {p : Program} {l : Launch} {e : Env} {R : Room} {s : State} {m : MethodId} {args : Array Value} {below : List Frame} {meth : Method} {c : Code} {T : State} {locs : List Loc} {k1 k2 : Nat} (X : Stand p l e R s m args below meth c T locs k1 k2) (hx : p.tables.exec = Jvm.exec) {own : String} {idx : Nat} (hown : s.vm.findClass own = some m.cls) (hcl : (Cond.classLink own idx "[[J").before args s = true) (hov : (Cond.arrayOver (.array .long)).before args s = true) (har : (Cond.arrayClass .long).before args s = true)
    {g : JFrame} (hg : g.method = m) (hd : decode c.code g.pc = .ok (.multianewarray idx 2, 4)) {z w : Int32} {rest : List Value} (hst : g.stack = .int w :: .int z :: rest) (hz : ¬ z < 0) (hw : ¬ w < 0) (hb1 : z.toNatClampNeg * 4 ≤ 536870912) (hb2 : w.toNatClampNeg * 8 ≤ 536870912) (hk : k1 + (1 + z.toNatClampNeg) ≤ R.cells) (hs : k2 + (z.toNatClampNeg + z.toNatClampNeg * w.toNatClampNeg) ≤ R.slots) :
    ∃ (vm1 : Vm) (cA comp : ClassId), Stand p l e R s m args below meth c (jgU (T.setVm vm1) cA comp z.toNatClampNeg w.toNatClampNeg z.toNatClampNeg) locs (k1 + 1 + z.toNatClampNeg) (k2 + z.toNatClampNeg + z.toNatClampNeg * w.toNatClampNeg) ∧ jGr (T.setVm vm1) cA z.toNatClampNeg w.toNatClampNeg z.toNatClampNeg (jgU (T.setVm vm1) cA comp z.toNatClampNeg w.toNatClampNeg z.toNatClampNeg) ∧
      ∀ target, Steps p.tables e below ((jgU (T.setVm vm1) cA comp z.toNatClampNeg w.toNatClampNeg z.toNatClampNeg).setTop { g with pc := g.pc + 4, stack := .ref T.heap.size :: rest }) target → Steps p.tables e below (T.setTop g) target := by
  subst hg
  have pm : e.platform.magicAccessors = ({} : Platform).magicAccessors := by rw [X.admits.platform]
  obtain ⟨comp, cA, kA, a1, a2, a3, a4⟩ := jao_spec hov
  obtain ⟨comp2, kC, cc, c1, c2, c3⟩ := Cond.arrayClass_spec har
  have c1 : s.vm.findClass "[J" = some comp2 := c1
  cases Option.some.inj (c1.symm.trans a1)
  obtain ⟨c0, f0, hlk⟩ := Cond.classLink_spec hown hcl e.platform pm
  cases Option.some.inj (a4.symm.trans f0)
  obtain ⟨hg1, hW, hready⟩ := State.classEntry (e := e) X.warmed hlk
  generalize T.vm.noted g.method.cls idx (.cls cA) = vm1 at hg1 hW hready
  obtain ⟨kA1, hkA1, eA⟩ := hW.alike.2.2 _ _ a2
  obtain ⟨kC1, hkC1, eC⟩ := hW.alike.2.2 _ _ c2
  have X1 := X.noted hW
  obtain ⟨r1, r2⟩ := X.roomAbove hk hs
  obtain ⟨XF, hG⟩ := jgU_ok X1 cA comp z.toNatClampNeg w.toNatClampNeg z.toNatClampNeg
  refine ⟨vm1, cA, comp, XF, hG, fun target go => ?_⟩
  jvm_step X.here [hx, hd]
  simp only [multianewarray.sem, wp_bind', W.resolveClassAt_links (State.method?_setTop g X.here.top) hg1]
  rw [W.popN, if_neg (by decide)]
  refine ⟨g, State.topJava?_setTop' (s := T.setVm vm1) g X.here.top, [.int z, .int w], rest, rfl, hst, ?_⟩
  simp only [List.mapM_cons, List.mapM_nil, wp_bind', wp_pure']
  have eS : ((T.setTop g).setVm vm1).setTop { g with stack := rest } = (T.setVm vm1).setTop { g with stack := rest } := by
    show ((T.setVm vm1).setTop g).setTop _ = _
    rw [State.setTop_setTop]
  rw [eS]
  refine jm_make X1 (kA := kA1) (kC := kC1) (comp := comp) (cc := cc) hkA1 (by rw [eA]; exact a3) hkC1 (by rw [eC]; exact c3) hz hw (by rw [Launch.admits_arrayLengthLimit X.admits]; omega) (by rw [Launch.admits_maxHeapBytes X.admits]; omega) (by rw [Launch.admits_arrayLengthLimit X.admits]; omega) (by rw [Launch.admits_maxHeapBytes X.admits]; omega) r1 r2 (fun d' acts' => ?_)
  simp only [wp_bind', W.mark, W.pushRef, State.topJava?_setTop' _ XF.here.top, Option.some.injEq, exists_eq_left', State.setTop_setTop, State.heap_setTop]
  intro acts
  simp [jvm, XF.here.top]
  exact go
section JMM
variable {b : Nat} {D : va_G} {Y : Nat → ClassId} {s0 : State} {p : Program} {l : Launch} {e : Env} {R : Room} {s : State} {m : MethodId} {args : Array Value} {below : List Frame} {meth : Method} {c : Code} {own : String} {cc : ByteArray} {nL : Nat} {ret : Option FieldType} {nm : String} {Q : State → Prop} {pc : Nat} {lv : List (Nat × Value)} {st : List Value} {h : jH} {n k sl : Nat}
/-- new long[N][K]: an array of arrays that nobody looks at again -/
theorem j_mna {idx N K : Nat} {z w : Int32} (hw1 : jG (.classLink own idx "[[J")) (hw2 : Cond.arrayOver (.array .long) ∈ lw_tbl) (hw3 : jG (.arrayClass .long)) (hz : ¬ z < 0) (hw : ¬ w < 0) (hN : z.toNatClampNeg = N) (hK : w.toNatClampNeg = K) (hb1 : N * 4 ≤ 536870912) (hb2 : K * 8 ≤ 536870912) (hk : k + (1 + N) ≤ R.cells) (hs : sl + (N + N * K) ≤ R.slots) (hd : decode cc pc = .ok (.multianewarray idx 2, 4)) (kk : jW b D Y s0 p l e R s m args below meth c own cc nL ret nm Q (pc + 4) lv (.ref n :: st) h (n + 1 + N) (k + 1 + N) (sl + N + N * K)) : jW b D Y s0 p l e R s m args below meth c own cc nL ret nm Q pc lv (.int w :: .int z :: st) h n k sl := by
  intro C H locs ls hR hS hl T hT X
  subst hN
  subst hK
  have hover : (Cond.arrayOver (.array .long)).before args s = true := over_moved C.v.1.alike (C.z.1 _ hw2)
  obtain ⟨vm₁, cA, comp, X1, hG, step⟩ := jm_step X C.ex C.ow (C.w hw1) hover (C.w hw3) (g := F0 m pc ls (.int w :: .int z :: st)) rfl (by rw [C.by]; exact hd) rfl hz hw hb1 hb2 hk hs
  generalize jgU (T.setVm vm₁) cA comp z.toNatClampNeg w.toNatClampNeg z.toNatClampNeg = F at X1 hG step
  have hTh : (T.setVm vm₁).heap = H := hT
  obtain ⟨f1, -, -, -, hold, hnew⟩ := hG
  rw [hTh] at f1 hold hnew
  have hns : jN s0 F.heap := by
    intro q cell hq hc
    by_cases c1 : q < H.size
    · rw [hold q c1] at hc
      exact hR.2.2 q cell hq hc
    · exact hnew q cell (Nat.not_lt.mp c1) hc
  have hR2 : jR s0 D h (n + 1 + z.toNatClampNeg) F.heap := ⟨by rw [f1, hR.1], fun a x hx => ⟨(hR.2.1 a x hx).1.kept (hold a (hR.2.1 a x hx).1.lt), (hR.2.1 a x hx).2⟩, hns⟩
  obtain ⟨t, a1, b1⟩ := kk C F.heap locs ls hR2 (jS_grow hS (by rw [f1]; omega) hold) hl F rfl X1
  refine ⟨t, step t ?_, b1⟩
  have e9 : T.heap.size = n := by rw [hT]; exact hR.1
  rw [e9]
  exact a1
end JMM
end
section
theorem iw_Poly : ∀ w ∈ u_ws R_Poly T_Poly 2, jG w := jG_ws i_Poly_e i_Poly_g
abbrev fs_Poly : List Value := [.null, .int 0]
theorem df_Poly : ∀ j, j < 2 → defaultValue (t_Poly j) = vp_V fs_Poly j := by decide +kernel
theorem iw_FList : ∀ w ∈ u_ws R_FList T_FList 3, jG w := jG_ws i_FList_e i_FList_g
abbrev fs_FList : List Value := [.null, .null, .int 0]
theorem df_FList : ∀ j, j < 3 → defaultValue (t_FList j) = vp_V fs_FList j := by decide +kernel
theorem iw_Divn : ∀ w ∈ u_ws R_Divn T_Divn 2, jG w := jG_ws i_Divn_e i_Divn_g
abbrev fs_Divn : List Value := [.null, .null]
theorem df_Divn : ∀ j, j < 2 → defaultValue (t_Divn j) = vp_V fs_Divn j := by decide +kernel
theorem iw_Resi : ∀ w ∈ u_ws R_Resi T_Resi 5, jG w := jG_ws i_Resi_e i_Resi_g
abbrev fs_Resi : List Value := [.null, .long 0, .int 0, .long 0, .int 0]
theorem df_Resi : ∀ j, j < 5 → defaultValue (t_Resi j) = vp_V fs_Resi j := by decide +kernel
theorem iw_CDiv : ∀ w ∈ u_ws R_CDiv T_CDiv 7, jG w := jG_ws i_CDiv_e i_CDiv_g
abbrev fs_CDiv : List Value := [.null, .null, .null, .null, .null, .null, .null]
theorem df_CDiv : ∀ j, j < 7 → defaultValue (t_CDiv j) = vp_V fs_CDiv j := by decide +kernel
theorem iw_MSpl : ∀ w ∈ u_ws R_MSpl T_MSpl 11, jG w := jG_ws i_MSpl_e i_MSpl_g
abbrev fs_MSpl : List Value := [.null, .null, .null, .int 0, .int 0, .int 0, .null, .null, .null, .null, .null]
theorem df_MSpl : ∀ j, j < 11 → defaultValue (t_MSpl j) = vp_V fs_MSpl j := by decide +kernel
theorem iw_Lift : ∀ w ∈ u_ws R_Lift T_Lift 11, jG w := jG_ws i_Lift_e i_Lift_g
abbrev fs_Lift : List Value := [.null, .null, .null, .null, .null, .null, .null, .null, .null, .null, .null]
theorem df_Lift : ∀ j, j < 11 → defaultValue (t_Lift j) = vp_V fs_Lift j := by decide +kernel
theorem iw_Splt : ∀ w ∈ u_ws R_Splt T_Splt 9, jG w := jG_ws i_Splt_e i_Splt_g
abbrev fs_Splt : List Value := [.null, .null, .null, .int 0, .null, .null, .null, .null, .null]
theorem df_Splt : ∀ j, j < 9 → defaultValue (t_Splt j) = vp_V fs_Splt j := by decide +kernel
theorem iw_Desk : ∀ w ∈ u_ws R_Desk T_Desk 10, jG w := jG_ws i_Desk_e i_Desk_g
abbrev fs_Desk : List Value := [.null, .int 0, .null, .null, .null, .null, .null, .null, .null, .null]
theorem df_Desk : ∀ j, j < 10 → defaultValue (t_Desk j) = vp_V fs_Desk j := by decide +kernel
theorem iw_Modl : ∀ w ∈ u_ws R_Modl T_Modl 35, jG w := jG_ws i_Modl_e i_Modl_g
abbrev fs_Modl : List Value := [.int 0, .null, .int 0, .null, .int 0, .null, .int 0, .int 0, .null, .null, .null, .int 0, .null, .null, .null, .int 0, .int 0, .null, .null, .null, .null, .null, .null, .long 0, .int 0, .null, .null, .null, .int 0, .long 0, .null, .null, .null, .null, .long 0]
theorem df_Modl : ∀ j, j < 35 → defaultValue (t_Modl j) = vp_V fs_Modl j := by decide +kernel
abbrev c_Poly_init : ByteArray := prog_7_method_1_code
abbrev y_Poly_init : MethodName := ⟨"FactorDesk$Poly", "<init>", "()V"⟩
theorem d_Poly_init_0 : decode c_Poly_init 0 = .ok (.aload_n 0, 1) := by decide +kernel
theorem d_Poly_init_1 : decode c_Poly_init 1 = .ok (.invokespecial 3, 3) := by decide +kernel
theorem d_Poly_init_4 : decode c_Poly_init 4 = .ok (.aload_n 0, 1) := by decide +kernel
theorem d_Poly_init_5 : decode c_Poly_init 5 = .ok (.bipush 13, 2) := by decide +kernel
theorem d_Poly_init_7 : decode c_Poly_init 7 = .ok (.newarray .long, 2) := by decide +kernel
theorem d_Poly_init_9 : decode c_Poly_init 9 = .ok (.putfield 9, 3) := by decide +kernel
theorem d_Poly_init_12 : decode c_Poly_init 12 = .ok (.aload_n 0, 1) := by decide +kernel
theorem d_Poly_init_13 : decode c_Poly_init 13 = .ok (.iconst (-1), 1) := by decide +kernel
theorem d_Poly_init_14 : decode c_Poly_init 14 = .ok (.putfield 15, 3) := by decide +kernel
theorem d_Poly_init_17 : decode c_Poly_init 17 = .ok (.return_, 1) := by decide +kernel
abbrev c_Divn_init : ByteArray := prog_3_method_1_code
abbrev y_Divn_init : MethodName := ⟨"FactorDesk$Division", "<init>", "()V"⟩
theorem d_Divn_init_0 : decode c_Divn_init 0 = .ok (.aload_n 0, 1) := by decide +kernel
theorem d_Divn_init_1 : decode c_Divn_init 1 = .ok (.invokespecial 3, 3) := by decide +kernel
theorem d_Divn_init_4 : decode c_Divn_init 4 = .ok (.aload_n 0, 1) := by decide +kernel
theorem d_Divn_init_5 : decode c_Divn_init 5 = .ok (.new 9, 3) := by decide +kernel
theorem d_Divn_init_8 : decode c_Divn_init 8 = .ok (.dup, 1) := by decide +kernel
theorem d_Divn_init_9 : decode c_Divn_init 9 = .ok (.invokespecial 11, 3) := by decide +kernel
theorem d_Divn_init_12 : decode c_Divn_init 12 = .ok (.putfield 12, 3) := by decide +kernel
theorem d_Divn_init_15 : decode c_Divn_init 15 = .ok (.aload_n 0, 1) := by decide +kernel
theorem d_Divn_init_16 : decode c_Divn_init 16 = .ok (.bipush 13, 2) := by decide +kernel
theorem d_Divn_init_18 : decode c_Divn_init 18 = .ok (.newarray .long, 2) := by decide +kernel
theorem d_Divn_init_20 : decode c_Divn_init 20 = .ok (.putfield 18, 3) := by decide +kernel
theorem d_Divn_init_23 : decode c_Divn_init 23 = .ok (.return_, 1) := by decide +kernel
abbrev c_Resi_init : ByteArray := prog_8_method_1_code
abbrev y_Resi_init : MethodName := ⟨"FactorDesk$Residues", "<init>", "()V"⟩
theorem d_Resi_init_0 : decode c_Resi_init 0 = .ok (.aload_n 0, 1) := by decide +kernel
theorem d_Resi_init_1 : decode c_Resi_init 1 = .ok (.invokespecial 3, 3) := by decide +kernel
theorem d_Resi_init_4 : decode c_Resi_init 4 = .ok (.aload_n 0, 1) := by decide +kernel
theorem d_Resi_init_5 : decode c_Resi_init 5 = .ok (.new 9, 3) := by decide +kernel
theorem d_Resi_init_8 : decode c_Resi_init 8 = .ok (.dup, 1) := by decide +kernel
theorem d_Resi_init_9 : decode c_Resi_init 9 = .ok (.invokespecial 11, 3) := by decide +kernel
theorem d_Resi_init_12 : decode c_Resi_init 12 = .ok (.putfield 12, 3) := by decide +kernel
theorem d_Resi_init_15 : decode c_Resi_init 15 = .ok (.aload_n 0, 1) := by decide +kernel
theorem d_Resi_init_16 : decode c_Resi_init 16 = .ok (.ldc2_w 18, 3) := by decide +kernel
theorem d_Resi_init_19 : decode c_Resi_init 19 = .ok (.putfield 20, 3) := by decide +kernel
theorem d_Resi_init_22 : decode c_Resi_init 22 = .ok (.aload_n 0, 1) := by decide +kernel
theorem d_Resi_init_23 : decode c_Resi_init 23 = .ok (.bipush 31, 2) := by decide +kernel
theorem d_Resi_init_25 : decode c_Resi_init 25 = .ok (.putfield 24, 3) := by decide +kernel
theorem d_Resi_init_28 : decode c_Resi_init 28 = .ok (.aload_n 0, 1) := by decide +kernel
theorem d_Resi_init_29 : decode c_Resi_init 29 = .ok (.ldc2_w 28, 3) := by decide +kernel
theorem d_Resi_init_32 : decode c_Resi_init 32 = .ok (.putfield 30, 3) := by decide +kernel
theorem d_Resi_init_35 : decode c_Resi_init 35 = .ok (.aload_n 0, 1) := by decide +kernel
theorem d_Resi_init_36 : decode c_Resi_init 36 = .ok (.iconst 1, 1) := by decide +kernel
theorem d_Resi_init_37 : decode c_Resi_init 37 = .ok (.putfield 33, 3) := by decide +kernel
theorem d_Resi_init_40 : decode c_Resi_init 40 = .ok (.return_, 1) := by decide +kernel
abbrev c_CDiv_init : ByteArray := prog_2_method_1_code
abbrev y_CDiv_init : MethodName := ⟨"FactorDesk$CommonDivisor", "<init>", "()V"⟩
theorem d_CDiv_init_0 : decode c_CDiv_init 0 = .ok (.aload_n 0, 1) := by decide +kernel
theorem d_CDiv_init_1 : decode c_CDiv_init 1 = .ok (.invokespecial 1, 3) := by decide +kernel
theorem d_CDiv_init_4 : decode c_CDiv_init 4 = .ok (.aload_n 0, 1) := by decide +kernel
theorem d_CDiv_init_5 : decode c_CDiv_init 5 = .ok (.new 7, 3) := by decide +kernel
theorem d_CDiv_init_8 : decode c_CDiv_init 8 = .ok (.dup, 1) := by decide +kernel
theorem d_CDiv_init_9 : decode c_CDiv_init 9 = .ok (.invokespecial 9, 3) := by decide +kernel
theorem d_CDiv_init_12 : decode c_CDiv_init 12 = .ok (.putfield 10, 3) := by decide +kernel
theorem d_CDiv_init_15 : decode c_CDiv_init 15 = .ok (.aload_n 0, 1) := by decide +kernel
theorem d_CDiv_init_16 : decode c_CDiv_init 16 = .ok (.new 16, 3) := by decide +kernel
theorem d_CDiv_init_19 : decode c_CDiv_init 19 = .ok (.dup, 1) := by decide +kernel
theorem d_CDiv_init_20 : decode c_CDiv_init 20 = .ok (.invokespecial 18, 3) := by decide +kernel
theorem d_CDiv_init_23 : decode c_CDiv_init 23 = .ok (.putfield 19, 3) := by decide +kernel
theorem d_CDiv_init_26 : decode c_CDiv_init 26 = .ok (.aload_n 0, 1) := by decide +kernel
theorem d_CDiv_init_27 : decode c_CDiv_init 27 = .ok (.new 23, 3) := by decide +kernel
theorem d_CDiv_init_30 : decode c_CDiv_init 30 = .ok (.dup, 1) := by decide +kernel
theorem d_CDiv_init_31 : decode c_CDiv_init 31 = .ok (.invokespecial 25, 3) := by decide +kernel
theorem d_CDiv_init_34 : decode c_CDiv_init 34 = .ok (.putfield 26, 3) := by decide +kernel
theorem d_CDiv_init_37 : decode c_CDiv_init 37 = .ok (.aload_n 0, 1) := by decide +kernel
theorem d_CDiv_init_38 : decode c_CDiv_init 38 = .ok (.new 23, 3) := by decide +kernel
theorem d_CDiv_init_41 : decode c_CDiv_init 41 = .ok (.dup, 1) := by decide +kernel
theorem d_CDiv_init_42 : decode c_CDiv_init 42 = .ok (.invokespecial 25, 3) := by decide +kernel
theorem d_CDiv_init_45 : decode c_CDiv_init 45 = .ok (.putfield 30, 3) := by decide +kernel
theorem d_CDiv_init_48 : decode c_CDiv_init 48 = .ok (.aload_n 0, 1) := by decide +kernel
theorem d_CDiv_init_49 : decode c_CDiv_init 49 = .ok (.new 23, 3) := by decide +kernel
theorem d_CDiv_init_52 : decode c_CDiv_init 52 = .ok (.dup, 1) := by decide +kernel
theorem d_CDiv_init_53 : decode c_CDiv_init 53 = .ok (.invokespecial 25, 3) := by decide +kernel
theorem d_CDiv_init_56 : decode c_CDiv_init 56 = .ok (.putfield 33, 3) := by decide +kernel
theorem d_CDiv_init_59 : decode c_CDiv_init 59 = .ok (.aload_n 0, 1) := by decide +kernel
theorem d_CDiv_init_60 : decode c_CDiv_init 60 = .ok (.new 23, 3) := by decide +kernel
theorem d_CDiv_init_63 : decode c_CDiv_init 63 = .ok (.dup, 1) := by decide +kernel
theorem d_CDiv_init_64 : decode c_CDiv_init 64 = .ok (.invokespecial 25, 3) := by decide +kernel
theorem d_CDiv_init_67 : decode c_CDiv_init 67 = .ok (.putfield 36, 3) := by decide +kernel
theorem d_CDiv_init_70 : decode c_CDiv_init 70 = .ok (.aload_n 0, 1) := by decide +kernel
theorem d_CDiv_init_71 : decode c_CDiv_init 71 = .ok (.new 23, 3) := by decide +kernel
theorem d_CDiv_init_74 : decode c_CDiv_init 74 = .ok (.dup, 1) := by decide +kernel
theorem d_CDiv_init_75 : decode c_CDiv_init 75 = .ok (.invokespecial 25, 3) := by decide +kernel
theorem d_CDiv_init_78 : decode c_CDiv_init 78 = .ok (.putfield 39, 3) := by decide +kernel
theorem d_CDiv_init_81 : decode c_CDiv_init 81 = .ok (.return_, 1) := by decide +kernel
abbrev c_FList_init : ByteArray := prog_4_method_1_code
abbrev y_FList_init : MethodName := ⟨"FactorDesk$FactorList", "<init>", "()V"⟩
theorem d_FList_init_0 : decode c_FList_init 0 = .ok (.aload_n 0, 1) := by decide +kernel
theorem d_FList_init_1 : decode c_FList_init 1 = .ok (.invokespecial 3, 3) := by decide +kernel
theorem d_FList_init_4 : decode c_FList_init 4 = .ok (.aload_n 0, 1) := by decide +kernel
theorem d_FList_init_5 : decode c_FList_init 5 = .ok (.bipush 12, 2) := by decide +kernel
theorem d_FList_init_7 : decode c_FList_init 7 = .ok (.anewarray 9, 3) := by decide +kernel
theorem d_FList_init_10 : decode c_FList_init 10 = .ok (.putfield 11, 3) := by decide +kernel
theorem d_FList_init_13 : decode c_FList_init 13 = .ok (.iconst 0, 1) := by decide +kernel
theorem d_FList_init_14 : decode c_FList_init 14 = .ok (.istore_n 1, 1) := by decide +kernel
theorem d_FList_init_15 : decode c_FList_init 15 = .ok (.iload_n 1, 1) := by decide +kernel
theorem d_FList_init_16 : decode c_FList_init 16 = .ok (.bipush 12, 2) := by decide +kernel
theorem d_FList_init_18 : decode c_FList_init 18 = .ok (.if_icmp .ge 22, 3) := by decide +kernel
theorem d_FList_init_21 : decode c_FList_init 21 = .ok (.aload_n 0, 1) := by decide +kernel
theorem d_FList_init_22 : decode c_FList_init 22 = .ok (.getfield 11, 3) := by decide +kernel
theorem d_FList_init_25 : decode c_FList_init 25 = .ok (.iload_n 1, 1) := by decide +kernel
theorem d_FList_init_26 : decode c_FList_init 26 = .ok (.new 9, 3) := by decide +kernel
theorem d_FList_init_29 : decode c_FList_init 29 = .ok (.dup, 1) := by decide +kernel
theorem d_FList_init_30 : decode c_FList_init 30 = .ok (.invokespecial 17, 3) := by decide +kernel
theorem d_FList_init_33 : decode c_FList_init 33 = .ok (.aastore, 1) := by decide +kernel
theorem d_FList_init_34 : decode c_FList_init 34 = .ok (.iinc 1 1, 3) := by decide +kernel
theorem d_FList_init_37 : decode c_FList_init 37 = .ok (.goto (-22), 3) := by decide +kernel
theorem d_FList_init_40 : decode c_FList_init 40 = .ok (.aload_n 0, 1) := by decide +kernel
theorem d_FList_init_41 : decode c_FList_init 41 = .ok (.bipush 12, 2) := by decide +kernel
theorem d_FList_init_43 : decode c_FList_init 43 = .ok (.newarray .int, 2) := by decide +kernel
theorem d_FList_init_45 : decode c_FList_init 45 = .ok (.putfield 18, 3) := by decide +kernel
theorem d_FList_init_48 : decode c_FList_init 48 = .ok (.aload_n 0, 1) := by decide +kernel
theorem d_FList_init_49 : decode c_FList_init 49 = .ok (.iconst 0, 1) := by decide +kernel
theorem d_FList_init_50 : decode c_FList_init 50 = .ok (.putfield 22, 3) := by decide +kernel
theorem d_FList_init_53 : decode c_FList_init 53 = .ok (.return_, 1) := by decide +kernel
abbrev c_MSpl_init : ByteArray := prog_6_method_1_code
abbrev y_MSpl_init : MethodName := ⟨"FactorDesk$ModularSplit", "<init>", "()V"⟩
theorem d_MSpl_init_0 : decode c_MSpl_init 0 = .ok (.aload_n 0, 1) := by decide +kernel
theorem d_MSpl_init_1 : decode c_MSpl_init 1 = .ok (.invokespecial 3, 3) := by decide +kernel
theorem d_MSpl_init_4 : decode c_MSpl_init 4 = .ok (.aload_n 0, 1) := by decide +kernel
theorem d_MSpl_init_5 : decode c_MSpl_init 5 = .ok (.new 9, 3) := by decide +kernel
theorem d_MSpl_init_8 : decode c_MSpl_init 8 = .ok (.dup, 1) := by decide +kernel
theorem d_MSpl_init_9 : decode c_MSpl_init 9 = .ok (.invokespecial 11, 3) := by decide +kernel
theorem d_MSpl_init_12 : decode c_MSpl_init 12 = .ok (.putfield 12, 3) := by decide +kernel
theorem d_MSpl_init_15 : decode c_MSpl_init 15 = .ok (.aload_n 0, 1) := by decide +kernel
theorem d_MSpl_init_16 : decode c_MSpl_init 16 = .ok (.bipush 12, 2) := by decide +kernel
theorem d_MSpl_init_18 : decode c_MSpl_init 18 = .ok (.anewarray 18, 3) := by decide +kernel
theorem d_MSpl_init_21 : decode c_MSpl_init 21 = .ok (.putfield 20, 3) := by decide +kernel
theorem d_MSpl_init_24 : decode c_MSpl_init 24 = .ok (.iconst 0, 1) := by decide +kernel
theorem d_MSpl_init_25 : decode c_MSpl_init 25 = .ok (.istore_n 1, 1) := by decide +kernel
theorem d_MSpl_init_26 : decode c_MSpl_init 26 = .ok (.iload_n 1, 1) := by decide +kernel
theorem d_MSpl_init_27 : decode c_MSpl_init 27 = .ok (.bipush 12, 2) := by decide +kernel
theorem d_MSpl_init_29 : decode c_MSpl_init 29 = .ok (.if_icmp .ge 22, 3) := by decide +kernel
theorem d_MSpl_init_32 : decode c_MSpl_init 32 = .ok (.aload_n 0, 1) := by decide +kernel
theorem d_MSpl_init_33 : decode c_MSpl_init 33 = .ok (.getfield 20, 3) := by decide +kernel
theorem d_MSpl_init_36 : decode c_MSpl_init 36 = .ok (.iload_n 1, 1) := by decide +kernel
theorem d_MSpl_init_37 : decode c_MSpl_init 37 = .ok (.new 18, 3) := by decide +kernel
theorem d_MSpl_init_40 : decode c_MSpl_init 40 = .ok (.dup, 1) := by decide +kernel
theorem d_MSpl_init_41 : decode c_MSpl_init 41 = .ok (.invokespecial 24, 3) := by decide +kernel
theorem d_MSpl_init_44 : decode c_MSpl_init 44 = .ok (.aastore, 1) := by decide +kernel
theorem d_MSpl_init_45 : decode c_MSpl_init 45 = .ok (.iinc 1 1, 3) := by decide +kernel
theorem d_MSpl_init_48 : decode c_MSpl_init 48 = .ok (.goto (-22), 3) := by decide +kernel
theorem d_MSpl_init_51 : decode c_MSpl_init 51 = .ok (.aload_n 0, 1) := by decide +kernel
theorem d_MSpl_init_52 : decode c_MSpl_init 52 = .ok (.new 18, 3) := by decide +kernel
theorem d_MSpl_init_55 : decode c_MSpl_init 55 = .ok (.dup, 1) := by decide +kernel
theorem d_MSpl_init_56 : decode c_MSpl_init 56 = .ok (.invokespecial 24, 3) := by decide +kernel
theorem d_MSpl_init_59 : decode c_MSpl_init 59 = .ok (.putfield 25, 3) := by decide +kernel
theorem d_MSpl_init_62 : decode c_MSpl_init 62 = .ok (.aload_n 0, 1) := by decide +kernel
theorem d_MSpl_init_63 : decode c_MSpl_init 63 = .ok (.bipush 12, 2) := by decide +kernel
theorem d_MSpl_init_65 : decode c_MSpl_init 65 = .ok (.bipush 12, 2) := by decide +kernel
theorem d_MSpl_init_67 : decode c_MSpl_init 67 = .ok (.multianewarray 29 2, 4) := by decide +kernel
theorem d_MSpl_init_71 : decode c_MSpl_init 71 = .ok (.putfield 31, 3) := by decide +kernel
theorem d_MSpl_init_74 : decode c_MSpl_init 74 = .ok (.aload_n 0, 1) := by decide +kernel
theorem d_MSpl_init_75 : decode c_MSpl_init 75 = .ok (.bipush 12, 2) := by decide +kernel
theorem d_MSpl_init_77 : decode c_MSpl_init 77 = .ok (.newarray .int, 2) := by decide +kernel
theorem d_MSpl_init_79 : decode c_MSpl_init 79 = .ok (.putfield 34, 3) := by decide +kernel
theorem d_MSpl_init_82 : decode c_MSpl_init 82 = .ok (.aload_n 0, 1) := by decide +kernel
theorem d_MSpl_init_83 : decode c_MSpl_init 83 = .ok (.new 18, 3) := by decide +kernel
theorem d_MSpl_init_86 : decode c_MSpl_init 86 = .ok (.dup, 1) := by decide +kernel
theorem d_MSpl_init_87 : decode c_MSpl_init 87 = .ok (.invokespecial 24, 3) := by decide +kernel
theorem d_MSpl_init_90 : decode c_MSpl_init 90 = .ok (.putfield 38, 3) := by decide +kernel
theorem d_MSpl_init_93 : decode c_MSpl_init 93 = .ok (.aload_n 0, 1) := by decide +kernel
theorem d_MSpl_init_94 : decode c_MSpl_init 94 = .ok (.new 18, 3) := by decide +kernel
theorem d_MSpl_init_97 : decode c_MSpl_init 97 = .ok (.dup, 1) := by decide +kernel
theorem d_MSpl_init_98 : decode c_MSpl_init 98 = .ok (.invokespecial 24, 3) := by decide +kernel
theorem d_MSpl_init_101 : decode c_MSpl_init 101 = .ok (.putfield 41, 3) := by decide +kernel
theorem d_MSpl_init_104 : decode c_MSpl_init 104 = .ok (.aload_n 0, 1) := by decide +kernel
theorem d_MSpl_init_105 : decode c_MSpl_init 105 = .ok (.new 18, 3) := by decide +kernel
theorem d_MSpl_init_108 : decode c_MSpl_init 108 = .ok (.dup, 1) := by decide +kernel
theorem d_MSpl_init_109 : decode c_MSpl_init 109 = .ok (.invokespecial 24, 3) := by decide +kernel
theorem d_MSpl_init_112 : decode c_MSpl_init 112 = .ok (.putfield 44, 3) := by decide +kernel
theorem d_MSpl_init_115 : decode c_MSpl_init 115 = .ok (.return_, 1) := by decide +kernel
abbrev c_Lift_init : ByteArray := prog_5_method_1_code
abbrev y_Lift_init : MethodName := ⟨"FactorDesk$Lift", "<init>", "()V"⟩
theorem d_Lift_init_0 : decode c_Lift_init 0 = .ok (.aload_n 0, 1) := by decide +kernel
theorem d_Lift_init_1 : decode c_Lift_init 1 = .ok (.invokespecial 3, 3) := by decide +kernel
theorem d_Lift_init_4 : decode c_Lift_init 4 = .ok (.aload_n 0, 1) := by decide +kernel
theorem d_Lift_init_5 : decode c_Lift_init 5 = .ok (.new 9, 3) := by decide +kernel
theorem d_Lift_init_8 : decode c_Lift_init 8 = .ok (.dup, 1) := by decide +kernel
theorem d_Lift_init_9 : decode c_Lift_init 9 = .ok (.invokespecial 11, 3) := by decide +kernel
theorem d_Lift_init_12 : decode c_Lift_init 12 = .ok (.putfield 12, 3) := by decide +kernel
theorem d_Lift_init_15 : decode c_Lift_init 15 = .ok (.aload_n 0, 1) := by decide +kernel
theorem d_Lift_init_16 : decode c_Lift_init 16 = .ok (.new 18, 3) := by decide +kernel
theorem d_Lift_init_19 : decode c_Lift_init 19 = .ok (.dup, 1) := by decide +kernel
theorem d_Lift_init_20 : decode c_Lift_init 20 = .ok (.invokespecial 20, 3) := by decide +kernel
theorem d_Lift_init_23 : decode c_Lift_init 23 = .ok (.putfield 21, 3) := by decide +kernel
theorem d_Lift_init_26 : decode c_Lift_init 26 = .ok (.aload_n 0, 1) := by decide +kernel
theorem d_Lift_init_27 : decode c_Lift_init 27 = .ok (.bipush 12, 2) := by decide +kernel
theorem d_Lift_init_29 : decode c_Lift_init 29 = .ok (.anewarray 25, 3) := by decide +kernel
theorem d_Lift_init_32 : decode c_Lift_init 32 = .ok (.putfield 27, 3) := by decide +kernel
theorem d_Lift_init_35 : decode c_Lift_init 35 = .ok (.aload_n 0, 1) := by decide +kernel
theorem d_Lift_init_36 : decode c_Lift_init 36 = .ok (.bipush 12, 2) := by decide +kernel
theorem d_Lift_init_38 : decode c_Lift_init 38 = .ok (.anewarray 25, 3) := by decide +kernel
theorem d_Lift_init_41 : decode c_Lift_init 41 = .ok (.putfield 31, 3) := by decide +kernel
theorem d_Lift_init_44 : decode c_Lift_init 44 = .ok (.iconst 0, 1) := by decide +kernel
theorem d_Lift_init_45 : decode c_Lift_init 45 = .ok (.istore_n 1, 1) := by decide +kernel
theorem d_Lift_init_46 : decode c_Lift_init 46 = .ok (.iload_n 1, 1) := by decide +kernel
theorem d_Lift_init_47 : decode c_Lift_init 47 = .ok (.bipush 12, 2) := by decide +kernel
theorem d_Lift_init_49 : decode c_Lift_init 49 = .ok (.if_icmp .ge 35, 3) := by decide +kernel
theorem d_Lift_init_52 : decode c_Lift_init 52 = .ok (.aload_n 0, 1) := by decide +kernel
theorem d_Lift_init_53 : decode c_Lift_init 53 = .ok (.getfield 27, 3) := by decide +kernel
theorem d_Lift_init_56 : decode c_Lift_init 56 = .ok (.iload_n 1, 1) := by decide +kernel
theorem d_Lift_init_57 : decode c_Lift_init 57 = .ok (.new 25, 3) := by decide +kernel
theorem d_Lift_init_60 : decode c_Lift_init 60 = .ok (.dup, 1) := by decide +kernel
theorem d_Lift_init_61 : decode c_Lift_init 61 = .ok (.invokespecial 34, 3) := by decide +kernel
theorem d_Lift_init_64 : decode c_Lift_init 64 = .ok (.aastore, 1) := by decide +kernel
theorem d_Lift_init_65 : decode c_Lift_init 65 = .ok (.aload_n 0, 1) := by decide +kernel
theorem d_Lift_init_66 : decode c_Lift_init 66 = .ok (.getfield 31, 3) := by decide +kernel
theorem d_Lift_init_69 : decode c_Lift_init 69 = .ok (.iload_n 1, 1) := by decide +kernel
theorem d_Lift_init_70 : decode c_Lift_init 70 = .ok (.new 25, 3) := by decide +kernel
theorem d_Lift_init_73 : decode c_Lift_init 73 = .ok (.dup, 1) := by decide +kernel
theorem d_Lift_init_74 : decode c_Lift_init 74 = .ok (.invokespecial 34, 3) := by decide +kernel
theorem d_Lift_init_77 : decode c_Lift_init 77 = .ok (.aastore, 1) := by decide +kernel
theorem d_Lift_init_78 : decode c_Lift_init 78 = .ok (.iinc 1 1, 3) := by decide +kernel
theorem d_Lift_init_81 : decode c_Lift_init 81 = .ok (.goto (-35), 3) := by decide +kernel
theorem d_Lift_init_84 : decode c_Lift_init 84 = .ok (.aload_n 0, 1) := by decide +kernel
theorem d_Lift_init_85 : decode c_Lift_init 85 = .ok (.new 25, 3) := by decide +kernel
theorem d_Lift_init_88 : decode c_Lift_init 88 = .ok (.dup, 1) := by decide +kernel
theorem d_Lift_init_89 : decode c_Lift_init 89 = .ok (.invokespecial 34, 3) := by decide +kernel
theorem d_Lift_init_92 : decode c_Lift_init 92 = .ok (.putfield 35, 3) := by decide +kernel
theorem d_Lift_init_95 : decode c_Lift_init 95 = .ok (.aload_n 0, 1) := by decide +kernel
theorem d_Lift_init_96 : decode c_Lift_init 96 = .ok (.new 25, 3) := by decide +kernel
theorem d_Lift_init_99 : decode c_Lift_init 99 = .ok (.dup, 1) := by decide +kernel
theorem d_Lift_init_100 : decode c_Lift_init 100 = .ok (.invokespecial 34, 3) := by decide +kernel
theorem d_Lift_init_103 : decode c_Lift_init 103 = .ok (.putfield 39, 3) := by decide +kernel
theorem d_Lift_init_106 : decode c_Lift_init 106 = .ok (.aload_n 0, 1) := by decide +kernel
theorem d_Lift_init_107 : decode c_Lift_init 107 = .ok (.new 25, 3) := by decide +kernel
theorem d_Lift_init_110 : decode c_Lift_init 110 = .ok (.dup, 1) := by decide +kernel
theorem d_Lift_init_111 : decode c_Lift_init 111 = .ok (.invokespecial 34, 3) := by decide +kernel
theorem d_Lift_init_114 : decode c_Lift_init 114 = .ok (.putfield 42, 3) := by decide +kernel
theorem d_Lift_init_117 : decode c_Lift_init 117 = .ok (.aload_n 0, 1) := by decide +kernel
theorem d_Lift_init_118 : decode c_Lift_init 118 = .ok (.new 25, 3) := by decide +kernel
theorem d_Lift_init_121 : decode c_Lift_init 121 = .ok (.dup, 1) := by decide +kernel
theorem d_Lift_init_122 : decode c_Lift_init 122 = .ok (.invokespecial 34, 3) := by decide +kernel
theorem d_Lift_init_125 : decode c_Lift_init 125 = .ok (.putfield 45, 3) := by decide +kernel
theorem d_Lift_init_128 : decode c_Lift_init 128 = .ok (.aload_n 0, 1) := by decide +kernel
theorem d_Lift_init_129 : decode c_Lift_init 129 = .ok (.new 25, 3) := by decide +kernel
theorem d_Lift_init_132 : decode c_Lift_init 132 = .ok (.dup, 1) := by decide +kernel
theorem d_Lift_init_133 : decode c_Lift_init 133 = .ok (.invokespecial 34, 3) := by decide +kernel
theorem d_Lift_init_136 : decode c_Lift_init 136 = .ok (.putfield 48, 3) := by decide +kernel
theorem d_Lift_init_139 : decode c_Lift_init 139 = .ok (.aload_n 0, 1) := by decide +kernel
theorem d_Lift_init_140 : decode c_Lift_init 140 = .ok (.new 25, 3) := by decide +kernel
theorem d_Lift_init_143 : decode c_Lift_init 143 = .ok (.dup, 1) := by decide +kernel
theorem d_Lift_init_144 : decode c_Lift_init 144 = .ok (.invokespecial 34, 3) := by decide +kernel
theorem d_Lift_init_147 : decode c_Lift_init 147 = .ok (.putfield 51, 3) := by decide +kernel
theorem d_Lift_init_150 : decode c_Lift_init 150 = .ok (.aload_n 0, 1) := by decide +kernel
theorem d_Lift_init_151 : decode c_Lift_init 151 = .ok (.new 25, 3) := by decide +kernel
theorem d_Lift_init_154 : decode c_Lift_init 154 = .ok (.dup, 1) := by decide +kernel
theorem d_Lift_init_155 : decode c_Lift_init 155 = .ok (.invokespecial 34, 3) := by decide +kernel
theorem d_Lift_init_158 : decode c_Lift_init 158 = .ok (.putfield 54, 3) := by decide +kernel
theorem d_Lift_init_161 : decode c_Lift_init 161 = .ok (.return_, 1) := by decide +kernel
abbrev c_Splt_init : ByteArray := prog_9_method_1_code
abbrev y_Splt_init : MethodName := ⟨"FactorDesk$Splitter", "<init>", "()V"⟩
theorem d_Splt_init_0 : decode c_Splt_init 0 = .ok (.aload_n 0, 1) := by decide +kernel
theorem d_Splt_init_1 : decode c_Splt_init 1 = .ok (.invokespecial 3, 3) := by decide +kernel
theorem d_Splt_init_4 : decode c_Splt_init 4 = .ok (.aload_n 0, 1) := by decide +kernel
theorem d_Splt_init_5 : decode c_Splt_init 5 = .ok (.new 9, 3) := by decide +kernel
theorem d_Splt_init_8 : decode c_Splt_init 8 = .ok (.dup, 1) := by decide +kernel
theorem d_Splt_init_9 : decode c_Splt_init 9 = .ok (.invokespecial 11, 3) := by decide +kernel
theorem d_Splt_init_12 : decode c_Splt_init 12 = .ok (.putfield 12, 3) := by decide +kernel
theorem d_Splt_init_15 : decode c_Splt_init 15 = .ok (.aload_n 0, 1) := by decide +kernel
theorem d_Splt_init_16 : decode c_Splt_init 16 = .ok (.new 18, 3) := by decide +kernel
theorem d_Splt_init_19 : decode c_Splt_init 19 = .ok (.dup, 1) := by decide +kernel
theorem d_Splt_init_20 : decode c_Splt_init 20 = .ok (.invokespecial 20, 3) := by decide +kernel
theorem d_Splt_init_23 : decode c_Splt_init 23 = .ok (.putfield 21, 3) := by decide +kernel
theorem d_Splt_init_26 : decode c_Splt_init 26 = .ok (.aload_n 0, 1) := by decide +kernel
theorem d_Splt_init_27 : decode c_Splt_init 27 = .ok (.aload_n 0, 1) := by decide +kernel
theorem d_Splt_init_28 : decode c_Splt_init 28 = .ok (.getfield 21, 3) := by decide +kernel
theorem d_Splt_init_31 : decode c_Splt_init 31 = .ok (.getfield 25, 3) := by decide +kernel
theorem d_Splt_init_34 : decode c_Splt_init 34 = .ok (.putfield 29, 3) := by decide +kernel
theorem d_Splt_init_37 : decode c_Splt_init 37 = .ok (.aload_n 0, 1) := by decide +kernel
theorem d_Splt_init_38 : decode c_Splt_init 38 = .ok (.iconst 0, 1) := by decide +kernel
theorem d_Splt_init_39 : decode c_Splt_init 39 = .ok (.putfield 30, 3) := by decide +kernel
theorem d_Splt_init_42 : decode c_Splt_init 42 = .ok (.aload_n 0, 1) := by decide +kernel
theorem d_Splt_init_43 : decode c_Splt_init 43 = .ok (.new 34, 3) := by decide +kernel
theorem d_Splt_init_46 : decode c_Splt_init 46 = .ok (.dup, 1) := by decide +kernel
theorem d_Splt_init_47 : decode c_Splt_init 47 = .ok (.invokespecial 36, 3) := by decide +kernel
theorem d_Splt_init_50 : decode c_Splt_init 50 = .ok (.putfield 37, 3) := by decide +kernel
theorem d_Splt_init_53 : decode c_Splt_init 53 = .ok (.aload_n 0, 1) := by decide +kernel
theorem d_Splt_init_54 : decode c_Splt_init 54 = .ok (.aload_n 0, 1) := by decide +kernel
theorem d_Splt_init_55 : decode c_Splt_init 55 = .ok (.getfield 37, 3) := by decide +kernel
theorem d_Splt_init_58 : decode c_Splt_init 58 = .ok (.getfield 41, 3) := by decide +kernel
theorem d_Splt_init_61 : decode c_Splt_init 61 = .ok (.putfield 45, 3) := by decide +kernel
theorem d_Splt_init_64 : decode c_Splt_init 64 = .ok (.aload_n 0, 1) := by decide +kernel
theorem d_Splt_init_65 : decode c_Splt_init 65 = .ok (.new 48, 3) := by decide +kernel
theorem d_Splt_init_68 : decode c_Splt_init 68 = .ok (.dup, 1) := by decide +kernel
theorem d_Splt_init_69 : decode c_Splt_init 69 = .ok (.invokespecial 50, 3) := by decide +kernel
theorem d_Splt_init_72 : decode c_Splt_init 72 = .ok (.putfield 51, 3) := by decide +kernel
theorem d_Splt_init_75 : decode c_Splt_init 75 = .ok (.aload_n 0, 1) := by decide +kernel
theorem d_Splt_init_76 : decode c_Splt_init 76 = .ok (.new 48, 3) := by decide +kernel
theorem d_Splt_init_79 : decode c_Splt_init 79 = .ok (.dup, 1) := by decide +kernel
theorem d_Splt_init_80 : decode c_Splt_init 80 = .ok (.invokespecial 50, 3) := by decide +kernel
theorem d_Splt_init_83 : decode c_Splt_init 83 = .ok (.putfield 55, 3) := by decide +kernel
theorem d_Splt_init_86 : decode c_Splt_init 86 = .ok (.aload_n 0, 1) := by decide +kernel
theorem d_Splt_init_87 : decode c_Splt_init 87 = .ok (.new 48, 3) := by decide +kernel
theorem d_Splt_init_90 : decode c_Splt_init 90 = .ok (.dup, 1) := by decide +kernel
theorem d_Splt_init_91 : decode c_Splt_init 91 = .ok (.invokespecial 50, 3) := by decide +kernel
theorem d_Splt_init_94 : decode c_Splt_init 94 = .ok (.putfield 58, 3) := by decide +kernel
theorem d_Splt_init_97 : decode c_Splt_init 97 = .ok (.return_, 1) := by decide +kernel
abbrev c_Poly_setNumber : ByteArray := prog_7_method_3_code
abbrev y_Poly_setNumber : MethodName := ⟨"FactorDesk$Poly", "setNumber", "(J)V"⟩
theorem d_Poly_setNumber_0 : decode c_Poly_setNumber 0 = .ok (.iconst 0, 1) := by decide +kernel
theorem d_Poly_setNumber_1 : decode c_Poly_setNumber 1 = .ok (.istore_n 3, 1) := by decide +kernel
theorem d_Poly_setNumber_2 : decode c_Poly_setNumber 2 = .ok (.iload_n 3, 1) := by decide +kernel
theorem d_Poly_setNumber_3 : decode c_Poly_setNumber 3 = .ok (.bipush 12, 2) := by decide +kernel
theorem d_Poly_setNumber_5 : decode c_Poly_setNumber 5 = .ok (.if_icmp .gt 16, 3) := by decide +kernel
theorem d_Poly_setNumber_8 : decode c_Poly_setNumber 8 = .ok (.aload_n 0, 1) := by decide +kernel
theorem d_Poly_setNumber_9 : decode c_Poly_setNumber 9 = .ok (.getfield 9, 3) := by decide +kernel
theorem d_Poly_setNumber_12 : decode c_Poly_setNumber 12 = .ok (.iload_n 3, 1) := by decide +kernel
theorem d_Poly_setNumber_13 : decode c_Poly_setNumber 13 = .ok (.lconst 0, 1) := by decide +kernel
theorem d_Poly_setNumber_14 : decode c_Poly_setNumber 14 = .ok (.lastore, 1) := by decide +kernel
theorem d_Poly_setNumber_15 : decode c_Poly_setNumber 15 = .ok (.iinc 3 1, 3) := by decide +kernel
theorem d_Poly_setNumber_18 : decode c_Poly_setNumber 18 = .ok (.goto (-16), 3) := by decide +kernel
theorem d_Poly_setNumber_21 : decode c_Poly_setNumber 21 = .ok (.aload_n 0, 1) := by decide +kernel
theorem d_Poly_setNumber_22 : decode c_Poly_setNumber 22 = .ok (.getfield 9, 3) := by decide +kernel
theorem d_Poly_setNumber_25 : decode c_Poly_setNumber 25 = .ok (.iconst 0, 1) := by decide +kernel
theorem d_Poly_setNumber_26 : decode c_Poly_setNumber 26 = .ok (.lload_n 1, 1) := by decide +kernel
theorem d_Poly_setNumber_27 : decode c_Poly_setNumber 27 = .ok (.lastore, 1) := by decide +kernel
theorem d_Poly_setNumber_28 : decode c_Poly_setNumber 28 = .ok (.aload_n 0, 1) := by decide +kernel
theorem d_Poly_setNumber_29 : decode c_Poly_setNumber 29 = .ok (.lload_n 1, 1) := by decide +kernel
theorem d_Poly_setNumber_30 : decode c_Poly_setNumber 30 = .ok (.lconst 0, 1) := by decide +kernel
theorem d_Poly_setNumber_31 : decode c_Poly_setNumber 31 = .ok (.lcmp, 1) := by decide +kernel
theorem d_Poly_setNumber_32 : decode c_Poly_setNumber 32 = .ok (.ifCond .ne 7, 3) := by decide +kernel
theorem d_Poly_setNumber_35 : decode c_Poly_setNumber 35 = .ok (.iconst (-1), 1) := by decide +kernel
theorem d_Poly_setNumber_36 : decode c_Poly_setNumber 36 = .ok (.goto 4, 3) := by decide +kernel
theorem d_Poly_setNumber_39 : decode c_Poly_setNumber 39 = .ok (.iconst 0, 1) := by decide +kernel
theorem d_Poly_setNumber_40 : decode c_Poly_setNumber 40 = .ok (.putfield 15, 3) := by decide +kernel
theorem d_Poly_setNumber_43 : decode c_Poly_setNumber 43 = .ok (.return_, 1) := by decide +kernel
abbrev c_Desk_init : ByteArray := prog_1_method_1_code
abbrev y_Desk_init : MethodName := ⟨"FactorDesk", "<init>", "()V"⟩
theorem d_Desk_init_0 : decode c_Desk_init 0 = .ok (.aload_n 0, 1) := by decide +kernel
theorem d_Desk_init_1 : decode c_Desk_init 1 = .ok (.invokespecial 3, 3) := by decide +kernel
theorem d_Desk_init_4 : decode c_Desk_init 4 = .ok (.aload_n 0, 1) := by decide +kernel
theorem d_Desk_init_5 : decode c_Desk_init 5 = .ok (.bipush 13, 2) := by decide +kernel
theorem d_Desk_init_7 : decode c_Desk_init 7 = .ok (.newarray .int, 2) := by decide +kernel
theorem d_Desk_init_9 : decode c_Desk_init 9 = .ok (.putfield 9, 3) := by decide +kernel
theorem d_Desk_init_12 : decode c_Desk_init 12 = .ok (.aload_n 0, 1) := by decide +kernel
theorem d_Desk_init_13 : decode c_Desk_init 13 = .ok (.iconst 0, 1) := by decide +kernel
theorem d_Desk_init_14 : decode c_Desk_init 14 = .ok (.putfield 13, 3) := by decide +kernel
theorem d_Desk_init_17 : decode c_Desk_init 17 = .ok (.aload_n 0, 1) := by decide +kernel
theorem d_Desk_init_18 : decode c_Desk_init 18 = .ok (.new 17, 3) := by decide +kernel
theorem d_Desk_init_21 : decode c_Desk_init 21 = .ok (.dup, 1) := by decide +kernel
theorem d_Desk_init_22 : decode c_Desk_init 22 = .ok (.invokespecial 19, 3) := by decide +kernel
theorem d_Desk_init_25 : decode c_Desk_init 25 = .ok (.putfield 20, 3) := by decide +kernel
theorem d_Desk_init_28 : decode c_Desk_init 28 = .ok (.aload_n 0, 1) := by decide +kernel
theorem d_Desk_init_29 : decode c_Desk_init 29 = .ok (.getfield 20, 3) := by decide +kernel
theorem d_Desk_init_32 : decode c_Desk_init 32 = .ok (.lconst 1, 1) := by decide +kernel
theorem d_Desk_init_33 : decode c_Desk_init 33 = .ok (.invokevirtual 24, 3) := by decide +kernel
theorem d_Desk_init_36 : decode c_Desk_init 36 = .ok (.aload_n 0, 1) := by decide +kernel
theorem d_Desk_init_37 : decode c_Desk_init 37 = .ok (.new 17, 3) := by decide +kernel
theorem d_Desk_init_40 : decode c_Desk_init 40 = .ok (.dup, 1) := by decide +kernel
theorem d_Desk_init_41 : decode c_Desk_init 41 = .ok (.invokespecial 19, 3) := by decide +kernel
theorem d_Desk_init_44 : decode c_Desk_init 44 = .ok (.putfield 28, 3) := by decide +kernel
theorem d_Desk_init_47 : decode c_Desk_init 47 = .ok (.aload_n 0, 1) := by decide +kernel
theorem d_Desk_init_48 : decode c_Desk_init 48 = .ok (.new 17, 3) := by decide +kernel
theorem d_Desk_init_51 : decode c_Desk_init 51 = .ok (.dup, 1) := by decide +kernel
theorem d_Desk_init_52 : decode c_Desk_init 52 = .ok (.invokespecial 19, 3) := by decide +kernel
theorem d_Desk_init_55 : decode c_Desk_init 55 = .ok (.putfield 31, 3) := by decide +kernel
theorem d_Desk_init_58 : decode c_Desk_init 58 = .ok (.aload_n 0, 1) := by decide +kernel
theorem d_Desk_init_59 : decode c_Desk_init 59 = .ok (.new 17, 3) := by decide +kernel
theorem d_Desk_init_62 : decode c_Desk_init 62 = .ok (.dup, 1) := by decide +kernel
theorem d_Desk_init_63 : decode c_Desk_init 63 = .ok (.invokespecial 19, 3) := by decide +kernel
theorem d_Desk_init_66 : decode c_Desk_init 66 = .ok (.putfield 34, 3) := by decide +kernel
theorem d_Desk_init_69 : decode c_Desk_init 69 = .ok (.aload_n 0, 1) := by decide +kernel
theorem d_Desk_init_70 : decode c_Desk_init 70 = .ok (.getfield 34, 3) := by decide +kernel
theorem d_Desk_init_73 : decode c_Desk_init 73 = .ok (.lconst 1, 1) := by decide +kernel
theorem d_Desk_init_74 : decode c_Desk_init 74 = .ok (.invokevirtual 24, 3) := by decide +kernel
theorem d_Desk_init_77 : decode c_Desk_init 77 = .ok (.aload_n 0, 1) := by decide +kernel
theorem d_Desk_init_78 : decode c_Desk_init 78 = .ok (.new 37, 3) := by decide +kernel
theorem d_Desk_init_81 : decode c_Desk_init 81 = .ok (.dup, 1) := by decide +kernel
theorem d_Desk_init_82 : decode c_Desk_init 82 = .ok (.invokespecial 39, 3) := by decide +kernel
theorem d_Desk_init_85 : decode c_Desk_init 85 = .ok (.putfield 40, 3) := by decide +kernel
theorem d_Desk_init_88 : decode c_Desk_init 88 = .ok (.aload_n 0, 1) := by decide +kernel
theorem d_Desk_init_89 : decode c_Desk_init 89 = .ok (.new 44, 3) := by decide +kernel
theorem d_Desk_init_92 : decode c_Desk_init 92 = .ok (.dup, 1) := by decide +kernel
theorem d_Desk_init_93 : decode c_Desk_init 93 = .ok (.invokespecial 46, 3) := by decide +kernel
theorem d_Desk_init_96 : decode c_Desk_init 96 = .ok (.putfield 47, 3) := by decide +kernel
theorem d_Desk_init_99 : decode c_Desk_init 99 = .ok (.aload_n 0, 1) := by decide +kernel
theorem d_Desk_init_100 : decode c_Desk_init 100 = .ok (.aload_n 0, 1) := by decide +kernel
theorem d_Desk_init_101 : decode c_Desk_init 101 = .ok (.getfield 47, 3) := by decide +kernel
theorem d_Desk_init_104 : decode c_Desk_init 104 = .ok (.getfield 51, 3) := by decide +kernel
theorem d_Desk_init_107 : decode c_Desk_init 107 = .ok (.putfield 55, 3) := by decide +kernel
theorem d_Desk_init_110 : decode c_Desk_init 110 = .ok (.aload_n 0, 1) := by decide +kernel
theorem d_Desk_init_111 : decode c_Desk_init 111 = .ok (.aload_n 0, 1) := by decide +kernel
theorem d_Desk_init_112 : decode c_Desk_init 112 = .ok (.getfield 47, 3) := by decide +kernel
theorem d_Desk_init_115 : decode c_Desk_init 115 = .ok (.getfield 56, 3) := by decide +kernel
theorem d_Desk_init_118 : decode c_Desk_init 118 = .ok (.putfield 60, 3) := by decide +kernel
theorem d_Desk_init_121 : decode c_Desk_init 121 = .ok (.return_, 1) := by decide +kernel
abbrev c_Modl_init : ByteArray := prog_11_method_1_code
abbrev y_Modl_init : MethodName := ⟨"FactorDeskModel", "<init>", "()V"⟩
theorem d_Modl_init_0 : decode c_Modl_init 0 = .ok (.aload_n 0, 1) := by decide +kernel
theorem d_Modl_init_1 : decode c_Modl_init 1 = .ok (.invokespecial 3, 3) := by decide +kernel
theorem d_Modl_init_4 : decode c_Modl_init 4 = .ok (.aload_n 0, 1) := by decide +kernel
theorem d_Modl_init_5 : decode c_Modl_init 5 = .ok (.bipush 13, 2) := by decide +kernel
theorem d_Modl_init_7 : decode c_Modl_init 7 = .ok (.newarray .long, 2) := by decide +kernel
theorem d_Modl_init_9 : decode c_Modl_init 9 = .ok (.putfield 9, 3) := by decide +kernel
theorem d_Modl_init_12 : decode c_Modl_init 12 = .ok (.aload_n 0, 1) := by decide +kernel
theorem d_Modl_init_13 : decode c_Modl_init 13 = .ok (.bipush 13, 2) := by decide +kernel
theorem d_Modl_init_15 : decode c_Modl_init 15 = .ok (.newarray .long, 2) := by decide +kernel
theorem d_Modl_init_17 : decode c_Modl_init 17 = .ok (.putfield 13, 3) := by decide +kernel
theorem d_Modl_init_20 : decode c_Modl_init 20 = .ok (.aload_n 0, 1) := by decide +kernel
theorem d_Modl_init_21 : decode c_Modl_init 21 = .ok (.bipush 13, 2) := by decide +kernel
theorem d_Modl_init_23 : decode c_Modl_init 23 = .ok (.newarray .long, 2) := by decide +kernel
theorem d_Modl_init_25 : decode c_Modl_init 25 = .ok (.putfield 16, 3) := by decide +kernel
theorem d_Modl_init_28 : decode c_Modl_init 28 = .ok (.aload_n 0, 1) := by decide +kernel
theorem d_Modl_init_29 : decode c_Modl_init 29 = .ok (.sipush 156, 3) := by decide +kernel
theorem d_Modl_init_32 : decode c_Modl_init 32 = .ok (.newarray .long, 2) := by decide +kernel
theorem d_Modl_init_34 : decode c_Modl_init 34 = .ok (.putfield 19, 3) := by decide +kernel
theorem d_Modl_init_37 : decode c_Modl_init 37 = .ok (.aload_n 0, 1) := by decide +kernel
theorem d_Modl_init_38 : decode c_Modl_init 38 = .ok (.bipush 12, 2) := by decide +kernel
theorem d_Modl_init_40 : decode c_Modl_init 40 = .ok (.newarray .int, 2) := by decide +kernel
theorem d_Modl_init_42 : decode c_Modl_init 42 = .ok (.putfield 22, 3) := by decide +kernel
theorem d_Modl_init_45 : decode c_Modl_init 45 = .ok (.aload_n 0, 1) := by decide +kernel
theorem d_Modl_init_46 : decode c_Modl_init 46 = .ok (.bipush 12, 2) := by decide +kernel
theorem d_Modl_init_48 : decode c_Modl_init 48 = .ok (.newarray .int, 2) := by decide +kernel
theorem d_Modl_init_50 : decode c_Modl_init 50 = .ok (.putfield 26, 3) := by decide +kernel
theorem d_Modl_init_53 : decode c_Modl_init 53 = .ok (.aload_n 0, 1) := by decide +kernel
theorem d_Modl_init_54 : decode c_Modl_init 54 = .ok (.sipush 156, 3) := by decide +kernel
theorem d_Modl_init_57 : decode c_Modl_init 57 = .ok (.newarray .long, 2) := by decide +kernel
theorem d_Modl_init_59 : decode c_Modl_init 59 = .ok (.putfield 29, 3) := by decide +kernel
theorem d_Modl_init_62 : decode c_Modl_init 62 = .ok (.aload_n 0, 1) := by decide +kernel
theorem d_Modl_init_63 : decode c_Modl_init 63 = .ok (.bipush 12, 2) := by decide +kernel
theorem d_Modl_init_65 : decode c_Modl_init 65 = .ok (.newarray .int, 2) := by decide +kernel
theorem d_Modl_init_67 : decode c_Modl_init 67 = .ok (.putfield 32, 3) := by decide +kernel
theorem d_Modl_init_70 : decode c_Modl_init 70 = .ok (.aload_n 0, 1) := by decide +kernel
theorem d_Modl_init_71 : decode c_Modl_init 71 = .ok (.bipush 12, 2) := by decide +kernel
theorem d_Modl_init_73 : decode c_Modl_init 73 = .ok (.newarray .int, 2) := by decide +kernel
theorem d_Modl_init_75 : decode c_Modl_init 75 = .ok (.putfield 35, 3) := by decide +kernel
theorem d_Modl_init_78 : decode c_Modl_init 78 = .ok (.aload_n 0, 1) := by decide +kernel
theorem d_Modl_init_79 : decode c_Modl_init 79 = .ok (.sipush 12350, 3) := by decide +kernel
theorem d_Modl_init_82 : decode c_Modl_init 82 = .ok (.newarray .long, 2) := by decide +kernel
theorem d_Modl_init_84 : decode c_Modl_init 84 = .ok (.putfield 38, 3) := by decide +kernel
theorem d_Modl_init_87 : decode c_Modl_init 87 = .ok (.aload_n 0, 1) := by decide +kernel
theorem d_Modl_init_88 : decode c_Modl_init 88 = .ok (.bipush 26, 2) := by decide +kernel
theorem d_Modl_init_90 : decode c_Modl_init 90 = .ok (.newarray .int, 2) := by decide +kernel
theorem d_Modl_init_92 : decode c_Modl_init 92 = .ok (.putfield 41, 3) := by decide +kernel
theorem d_Modl_init_95 : decode c_Modl_init 95 = .ok (.aload_n 0, 1) := by decide +kernel
theorem d_Modl_init_96 : decode c_Modl_init 96 = .ok (.bipush 64, 2) := by decide +kernel
theorem d_Modl_init_98 : decode c_Modl_init 98 = .ok (.newarray .long, 2) := by decide +kernel
theorem d_Modl_init_100 : decode c_Modl_init 100 = .ok (.putfield 44, 3) := by decide +kernel
theorem d_Modl_init_103 : decode c_Modl_init 103 = .ok (.aload_n 0, 1) := by decide +kernel
theorem d_Modl_init_104 : decode c_Modl_init 104 = .ok (.bipush 64, 2) := by decide +kernel
theorem d_Modl_init_106 : decode c_Modl_init 106 = .ok (.newarray .long, 2) := by decide +kernel
theorem d_Modl_init_108 : decode c_Modl_init 108 = .ok (.putfield 47, 3) := by decide +kernel
theorem d_Modl_init_111 : decode c_Modl_init 111 = .ok (.aload_n 0, 1) := by decide +kernel
theorem d_Modl_init_112 : decode c_Modl_init 112 = .ok (.bipush 64, 2) := by decide +kernel
theorem d_Modl_init_114 : decode c_Modl_init 114 = .ok (.newarray .long, 2) := by decide +kernel
theorem d_Modl_init_116 : decode c_Modl_init 116 = .ok (.putfield 50, 3) := by decide +kernel
theorem d_Modl_init_119 : decode c_Modl_init 119 = .ok (.aload_n 0, 1) := by decide +kernel
theorem d_Modl_init_120 : decode c_Modl_init 120 = .ok (.bipush 64, 2) := by decide +kernel
theorem d_Modl_init_122 : decode c_Modl_init 122 = .ok (.newarray .long, 2) := by decide +kernel
theorem d_Modl_init_124 : decode c_Modl_init 124 = .ok (.putfield 53, 3) := by decide +kernel
theorem d_Modl_init_127 : decode c_Modl_init 127 = .ok (.aload_n 0, 1) := by decide +kernel
theorem d_Modl_init_128 : decode c_Modl_init 128 = .ok (.lconst 1, 1) := by decide +kernel
theorem d_Modl_init_129 : decode c_Modl_init 129 = .ok (.putfield 56, 3) := by decide +kernel
theorem d_Modl_init_132 : decode c_Modl_init 132 = .ok (.aload_n 0, 1) := by decide +kernel
theorem d_Modl_init_133 : decode c_Modl_init 133 = .ok (.bipush 12, 2) := by decide +kernel
theorem d_Modl_init_135 : decode c_Modl_init 135 = .ok (.newarray .int, 2) := by decide +kernel
theorem d_Modl_init_137 : decode c_Modl_init 137 = .ok (.putfield 60, 3) := by decide +kernel
theorem d_Modl_init_140 : decode c_Modl_init 140 = .ok (.aload_n 0, 1) := by decide +kernel
theorem d_Modl_init_141 : decode c_Modl_init 141 = .ok (.bipush 12, 2) := by decide +kernel
theorem d_Modl_init_143 : decode c_Modl_init 143 = .ok (.newarray .boolean, 2) := by decide +kernel
theorem d_Modl_init_145 : decode c_Modl_init 145 = .ok (.putfield 63, 3) := by decide +kernel
theorem d_Modl_init_148 : decode c_Modl_init 148 = .ok (.aload_n 0, 1) := by decide +kernel
theorem d_Modl_init_149 : decode c_Modl_init 149 = .ok (.bipush 13, 2) := by decide +kernel
theorem d_Modl_init_151 : decode c_Modl_init 151 = .ok (.newarray .long, 2) := by decide +kernel
theorem d_Modl_init_153 : decode c_Modl_init 153 = .ok (.putfield 67, 3) := by decide +kernel
theorem d_Modl_init_156 : decode c_Modl_init 156 = .ok (.aload_n 0, 1) := by decide +kernel
theorem d_Modl_init_157 : decode c_Modl_init 157 = .ok (.bipush 13, 2) := by decide +kernel
theorem d_Modl_init_159 : decode c_Modl_init 159 = .ok (.newarray .long, 2) := by decide +kernel
theorem d_Modl_init_161 : decode c_Modl_init 161 = .ok (.putfield 70, 3) := by decide +kernel
theorem d_Modl_init_164 : decode c_Modl_init 164 = .ok (.aload_n 0, 1) := by decide +kernel
theorem d_Modl_init_165 : decode c_Modl_init 165 = .ok (.bipush 64, 2) := by decide +kernel
theorem d_Modl_init_167 : decode c_Modl_init 167 = .ok (.newarray .long, 2) := by decide +kernel
theorem d_Modl_init_169 : decode c_Modl_init 169 = .ok (.putfield 73, 3) := by decide +kernel
theorem d_Modl_init_172 : decode c_Modl_init 172 = .ok (.aload_n 0, 1) := by decide +kernel
theorem d_Modl_init_173 : decode c_Modl_init 173 = .ok (.bipush 13, 2) := by decide +kernel
theorem d_Modl_init_175 : decode c_Modl_init 175 = .ok (.newarray .boolean, 2) := by decide +kernel
theorem d_Modl_init_177 : decode c_Modl_init 177 = .ok (.putfield 76, 3) := by decide +kernel
theorem d_Modl_init_180 : decode c_Modl_init 180 = .ok (.aload_n 0, 1) := by decide +kernel
theorem d_Modl_init_181 : decode c_Modl_init 181 = .ok (.bipush 13, 2) := by decide +kernel
theorem d_Modl_init_183 : decode c_Modl_init 183 = .ok (.newarray .long, 2) := by decide +kernel
theorem d_Modl_init_185 : decode c_Modl_init 185 = .ok (.putfield 79, 3) := by decide +kernel
theorem d_Modl_init_188 : decode c_Modl_init 188 = .ok (.aload_n 0, 1) := by decide +kernel
theorem d_Modl_init_189 : decode c_Modl_init 189 = .ok (.getfield 13, 3) := by decide +kernel
theorem d_Modl_init_192 : decode c_Modl_init 192 = .ok (.iconst 0, 1) := by decide +kernel
theorem d_Modl_init_193 : decode c_Modl_init 193 = .ok (.lconst 1, 1) := by decide +kernel
theorem d_Modl_init_194 : decode c_Modl_init 194 = .ok (.lastore, 1) := by decide +kernel
theorem d_Modl_init_195 : decode c_Modl_init 195 = .ok (.aload_n 0, 1) := by decide +kernel
theorem d_Modl_init_196 : decode c_Modl_init 196 = .ok (.getfield 16, 3) := by decide +kernel
theorem d_Modl_init_199 : decode c_Modl_init 199 = .ok (.iconst 0, 1) := by decide +kernel
theorem d_Modl_init_200 : decode c_Modl_init 200 = .ok (.lconst 1, 1) := by decide +kernel
theorem d_Modl_init_201 : decode c_Modl_init 201 = .ok (.lastore, 1) := by decide +kernel
theorem d_Modl_init_202 : decode c_Modl_init 202 = .ok (.return_, 1) := by decide +kernel
theorem g_32 : jG (Jvm.Cond.methodLink "FactorDesk$Poly" (3 : Nat) ({ cls := "java/lang/Object", name := "<init>", desc := "()V" } : Jvm.MethodName)) := jG_of 97 (by decide +kernel) (by decide +kernel)
theorem g_25 : jG (Jvm.Cond.instanceMethod ({ cls := "java/lang/Object", name := "<init>", desc := "()V" } : Jvm.MethodName)) := jG_of 90 (by decide +kernel) (by decide +kernel)
theorem g_26 : jG (Jvm.Cond.code ({ cls := "java/lang/Object", name := "<init>", desc := "()V" } : Jvm.MethodName) object_method_1_code (1 : Nat) (Option.none : Option Jvm.ClassFile.FieldType)) := jG_of 91 (by decide +kernel) (by decide +kernel)
theorem g_56 : jG (Jvm.Cond.arrayClass Jvm.ClassFile.FieldType.long) := jG_of 121 (by decide +kernel) (by decide +kernel)
theorem g_33 : jG (Jvm.Cond.fieldLink "FactorDesk$Poly" (9 : Nat) "FactorDesk$Poly" "c" "[J") := jG_of 98 (by decide +kernel) (by decide +kernel)
theorem g_41 : jG (Jvm.Cond.fieldLink "FactorDesk$Poly" (15 : Nat) "FactorDesk$Poly" "degree" "I") := jG_of 106 (by decide +kernel) (by decide +kernel)
theorem g_105 : jG (Jvm.Cond.methodLink "FactorDesk$Division" (3 : Nat) ({ cls := "java/lang/Object", name := "<init>", desc := "()V" } : Jvm.MethodName)) := jG_of 170 (by decide +kernel) (by decide +kernel)
theorem g_106 : jG (Jvm.Cond.classLink "FactorDesk$Division" (9 : Nat) "FactorDesk$Poly") := jG_of 171 (by decide +kernel) (by decide +kernel)
theorem g_28 : jG (Jvm.Cond.instantiable "FactorDesk$Poly" (2 : Nat)) := jG_of 93 (by decide +kernel) (by decide +kernel)
theorem g_2 : jG (Jvm.Cond.initialized "FactorDesk$Poly") := jG_of 67 (by decide +kernel) (by decide +kernel)
theorem g_107 : jG (Jvm.Cond.methodLink "FactorDesk$Division" (11 : Nat) ({ cls := "FactorDesk$Poly", name := "<init>", desc := "()V" } : Jvm.MethodName)) := jG_of 172 (by decide +kernel) (by decide +kernel)
theorem g_31 : jG (Jvm.Cond.code ({ cls := "FactorDesk$Poly", name := "<init>", desc := "()V" } : Jvm.MethodName) prog_7_method_1_code (1 : Nat) (Option.none : Option Jvm.ClassFile.FieldType)) := jG_of 96 (by decide +kernel) (by decide +kernel)
theorem g_30 : jG (Jvm.Cond.instanceMethod ({ cls := "FactorDesk$Poly", name := "<init>", desc := "()V" } : Jvm.MethodName)) := jG_of 95 (by decide +kernel) (by decide +kernel)
theorem g_108 : jG (Jvm.Cond.fieldLink "FactorDesk$Division" (12 : Nat) "FactorDesk$Division" "quotient" "LFactorDesk$Poly;") := jG_of 173 (by decide +kernel) (by decide +kernel)
theorem g_110 : jG (Jvm.Cond.fieldLink "FactorDesk$Division" (18 : Nat) "FactorDesk$Division" "left" "[J") := jG_of 175 (by decide +kernel) (by decide +kernel)
theorem g_121 : jG (Jvm.Cond.methodLink "FactorDesk$Residues" (3 : Nat) ({ cls := "java/lang/Object", name := "<init>", desc := "()V" } : Jvm.MethodName)) := jG_of 186 (by decide +kernel) (by decide +kernel)
theorem g_122 : jG (Jvm.Cond.classLink "FactorDesk$Residues" (9 : Nat) "FactorDesk$Poly") := jG_of 187 (by decide +kernel) (by decide +kernel)
theorem g_123 : jG (Jvm.Cond.methodLink "FactorDesk$Residues" (11 : Nat) ({ cls := "FactorDesk$Poly", name := "<init>", desc := "()V" } : Jvm.MethodName)) := jG_of 188 (by decide +kernel) (by decide +kernel)
theorem g_126 : jG (Jvm.Cond.fieldLink "FactorDesk$Residues" (12 : Nat) "FactorDesk$Residues" "quotient" "LFactorDesk$Poly;") := jG_of 191 (by decide +kernel) (by decide +kernel)
theorem g_124 : jG (Jvm.Cond.constantLong "FactorDesk$Residues" (18 : Nat) (2 : Int64)) := jG_of 189 (by decide +kernel) (by decide +kernel)
theorem g_129 : jG (Jvm.Cond.fieldLink "FactorDesk$Residues" (20 : Nat) "FactorDesk$Residues" "modulus" "J") := jG_of 194 (by decide +kernel) (by decide +kernel)
theorem g_130 : jG (Jvm.Cond.fieldLink "FactorDesk$Residues" (24 : Nat) "FactorDesk$Residues" "chunk" "I") := jG_of 195 (by decide +kernel) (by decide +kernel)
theorem g_125 : jG (Jvm.Cond.constantLong "FactorDesk$Residues" (28 : Nat) (2147483647 : Int64)) := jG_of 190 (by decide +kernel) (by decide +kernel)
theorem g_131 : jG (Jvm.Cond.fieldLink "FactorDesk$Residues" (30 : Nat) "FactorDesk$Residues" "chunkMask" "J") := jG_of 196 (by decide +kernel) (by decide +kernel)
theorem g_132 : jG (Jvm.Cond.fieldLink "FactorDesk$Residues" (33 : Nat) "FactorDesk$Residues" "chunks" "I") := jG_of 197 (by decide +kernel) (by decide +kernel)
theorem g_99 : jG (Jvm.Cond.methodLink "FactorDesk$CommonDivisor" (1 : Nat) ({ cls := "java/lang/Object", name := "<init>", desc := "()V" } : Jvm.MethodName)) := jG_of 164 (by decide +kernel) (by decide +kernel)
theorem g_100 : jG (Jvm.Cond.classLink "FactorDesk$CommonDivisor" (7 : Nat) "FactorDesk$Division") := jG_of 165 (by decide +kernel) (by decide +kernel)
theorem g_101 : jG (Jvm.Cond.instantiable "FactorDesk$Division" (2 : Nat)) := jG_of 166 (by decide +kernel) (by decide +kernel)
theorem g_6 : jG (Jvm.Cond.initialized "FactorDesk$Division") := jG_of 71 (by decide +kernel) (by decide +kernel)
theorem g_102 : jG (Jvm.Cond.methodLink "FactorDesk$CommonDivisor" (9 : Nat) ({ cls := "FactorDesk$Division", name := "<init>", desc := "()V" } : Jvm.MethodName)) := jG_of 167 (by decide +kernel) (by decide +kernel)
theorem g_104 : jG (Jvm.Cond.code ({ cls := "FactorDesk$Division", name := "<init>", desc := "()V" } : Jvm.MethodName) prog_3_method_1_code (1 : Nat) (Option.none : Option Jvm.ClassFile.FieldType)) := jG_of 169 (by decide +kernel) (by decide +kernel)
theorem g_103 : jG (Jvm.Cond.instanceMethod ({ cls := "FactorDesk$Division", name := "<init>", desc := "()V" } : Jvm.MethodName)) := jG_of 168 (by decide +kernel) (by decide +kernel)
theorem g_149 : jG (Jvm.Cond.fieldLink "FactorDesk$CommonDivisor" (10 : Nat) "FactorDesk$CommonDivisor" "division" "LFactorDesk$Division;") := jG_of 214 (by decide +kernel) (by decide +kernel)
theorem g_116 : jG (Jvm.Cond.classLink "FactorDesk$CommonDivisor" (16 : Nat) "FactorDesk$Residues") := jG_of 181 (by decide +kernel) (by decide +kernel)
theorem g_117 : jG (Jvm.Cond.instantiable "FactorDesk$Residues" (5 : Nat)) := jG_of 182 (by decide +kernel) (by decide +kernel)
theorem g_7 : jG (Jvm.Cond.initialized "FactorDesk$Residues") := jG_of 72 (by decide +kernel) (by decide +kernel)
theorem g_118 : jG (Jvm.Cond.methodLink "FactorDesk$CommonDivisor" (18 : Nat) ({ cls := "FactorDesk$Residues", name := "<init>", desc := "()V" } : Jvm.MethodName)) := jG_of 183 (by decide +kernel) (by decide +kernel)
theorem g_120 : jG (Jvm.Cond.code ({ cls := "FactorDesk$Residues", name := "<init>", desc := "()V" } : Jvm.MethodName) prog_8_method_1_code (1 : Nat) (Option.none : Option Jvm.ClassFile.FieldType)) := jG_of 185 (by decide +kernel) (by decide +kernel)
theorem g_119 : jG (Jvm.Cond.instanceMethod ({ cls := "FactorDesk$Residues", name := "<init>", desc := "()V" } : Jvm.MethodName)) := jG_of 184 (by decide +kernel) (by decide +kernel)
theorem g_151 : jG (Jvm.Cond.fieldLink "FactorDesk$CommonDivisor" (19 : Nat) "FactorDesk$CommonDivisor" "residues" "LFactorDesk$Residues;") := jG_of 216 (by decide +kernel) (by decide +kernel)
theorem g_144 : jG (Jvm.Cond.classLink "FactorDesk$CommonDivisor" (23 : Nat) "FactorDesk$Poly") := jG_of 209 (by decide +kernel) (by decide +kernel)
theorem g_145 : jG (Jvm.Cond.methodLink "FactorDesk$CommonDivisor" (25 : Nat) ({ cls := "FactorDesk$Poly", name := "<init>", desc := "()V" } : Jvm.MethodName)) := jG_of 210 (by decide +kernel) (by decide +kernel)
theorem g_146 : jG (Jvm.Cond.fieldLink "FactorDesk$CommonDivisor" (26 : Nat) "FactorDesk$CommonDivisor" "answer" "LFactorDesk$Poly;") := jG_of 211 (by decide +kernel) (by decide +kernel)
theorem g_152 : jG (Jvm.Cond.fieldLink "FactorDesk$CommonDivisor" (30 : Nat) "FactorDesk$CommonDivisor" "one" "LFactorDesk$Poly;") := jG_of 217 (by decide +kernel) (by decide +kernel)
theorem g_153 : jG (Jvm.Cond.fieldLink "FactorDesk$CommonDivisor" (33 : Nat) "FactorDesk$CommonDivisor" "two" "LFactorDesk$Poly;") := jG_of 218 (by decide +kernel) (by decide +kernel)
theorem g_154 : jG (Jvm.Cond.fieldLink "FactorDesk$CommonDivisor" (36 : Nat) "FactorDesk$CommonDivisor" "a" "LFactorDesk$Poly;") := jG_of 219 (by decide +kernel) (by decide +kernel)
theorem g_155 : jG (Jvm.Cond.fieldLink "FactorDesk$CommonDivisor" (39 : Nat) "FactorDesk$CommonDivisor" "b" "LFactorDesk$Poly;") := jG_of 220 (by decide +kernel) (by decide +kernel)
theorem g_70 : jG (Jvm.Cond.fieldLink "FactorDesk$FactorList" (11 : Nat) "FactorDesk$FactorList" "parts" "[LFactorDesk$Poly;") := jG_of 135 (by decide +kernel) (by decide +kernel)
theorem g_67 : jG (Jvm.Cond.classLink "FactorDesk$FactorList" (9 : Nat) "FactorDesk$Poly") := jG_of 132 (by decide +kernel) (by decide +kernel)
theorem g_69 : jG (Jvm.Cond.methodLink "FactorDesk$FactorList" (17 : Nat) ({ cls := "FactorDesk$Poly", name := "<init>", desc := "()V" } : Jvm.MethodName)) := jG_of 134 (by decide +kernel) (by decide +kernel)
theorem g_66 : jG (Jvm.Cond.methodLink "FactorDesk$FactorList" (3 : Nat) ({ cls := "java/lang/Object", name := "<init>", desc := "()V" } : Jvm.MethodName)) := jG_of 131 (by decide +kernel) (by decide +kernel)
theorem g_55 : jG (Jvm.Cond.arrayClass Jvm.ClassFile.FieldType.int) := jG_of 120 (by decide +kernel) (by decide +kernel)
theorem g_73 : jG (Jvm.Cond.fieldLink "FactorDesk$FactorList" (18 : Nat) "FactorDesk$FactorList" "multiplicities" "[I") := jG_of 138 (by decide +kernel) (by decide +kernel)
theorem g_76 : jG (Jvm.Cond.fieldLink "FactorDesk$FactorList" (22 : Nat) "FactorDesk$FactorList" "count" "I") := jG_of 141 (by decide +kernel) (by decide +kernel)
theorem g_191 : jG (Jvm.Cond.fieldLink "FactorDesk$ModularSplit" (20 : Nat) "FactorDesk$ModularSplit" "pieces" "[LFactorDesk$Poly;") := jG_of 256 (by decide +kernel) (by decide +kernel)
theorem g_185 : jG (Jvm.Cond.classLink "FactorDesk$ModularSplit" (18 : Nat) "FactorDesk$Poly") := jG_of 250 (by decide +kernel) (by decide +kernel)
theorem g_186 : jG (Jvm.Cond.methodLink "FactorDesk$ModularSplit" (24 : Nat) ({ cls := "FactorDesk$Poly", name := "<init>", desc := "()V" } : Jvm.MethodName)) := jG_of 251 (by decide +kernel) (by decide +kernel)
theorem g_182 : jG (Jvm.Cond.methodLink "FactorDesk$ModularSplit" (3 : Nat) ({ cls := "java/lang/Object", name := "<init>", desc := "()V" } : Jvm.MethodName)) := jG_of 247 (by decide +kernel) (by decide +kernel)
theorem g_183 : jG (Jvm.Cond.classLink "FactorDesk$ModularSplit" (9 : Nat) "FactorDesk$Residues") := jG_of 248 (by decide +kernel) (by decide +kernel)
theorem g_184 : jG (Jvm.Cond.methodLink "FactorDesk$ModularSplit" (11 : Nat) ({ cls := "FactorDesk$Residues", name := "<init>", desc := "()V" } : Jvm.MethodName)) := jG_of 249 (by decide +kernel) (by decide +kernel)
theorem g_189 : jG (Jvm.Cond.fieldLink "FactorDesk$ModularSplit" (12 : Nat) "FactorDesk$ModularSplit" "residues" "LFactorDesk$Residues;") := jG_of 254 (by decide +kernel) (by decide +kernel)
theorem g_194 : jG (Jvm.Cond.fieldLink "FactorDesk$ModularSplit" (25 : Nat) "FactorDesk$ModularSplit" "monic" "LFactorDesk$Poly;") := jG_of 259 (by decide +kernel) (by decide +kernel)
theorem g_187 : jG (Jvm.Cond.classLink "FactorDesk$ModularSplit" (29 : Nat) "[[J") := jG_of 252 (by decide +kernel) (by decide +kernel)
theorem g_202 : jG (Jvm.Cond.fieldLink "FactorDesk$ModularSplit" (31 : Nat) "FactorDesk$ModularSplit" "matrix" "[[J") := jG_of 267 (by decide +kernel) (by decide +kernel)
theorem g_203 : jG (Jvm.Cond.fieldLink "FactorDesk$ModularSplit" (34 : Nat) "FactorDesk$ModularSplit" "pivotRow" "[I") := jG_of 268 (by decide +kernel) (by decide +kernel)
theorem g_204 : jG (Jvm.Cond.fieldLink "FactorDesk$ModularSplit" (38 : Nat) "FactorDesk$ModularSplit" "kernel" "LFactorDesk$Poly;") := jG_of 269 (by decide +kernel) (by decide +kernel)
theorem g_205 : jG (Jvm.Cond.fieldLink "FactorDesk$ModularSplit" (41 : Nat) "FactorDesk$ModularSplit" "a" "LFactorDesk$Poly;") := jG_of 270 (by decide +kernel) (by decide +kernel)
theorem g_206 : jG (Jvm.Cond.fieldLink "FactorDesk$ModularSplit" (44 : Nat) "FactorDesk$ModularSplit" "b" "LFactorDesk$Poly;") := jG_of 271 (by decide +kernel) (by decide +kernel)
theorem g_238 : jG (Jvm.Cond.fieldLink "FactorDesk$Lift" (27 : Nat) "FactorDesk$Lift" "pieces" "[LFactorDesk$Poly;") := jG_of 303 (by decide +kernel) (by decide +kernel)
theorem g_232 : jG (Jvm.Cond.classLink "FactorDesk$Lift" (25 : Nat) "FactorDesk$Poly") := jG_of 297 (by decide +kernel) (by decide +kernel)
theorem g_233 : jG (Jvm.Cond.methodLink "FactorDesk$Lift" (34 : Nat) ({ cls := "FactorDesk$Poly", name := "<init>", desc := "()V" } : Jvm.MethodName)) := jG_of 298 (by decide +kernel) (by decide +kernel)
theorem g_240 : jG (Jvm.Cond.fieldLink "FactorDesk$Lift" (31 : Nat) "FactorDesk$Lift" "inverses" "[LFactorDesk$Poly;") := jG_of 305 (by decide +kernel) (by decide +kernel)
theorem g_176 : jG (Jvm.Cond.methodLink "FactorDesk$Lift" (3 : Nat) ({ cls := "java/lang/Object", name := "<init>", desc := "()V" } : Jvm.MethodName)) := jG_of 241 (by decide +kernel) (by decide +kernel)
theorem g_177 : jG (Jvm.Cond.classLink "FactorDesk$Lift" (9 : Nat) "FactorDesk$ModularSplit") := jG_of 242 (by decide +kernel) (by decide +kernel)
theorem g_178 : jG (Jvm.Cond.instantiable "FactorDesk$ModularSplit" (11 : Nat)) := jG_of 243 (by decide +kernel) (by decide +kernel)
theorem g_9 : jG (Jvm.Cond.initialized "FactorDesk$ModularSplit") := jG_of 74 (by decide +kernel) (by decide +kernel)
theorem g_179 : jG (Jvm.Cond.methodLink "FactorDesk$Lift" (11 : Nat) ({ cls := "FactorDesk$ModularSplit", name := "<init>", desc := "()V" } : Jvm.MethodName)) := jG_of 244 (by decide +kernel) (by decide +kernel)
theorem g_181 : jG (Jvm.Cond.code ({ cls := "FactorDesk$ModularSplit", name := "<init>", desc := "()V" } : Jvm.MethodName) prog_6_method_1_code (2 : Nat) (Option.none : Option Jvm.ClassFile.FieldType)) := jG_of 246 (by decide +kernel) (by decide +kernel)
theorem g_180 : jG (Jvm.Cond.instanceMethod ({ cls := "FactorDesk$ModularSplit", name := "<init>", desc := "()V" } : Jvm.MethodName)) := jG_of 245 (by decide +kernel) (by decide +kernel)
theorem g_234 : jG (Jvm.Cond.fieldLink "FactorDesk$Lift" (12 : Nat) "FactorDesk$Lift" "split" "LFactorDesk$ModularSplit;") := jG_of 299 (by decide +kernel) (by decide +kernel)
theorem g_230 : jG (Jvm.Cond.classLink "FactorDesk$Lift" (18 : Nat) "FactorDesk$Residues") := jG_of 295 (by decide +kernel) (by decide +kernel)
theorem g_231 : jG (Jvm.Cond.methodLink "FactorDesk$Lift" (20 : Nat) ({ cls := "FactorDesk$Residues", name := "<init>", desc := "()V" } : Jvm.MethodName)) := jG_of 296 (by decide +kernel) (by decide +kernel)
theorem g_236 : jG (Jvm.Cond.fieldLink "FactorDesk$Lift" (21 : Nat) "FactorDesk$Lift" "residues" "LFactorDesk$Residues;") := jG_of 301 (by decide +kernel) (by decide +kernel)
theorem g_241 : jG (Jvm.Cond.fieldLink "FactorDesk$Lift" (35 : Nat) "FactorDesk$Lift" "target" "LFactorDesk$Poly;") := jG_of 306 (by decide +kernel) (by decide +kernel)
theorem g_242 : jG (Jvm.Cond.fieldLink "FactorDesk$Lift" (39 : Nat) "FactorDesk$Lift" "error" "LFactorDesk$Poly;") := jG_of 307 (by decide +kernel) (by decide +kernel)
theorem g_243 : jG (Jvm.Cond.fieldLink "FactorDesk$Lift" (42 : Nat) "FactorDesk$Lift" "work" "LFactorDesk$Poly;") := jG_of 308 (by decide +kernel) (by decide +kernel)
theorem g_244 : jG (Jvm.Cond.fieldLink "FactorDesk$Lift" (45 : Nat) "FactorDesk$Lift" "one" "LFactorDesk$Poly;") := jG_of 309 (by decide +kernel) (by decide +kernel)
theorem g_245 : jG (Jvm.Cond.fieldLink "FactorDesk$Lift" (48 : Nat) "FactorDesk$Lift" "two" "LFactorDesk$Poly;") := jG_of 310 (by decide +kernel) (by decide +kernel)
theorem g_246 : jG (Jvm.Cond.fieldLink "FactorDesk$Lift" (51 : Nat) "FactorDesk$Lift" "oneTimes" "LFactorDesk$Poly;") := jG_of 311 (by decide +kernel) (by decide +kernel)
theorem g_247 : jG (Jvm.Cond.fieldLink "FactorDesk$Lift" (54 : Nat) "FactorDesk$Lift" "twoTimes" "LFactorDesk$Poly;") := jG_of 312 (by decide +kernel) (by decide +kernel)
theorem g_91 : jG (Jvm.Cond.methodLink "FactorDesk$Splitter" (3 : Nat) ({ cls := "java/lang/Object", name := "<init>", desc := "()V" } : Jvm.MethodName)) := jG_of 156 (by decide +kernel) (by decide +kernel)
theorem g_92 : jG (Jvm.Cond.classLink "FactorDesk$Splitter" (9 : Nat) "FactorDesk$FactorList") := jG_of 157 (by decide +kernel) (by decide +kernel)
theorem g_62 : jG (Jvm.Cond.instantiable "FactorDesk$FactorList" (3 : Nat)) := jG_of 127 (by decide +kernel) (by decide +kernel)
theorem g_3 : jG (Jvm.Cond.initialized "FactorDesk$FactorList") := jG_of 68 (by decide +kernel) (by decide +kernel)
theorem g_93 : jG (Jvm.Cond.methodLink "FactorDesk$Splitter" (11 : Nat) ({ cls := "FactorDesk$FactorList", name := "<init>", desc := "()V" } : Jvm.MethodName)) := jG_of 158 (by decide +kernel) (by decide +kernel)
theorem g_65 : jG (Jvm.Cond.code ({ cls := "FactorDesk$FactorList", name := "<init>", desc := "()V" } : Jvm.MethodName) prog_4_method_1_code (2 : Nat) (Option.none : Option Jvm.ClassFile.FieldType)) := jG_of 130 (by decide +kernel) (by decide +kernel)
theorem g_64 : jG (Jvm.Cond.instanceMethod ({ cls := "FactorDesk$FactorList", name := "<init>", desc := "()V" } : Jvm.MethodName)) := jG_of 129 (by decide +kernel) (by decide +kernel)
theorem g_273 : jG (Jvm.Cond.fieldLink "FactorDesk$Splitter" (12 : Nat) "FactorDesk$Splitter" "found" "LFactorDesk$FactorList;") := jG_of 338 (by decide +kernel) (by decide +kernel)
theorem g_94 : jG (Jvm.Cond.classLink "FactorDesk$Splitter" (18 : Nat) "FactorDesk$CommonDivisor") := jG_of 159 (by decide +kernel) (by decide +kernel)
theorem g_95 : jG (Jvm.Cond.instantiable "FactorDesk$CommonDivisor" (7 : Nat)) := jG_of 160 (by decide +kernel) (by decide +kernel)
theorem g_5 : jG (Jvm.Cond.initialized "FactorDesk$CommonDivisor") := jG_of 70 (by decide +kernel) (by decide +kernel)
theorem g_96 : jG (Jvm.Cond.methodLink "FactorDesk$Splitter" (20 : Nat) ({ cls := "FactorDesk$CommonDivisor", name := "<init>", desc := "()V" } : Jvm.MethodName)) := jG_of 161 (by decide +kernel) (by decide +kernel)
theorem g_98 : jG (Jvm.Cond.code ({ cls := "FactorDesk$CommonDivisor", name := "<init>", desc := "()V" } : Jvm.MethodName) prog_2_method_1_code (1 : Nat) (Option.none : Option Jvm.ClassFile.FieldType)) := jG_of 163 (by decide +kernel) (by decide +kernel)
theorem g_97 : jG (Jvm.Cond.instanceMethod ({ cls := "FactorDesk$CommonDivisor", name := "<init>", desc := "()V" } : Jvm.MethodName)) := jG_of 162 (by decide +kernel) (by decide +kernel)
theorem g_275 : jG (Jvm.Cond.fieldLink "FactorDesk$Splitter" (21 : Nat) "FactorDesk$Splitter" "commonDivisor" "LFactorDesk$CommonDivisor;") := jG_of 340 (by decide +kernel) (by decide +kernel)
theorem g_150 : jG (Jvm.Cond.fieldLink "FactorDesk$Splitter" (25 : Nat) "FactorDesk$CommonDivisor" "division" "LFactorDesk$Division;") := jG_of 215 (by decide +kernel) (by decide +kernel)
theorem g_277 : jG (Jvm.Cond.fieldLink "FactorDesk$Splitter" (29 : Nat) "FactorDesk$Splitter" "division" "LFactorDesk$Division;") := jG_of 342 (by decide +kernel) (by decide +kernel)
theorem g_279 : jG (Jvm.Cond.fieldLink "FactorDesk$Splitter" (30 : Nat) "FactorDesk$Splitter" "known" "Z") := jG_of 344 (by decide +kernel) (by decide +kernel)
theorem g_171 : jG (Jvm.Cond.classLink "FactorDesk$Splitter" (34 : Nat) "FactorDesk$Lift") := jG_of 236 (by decide +kernel) (by decide +kernel)
theorem g_172 : jG (Jvm.Cond.instantiable "FactorDesk$Lift" (11 : Nat)) := jG_of 237 (by decide +kernel) (by decide +kernel)
theorem g_8 : jG (Jvm.Cond.initialized "FactorDesk$Lift") := jG_of 73 (by decide +kernel) (by decide +kernel)
theorem g_173 : jG (Jvm.Cond.methodLink "FactorDesk$Splitter" (36 : Nat) ({ cls := "FactorDesk$Lift", name := "<init>", desc := "()V" } : Jvm.MethodName)) := jG_of 238 (by decide +kernel) (by decide +kernel)
theorem g_175 : jG (Jvm.Cond.code ({ cls := "FactorDesk$Lift", name := "<init>", desc := "()V" } : Jvm.MethodName) prog_5_method_1_code (2 : Nat) (Option.none : Option Jvm.ClassFile.FieldType)) := jG_of 240 (by decide +kernel) (by decide +kernel)
theorem g_174 : jG (Jvm.Cond.instanceMethod ({ cls := "FactorDesk$Lift", name := "<init>", desc := "()V" } : Jvm.MethodName)) := jG_of 239 (by decide +kernel) (by decide +kernel)
theorem g_280 : jG (Jvm.Cond.fieldLink "FactorDesk$Splitter" (37 : Nat) "FactorDesk$Splitter" "lift" "LFactorDesk$Lift;") := jG_of 345 (by decide +kernel) (by decide +kernel)
theorem g_235 : jG (Jvm.Cond.fieldLink "FactorDesk$Splitter" (41 : Nat) "FactorDesk$Lift" "split" "LFactorDesk$ModularSplit;") := jG_of 300 (by decide +kernel) (by decide +kernel)
theorem g_281 : jG (Jvm.Cond.fieldLink "FactorDesk$Splitter" (45 : Nat) "FactorDesk$Splitter" "modular" "LFactorDesk$ModularSplit;") := jG_of 346 (by decide +kernel) (by decide +kernel)
theorem g_271 : jG (Jvm.Cond.classLink "FactorDesk$Splitter" (48 : Nat) "FactorDesk$Poly") := jG_of 336 (by decide +kernel) (by decide +kernel)
theorem g_272 : jG (Jvm.Cond.methodLink "FactorDesk$Splitter" (50 : Nat) ({ cls := "FactorDesk$Poly", name := "<init>", desc := "()V" } : Jvm.MethodName)) := jG_of 337 (by decide +kernel) (by decide +kernel)
theorem g_282 : jG (Jvm.Cond.fieldLink "FactorDesk$Splitter" (51 : Nat) "FactorDesk$Splitter" "whole" "LFactorDesk$Poly;") := jG_of 347 (by decide +kernel) (by decide +kernel)
theorem g_283 : jG (Jvm.Cond.fieldLink "FactorDesk$Splitter" (55 : Nat) "FactorDesk$Splitter" "rest" "LFactorDesk$Poly;") := jG_of 348 (by decide +kernel) (by decide +kernel)
theorem g_284 : jG (Jvm.Cond.fieldLink "FactorDesk$Splitter" (58 : Nat) "FactorDesk$Splitter" "candidate" "LFactorDesk$Poly;") := jG_of 349 (by decide +kernel) (by decide +kernel)
theorem g_24 : jG (Jvm.Cond.methodLink "FactorDesk" (3 : Nat) ({ cls := "java/lang/Object", name := "<init>", desc := "()V" } : Jvm.MethodName)) := jG_of 89 (by decide +kernel) (by decide +kernel)
theorem g_304 : jG (Jvm.Cond.fieldLink "FactorDesk" (9 : Nat) "FactorDesk" "tape" "[I") := jG_of 369 (by decide +kernel) (by decide +kernel)
theorem g_305 : jG (Jvm.Cond.fieldLink "FactorDesk" (13 : Nat) "FactorDesk" "taped" "I") := jG_of 370 (by decide +kernel) (by decide +kernel)
theorem g_27 : jG (Jvm.Cond.classLink "FactorDesk" (17 : Nat) "FactorDesk$Poly") := jG_of 92 (by decide +kernel) (by decide +kernel)
theorem g_29 : jG (Jvm.Cond.methodLink "FactorDesk" (19 : Nat) ({ cls := "FactorDesk$Poly", name := "<init>", desc := "()V" } : Jvm.MethodName)) := jG_of 94 (by decide +kernel) (by decide +kernel)
theorem g_306 : jG (Jvm.Cond.fieldLink "FactorDesk" (20 : Nat) "FactorDesk" "polynomial" "LFactorDesk$Poly;") := jG_of 371 (by decide +kernel) (by decide +kernel)
theorem g_57 : jG (Jvm.Cond.methodLink "FactorDesk" (24 : Nat) ({ cls := "FactorDesk$Poly", name := "setNumber", desc := "(J)V" } : Jvm.MethodName)) := jG_of 122 (by decide +kernel) (by decide +kernel)
theorem g_60 : jG (Jvm.Cond.code ({ cls := "FactorDesk$Poly", name := "setNumber", desc := "(J)V" } : Jvm.MethodName) prog_7_method_3_code (4 : Nat) (Option.none : Option Jvm.ClassFile.FieldType)) := jG_of 125 (by decide +kernel) (by decide +kernel)
theorem g_58 : jG (Jvm.Cond.instanceMethod ({ cls := "FactorDesk$Poly", name := "setNumber", desc := "(J)V" } : Jvm.MethodName)) := jG_of 123 (by decide +kernel) (by decide +kernel)
theorem g_59 : jG (Jvm.Cond.selects "FactorDesk$Poly" ({ cls := "FactorDesk$Poly", name := "setNumber", desc := "(J)V" } : Jvm.MethodName) ({ cls := "FactorDesk$Poly", name := "setNumber", desc := "(J)V" } : Jvm.MethodName)) := jG_of 124 (by decide +kernel) (by decide +kernel)
theorem g_307 : jG (Jvm.Cond.fieldLink "FactorDesk" (28 : Nat) "FactorDesk" "result" "LFactorDesk$Poly;") := jG_of 372 (by decide +kernel) (by decide +kernel)
theorem g_308 : jG (Jvm.Cond.fieldLink "FactorDesk" (31 : Nat) "FactorDesk" "operand" "LFactorDesk$Poly;") := jG_of 373 (by decide +kernel) (by decide +kernel)
theorem g_309 : jG (Jvm.Cond.fieldLink "FactorDesk" (34 : Nat) "FactorDesk" "latestDivisor" "LFactorDesk$Poly;") := jG_of 374 (by decide +kernel) (by decide +kernel)
theorem g_61 : jG (Jvm.Cond.classLink "FactorDesk" (37 : Nat) "FactorDesk$FactorList") := jG_of 126 (by decide +kernel) (by decide +kernel)
theorem g_63 : jG (Jvm.Cond.methodLink "FactorDesk" (39 : Nat) ({ cls := "FactorDesk$FactorList", name := "<init>", desc := "()V" } : Jvm.MethodName)) := jG_of 128 (by decide +kernel) (by decide +kernel)
theorem g_310 : jG (Jvm.Cond.fieldLink "FactorDesk" (40 : Nat) "FactorDesk" "told" "LFactorDesk$FactorList;") := jG_of 375 (by decide +kernel) (by decide +kernel)
theorem g_86 : jG (Jvm.Cond.classLink "FactorDesk" (44 : Nat) "FactorDesk$Splitter") := jG_of 151 (by decide +kernel) (by decide +kernel)
theorem g_87 : jG (Jvm.Cond.instantiable "FactorDesk$Splitter" (9 : Nat)) := jG_of 152 (by decide +kernel) (by decide +kernel)
theorem g_4 : jG (Jvm.Cond.initialized "FactorDesk$Splitter") := jG_of 69 (by decide +kernel) (by decide +kernel)
theorem g_88 : jG (Jvm.Cond.methodLink "FactorDesk" (46 : Nat) ({ cls := "FactorDesk$Splitter", name := "<init>", desc := "()V" } : Jvm.MethodName)) := jG_of 153 (by decide +kernel) (by decide +kernel)
theorem g_90 : jG (Jvm.Cond.code ({ cls := "FactorDesk$Splitter", name := "<init>", desc := "()V" } : Jvm.MethodName) prog_9_method_1_code (1 : Nat) (Option.none : Option Jvm.ClassFile.FieldType)) := jG_of 155 (by decide +kernel) (by decide +kernel)
theorem g_89 : jG (Jvm.Cond.instanceMethod ({ cls := "FactorDesk$Splitter", name := "<init>", desc := "()V" } : Jvm.MethodName)) := jG_of 154 (by decide +kernel) (by decide +kernel)
theorem g_311 : jG (Jvm.Cond.fieldLink "FactorDesk" (47 : Nat) "FactorDesk" "splitter" "LFactorDesk$Splitter;") := jG_of 376 (by decide +kernel) (by decide +kernel)
theorem g_276 : jG (Jvm.Cond.fieldLink "FactorDesk" (51 : Nat) "FactorDesk$Splitter" "commonDivisor" "LFactorDesk$CommonDivisor;") := jG_of 341 (by decide +kernel) (by decide +kernel)
theorem g_312 : jG (Jvm.Cond.fieldLink "FactorDesk" (55 : Nat) "FactorDesk" "commonDivisor" "LFactorDesk$CommonDivisor;") := jG_of 377 (by decide +kernel) (by decide +kernel)
theorem g_278 : jG (Jvm.Cond.fieldLink "FactorDesk" (56 : Nat) "FactorDesk$Splitter" "division" "LFactorDesk$Division;") := jG_of 343 (by decide +kernel) (by decide +kernel)
theorem g_313 : jG (Jvm.Cond.fieldLink "FactorDesk" (60 : Nat) "FactorDesk" "division" "LFactorDesk$Division;") := jG_of 378 (by decide +kernel) (by decide +kernel)
theorem g_854 : jG (Jvm.Cond.methodLink "FactorDeskModel" (3 : Nat) ({ cls := "java/lang/Object", name := "<init>", desc := "()V" } : Jvm.MethodName)) := jG_of 919 (by decide +kernel) (by decide +kernel)
theorem g_856 : jG (Jvm.Cond.fieldLink "FactorDeskModel" (9 : Nat) "FactorDeskModel" "tape" "[J") := jG_of 921 (by decide +kernel) (by decide +kernel)
theorem g_858 : jG (Jvm.Cond.fieldLink "FactorDeskModel" (13 : Nat) "FactorDeskModel" "one" "[J") := jG_of 923 (by decide +kernel) (by decide +kernel)
theorem g_860 : jG (Jvm.Cond.fieldLink "FactorDeskModel" (16 : Nat) "FactorDeskModel" "divisor" "[J") := jG_of 925 (by decide +kernel) (by decide +kernel)
theorem g_863 : jG (Jvm.Cond.fieldLink "FactorDeskModel" (19 : Nat) "FactorDeskModel" "shownPart" "[J") := jG_of 928 (by decide +kernel) (by decide +kernel)
theorem g_864 : jG (Jvm.Cond.fieldLink "FactorDeskModel" (22 : Nat) "FactorDeskModel" "shownDegree" "[I") := jG_of 929 (by decide +kernel) (by decide +kernel)
theorem g_865 : jG (Jvm.Cond.fieldLink "FactorDeskModel" (26 : Nat) "FactorDeskModel" "shownTimes" "[I") := jG_of 930 (by decide +kernel) (by decide +kernel)
theorem g_867 : jG (Jvm.Cond.fieldLink "FactorDeskModel" (29 : Nat) "FactorDeskModel" "part" "[J") := jG_of 932 (by decide +kernel) (by decide +kernel)
theorem g_868 : jG (Jvm.Cond.fieldLink "FactorDeskModel" (32 : Nat) "FactorDeskModel" "partDegree" "[I") := jG_of 933 (by decide +kernel) (by decide +kernel)
theorem g_869 : jG (Jvm.Cond.fieldLink "FactorDeskModel" (35 : Nat) "FactorDeskModel" "partTimes" "[I") := jG_of 934 (by decide +kernel) (by decide +kernel)
theorem g_872 : jG (Jvm.Cond.fieldLink "FactorDeskModel" (38 : Nat) "FactorDeskModel" "cells" "[J") := jG_of 937 (by decide +kernel) (by decide +kernel)
theorem g_873 : jG (Jvm.Cond.fieldLink "FactorDeskModel" (41 : Nat) "FactorDeskModel" "deg" "[I") := jG_of 938 (by decide +kernel) (by decide +kernel)
theorem g_874 : jG (Jvm.Cond.fieldLink "FactorDeskModel" (44 : Nat) "FactorDeskModel" "w" "[J") := jG_of 939 (by decide +kernel) (by decide +kernel)
theorem g_875 : jG (Jvm.Cond.fieldLink "FactorDeskModel" (47 : Nat) "FactorDeskModel" "t" "[J") := jG_of 940 (by decide +kernel) (by decide +kernel)
theorem g_876 : jG (Jvm.Cond.fieldLink "FactorDeskModel" (50 : Nat) "FactorDeskModel" "u" "[J") := jG_of 941 (by decide +kernel) (by decide +kernel)
theorem g_877 : jG (Jvm.Cond.fieldLink "FactorDeskModel" (53 : Nat) "FactorDeskModel" "zero" "[J") := jG_of 942 (by decide +kernel) (by decide +kernel)
theorem g_878 : jG (Jvm.Cond.fieldLink "FactorDeskModel" (56 : Nat) "FactorDeskModel" "chance" "J") := jG_of 943 (by decide +kernel) (by decide +kernel)
theorem g_880 : jG (Jvm.Cond.fieldLink "FactorDeskModel" (60 : Nat) "FactorDeskModel" "times" "[I") := jG_of 945 (by decide +kernel) (by decide +kernel)
theorem g_961 : jG (Jvm.Cond.arrayClass Jvm.ClassFile.FieldType.boolean) := jG_of 1026 (by decide +kernel) (by decide +kernel)
theorem g_881 : jG (Jvm.Cond.fieldLink "FactorDeskModel" (63 : Nat) "FactorDeskModel" "used" "[Z") := jG_of 946 (by decide +kernel) (by decide +kernel)
theorem g_882 : jG (Jvm.Cond.fieldLink "FactorDeskModel" (67 : Nat) "FactorDeskModel" "candidate" "[J") := jG_of 947 (by decide +kernel) (by decide +kernel)
theorem g_885 : jG (Jvm.Cond.fieldLink "FactorDeskModel" (70 : Nat) "FactorDeskModel" "left" "[J") := jG_of 950 (by decide +kernel) (by decide +kernel)
theorem g_886 : jG (Jvm.Cond.fieldLink "FactorDeskModel" (73 : Nat) "FactorDeskModel" "unit" "[J") := jG_of 951 (by decide +kernel) (by decide +kernel)
theorem g_887 : jG (Jvm.Cond.fieldLink "FactorDeskModel" (76 : Nat) "FactorDeskModel" "minus" "[Z") := jG_of 952 (by decide +kernel) (by decide +kernel)
theorem g_888 : jG (Jvm.Cond.fieldLink "FactorDeskModel" (79 : Nat) "FactorDeskModel" "other" "[J") := jG_of 953 (by decide +kernel) (by decide +kernel)
end
section
theorem j_nks {b : Nat} {D : va_G} {Y : Nat → ClassId} {s0 : State} {p : Program} {l : Launch} {e : Env} {R : Room} {s : State} {m : MethodId} {args : Array Value} {below : List Frame} {meth : Method} {c : Code} {own : String} {cc : ByteArray} {nL : Nat} {ret : Option FieldType} {nm : String} {Q : State → Prop} {pc : Nat} {lv : List (Nat × Value)} {st : List Value} {h : jH} {n k sl : Nat} (n2 k2 sl2 : Nat) (h1 : n = n2) (h2 : k = k2) (h3 : sl = sl2) (kk : jW b D Y s0 p l e R s m args below meth c own cc nL ret nm Q pc lv st h n2 k2 sl2) : jW b D Y s0 p l e R s m args below meth c own cc nL ret nm Q pc lv st h n k sl := by
  subst h1; subst h2; subst h3; exact kk
theorem j_upx {b : Nat} {D : va_G} {Y : Nat → ClassId} {s0 : State} {p : Program} {l : Launch} {e : Env} {R : Room} {s : State} {m : MethodId} {args : Array Value} {below : List Frame} {meth : Method} {c : Code} {own : String} {cc : ByteArray} {nL : Nat} {ret : Option FieldType} {nm : String} {Q : State → Prop} {pc : Nat} {lv : List (Nat × Value)} {st : List Value} {h : jH} {n k sl a ci : Nat} {fs fs2 : List Value} (h1 : fs = fs2) (kk : jW b D Y s0 p l e R s m args below meth c own cc nL ret nm Q pc lv st (jh_up h a (.inr (ci, fs2))) n k sl) : jW b D Y s0 p l e R s m args below meth c own cc nL ret nm Q pc lv st (jh_up h a (.inr (ci, fs))) n k sl := by
  subst h1; exact kk
set_option maxHeartbeats 4000000 in
set_option maxRecDepth 100000 in
theorem k_Poly_init (l : Launch) {b : Nat} {D : va_G} {Y : Nat → ClassId} {s0 : State} (Z : jS0 b D Y s0) (a n : Nat) (h : jH) (ha : a < n) (H0 : h a = some (.inr (0, fs_Poly))) : jMet l D s0 y_Poly_init c_Poly_init 1 none 1 [.ref a] h n 1 13 (fun r h2 n2 => r = none ∧ n2 = n + 1 ∧ h2 n = some (.inl (Y 1, 13, .inr (.inl (fun _ => 0)))) ∧ h2 a = some (.inr (0, [.ref n, .int (-1)])) ∧ ∀ x, x ≠ n → x ≠ a → h2 x = h x) := by
  refine jMet_of Z (by decide) (Nat.le_of_ble_eq_true rfl) ?_
  intro p e s m below meth c
  refine j_aload_n d_Poly_init_0 0 rfl ?_
  refine j_objInit g_32 g_25 g_26 (Nat.le_of_ble_eq_true rfl) (Nat.le_of_ble_eq_true rfl) d_Poly_init_1 ?_
  refine j_aload_n d_Poly_init_4 0 rfl ?_
  refine j_bipush d_Poly_init_5 (v := 13) (by decide) ?_
  refine j_newJ (N := 13) g_56 (by decide) rfl (by decide) (by first | exact Nat.le_of_ble_eq_true rfl | (simp only [jrm]; omega)) (by first | exact Nat.le_of_ble_eq_true rfl | (simp only [jrm]; omega)) d_Poly_init_7 ?_
  refine j_putF iw_Poly t_Poly t_Poly_ok n_Poly (ci := 0) (kf := 0) rfl (by decide) g_33 rfl rfl rfl (t_Poly_ok 0 (by decide)) rfl rfl d_Poly_init_9 ((jh_up_n _ _ (by omega)).trans H0) (Nat.le_of_ble_eq_true rfl) ?_
  refine j_aload_n d_Poly_init_12 0 rfl ?_
  refine j_iconst d_Poly_init_13 (v := -1) (by decide) ?_
  refine j_put iw_Poly t_Poly t_Poly_ok n_Poly (ci := 0) (kf := 1) rfl (by decide) g_41 rfl (t_Poly_ok 1 (by decide)) rfl rfl d_Poly_init_14 (jh_up_s _ _ _) (Nat.le_of_ble_eq_true rfl) ?_
  refine j_vret rfl d_Poly_init_17 ⟨rfl, rfl, ?_, ?_, fun x h1 h2 => ?_⟩
  · exact ((jh_up_n _ _ (by omega)).trans ((jh_up_n _ _ (by omega)).trans (jh_up_s _ _ _)))
  · exact (jh_up_s _ _ _)
  · simp [jh_up, h1, h2]
set_option maxHeartbeats 4000000 in
set_option maxRecDepth 100000 in
theorem k_Divn_init (l : Launch) {b : Nat} {D : va_G} {Y : Nat → ClassId} {s0 : State} (Z : jS0 b D Y s0) (a n : Nat) (h : jH) (ha : a < n) (H0 : h a = some (.inr (2, fs_Divn))) : jMet l D s0 y_Divn_init c_Divn_init 1 none 2 [.ref a] h n 3 28 (fun r h2 n2 => r = none ∧ n2 = n + 3 ∧ h2 a = some (.inr (2, [.ref n, .ref (n + 2)])) ∧ ∀ x, x < n → x ≠ a → h2 x = h x) := by
  refine jMet_of Z (by decide) (Nat.le_of_ble_eq_true rfl) ?_
  intro p e s m below meth c
  refine j_aload_n d_Divn_init_0 0 rfl ?_
  refine j_objInit g_105 g_25 g_26 (Nat.le_of_ble_eq_true rfl) (Nat.le_of_ble_eq_true rfl) d_Divn_init_1 ?_
  refine j_aload_n d_Divn_init_4 0 rfl ?_
  refine j_new iw_Poly t_Poly t_Poly_ok (ci := 0) (fs := fs_Poly) rfl g_106 g_28 g_2 df_Poly (by first | exact Nat.le_of_ble_eq_true rfl | (simp only [jrm]; omega)) (by first | exact Nat.le_of_ble_eq_true rfl | (simp only [jrm]; omega)) d_Divn_init_5 ?_
  refine j_dup d_Divn_init_8 rfl ?_
  refine j_callI (k_Poly_init l Z n (n + 1) _ (by omega) (jh_up_s _ _ _)) ⟨⟨Nat.le_of_ble_eq_true rfl, Nat.le_of_ble_eq_true rfl⟩, g_107, g_31, g_2, by decide +kernel⟩ g_30 rfl ⟨(by first | exact Nat.le_of_ble_eq_true rfl | (simp only [jrm]; omega)), (by first | exact Nat.le_of_ble_eq_true rfl | (simp only [jrm]; omega))⟩ (Nat.le_of_ble_eq_true rfl) d_Divn_init_9 (fun r0 h0 n0 P0 => ?_)
  obtain ⟨rfl, rfl, A0, O0, F0⟩ := P0
  have E0_0 := (F0 a (by omega) (by omega)).trans ((jh_up_n _ _ (by omega)).trans H0)
  refine j_putF iw_Divn t_Divn t_Divn_ok n_Divn (ci := 2) (kf := 0) rfl (by decide) g_108 rfl rfl rfl (t_Divn_ok 0 (by decide)) rfl rfl d_Divn_init_12 E0_0 (Nat.le_of_ble_eq_true rfl) ?_
  refine j_aload_n d_Divn_init_15 0 rfl ?_
  refine j_bipush d_Divn_init_16 (v := 13) (by decide) ?_
  refine j_newJ (N := 13) g_56 (by decide) rfl (by decide) (by first | exact Nat.le_of_ble_eq_true rfl | (simp only [jrm]; omega)) (by first | exact Nat.le_of_ble_eq_true rfl | (simp only [jrm]; omega)) d_Divn_init_18 ?_
  refine j_putF iw_Divn t_Divn t_Divn_ok n_Divn (ci := 2) (kf := 1) rfl (by decide) g_110 rfl rfl rfl (t_Divn_ok 1 (by decide)) rfl rfl d_Divn_init_20 ((jh_up_n _ _ (by omega)).trans (jh_up_s _ _ _)) (Nat.le_of_ble_eq_true rfl) ?_
  refine j_vret rfl d_Divn_init_23 ⟨rfl, rfl, ?_, fun x h1 h2 => ?_⟩
  · exact (jh_up_s _ _ _)
  · exact ((jh_up_n _ _ (by omega)).trans ((jh_up_n _ _ (by omega)).trans ((jh_up_n _ _ (by omega)).trans ((F0 x (by omega) (by omega)).trans (jh_up_n _ _ (by omega))))))
set_option maxHeartbeats 4000000 in
set_option maxRecDepth 100000 in
theorem k_Resi_init (l : Launch) {b : Nat} {D : va_G} {Y : Nat → ClassId} {s0 : State} (Z : jS0 b D Y s0) (a n : Nat) (h : jH) (ha : a < n) (H0 : h a = some (.inr (3, fs_Resi))) : jMet l D s0 y_Resi_init c_Resi_init 1 none 2 [.ref a] h n 2 15 (fun r h2 n2 => r = none ∧ n2 = n + 2 ∧ h2 a = some (.inr (3, [.ref n, .long 2, .int 31, .long 2147483647, .int 1])) ∧ ∀ x, x < n → x ≠ a → h2 x = h x) := by
  refine jMet_of Z (by decide) (Nat.le_of_ble_eq_true rfl) ?_
  intro p e s m below meth c
  refine j_aload_n d_Resi_init_0 0 rfl ?_
  refine j_objInit g_121 g_25 g_26 (Nat.le_of_ble_eq_true rfl) (Nat.le_of_ble_eq_true rfl) d_Resi_init_1 ?_
  refine j_aload_n d_Resi_init_4 0 rfl ?_
  refine j_new iw_Poly t_Poly t_Poly_ok (ci := 0) (fs := fs_Poly) rfl g_122 g_28 g_2 df_Poly (by first | exact Nat.le_of_ble_eq_true rfl | (simp only [jrm]; omega)) (by first | exact Nat.le_of_ble_eq_true rfl | (simp only [jrm]; omega)) d_Resi_init_5 ?_
  refine j_dup d_Resi_init_8 rfl ?_
  refine j_callI (k_Poly_init l Z n (n + 1) _ (by omega) (jh_up_s _ _ _)) ⟨⟨Nat.le_of_ble_eq_true rfl, Nat.le_of_ble_eq_true rfl⟩, g_123, g_31, g_2, by decide +kernel⟩ g_30 rfl ⟨(by first | exact Nat.le_of_ble_eq_true rfl | (simp only [jrm]; omega)), (by first | exact Nat.le_of_ble_eq_true rfl | (simp only [jrm]; omega))⟩ (Nat.le_of_ble_eq_true rfl) d_Resi_init_9 (fun r1 h1 n1 P1 => ?_)
  obtain ⟨rfl, rfl, A1, O1, F1⟩ := P1
  have E1_0 := (F1 a (by omega) (by omega)).trans ((jh_up_n _ _ (by omega)).trans H0)
  refine j_putF iw_Resi t_Resi t_Resi_ok n_Resi (ci := 3) (kf := 0) rfl (by decide) g_126 rfl rfl rfl (t_Resi_ok 0 (by decide)) rfl rfl d_Resi_init_12 E1_0 (Nat.le_of_ble_eq_true rfl) ?_
  refine j_aload_n d_Resi_init_15 0 rfl ?_
  refine j_ldc2 g_124 d_Resi_init_16 ?_
  refine j_put iw_Resi t_Resi t_Resi_ok n_Resi (ci := 3) (kf := 1) rfl (by decide) g_129 rfl (t_Resi_ok 1 (by decide)) rfl rfl d_Resi_init_19 (jh_up_s _ _ _) (Nat.le_of_ble_eq_true rfl) ?_
  refine j_aload_n d_Resi_init_22 0 rfl ?_
  refine j_bipush d_Resi_init_23 (v := 31) (by decide) ?_
  refine j_put iw_Resi t_Resi t_Resi_ok n_Resi (ci := 3) (kf := 2) rfl (by decide) g_130 rfl (t_Resi_ok 2 (by decide)) rfl rfl d_Resi_init_25 (jh_up_s _ _ _) (Nat.le_of_ble_eq_true rfl) ?_
  refine j_aload_n d_Resi_init_28 0 rfl ?_
  refine j_ldc2 g_125 d_Resi_init_29 ?_
  refine j_put iw_Resi t_Resi t_Resi_ok n_Resi (ci := 3) (kf := 3) rfl (by decide) g_131 rfl (t_Resi_ok 3 (by decide)) rfl rfl d_Resi_init_32 (jh_up_s _ _ _) (Nat.le_of_ble_eq_true rfl) ?_
  refine j_aload_n d_Resi_init_35 0 rfl ?_
  refine j_iconst d_Resi_init_36 (v := 1) (by decide) ?_
  refine j_put iw_Resi t_Resi t_Resi_ok n_Resi (ci := 3) (kf := 4) rfl (by decide) g_132 rfl (t_Resi_ok 4 (by decide)) rfl rfl d_Resi_init_37 (jh_up_s _ _ _) (Nat.le_of_ble_eq_true rfl) ?_
  refine j_vret rfl d_Resi_init_40 ⟨rfl, rfl, ?_, fun x h1 h2 => ?_⟩
  · exact (jh_up_s _ _ _)
  · exact ((jh_up_n _ _ (by omega)).trans ((jh_up_n _ _ (by omega)).trans ((jh_up_n _ _ (by omega)).trans ((jh_up_n _ _ (by omega)).trans ((jh_up_n _ _ (by omega)).trans ((F1 x (by omega) (by omega)).trans (jh_up_n _ _ (by omega))))))))
set_option maxHeartbeats 4000000 in
set_option maxRecDepth 100000 in
theorem k_CDiv_init (l : Launch) {b : Nat} {D : va_G} {Y : Nat → ClassId} {s0 : State} (Z : jS0 b D Y s0) (a n : Nat) (h : jH) (ha : a < n) (H0 : h a = some (.inr (4, fs_CDiv))) : jMet l D s0 y_CDiv_init c_CDiv_init 1 none 3 [.ref a] h n 17 125 (fun r h2 n2 => r = none ∧ n2 = n + 17 ∧ h2 a = some (.inr (4, [.ref (n + 7), .ref n, .ref (n + 4), .ref (n + 9), .ref (n + 11), .ref (n + 13), .ref (n + 15)])) ∧ ∀ x, x < n → x ≠ a → h2 x = h x) := by
  refine jMet_of Z (by decide) (Nat.le_of_ble_eq_true rfl) ?_
  intro p e s m below meth c
  refine j_aload_n d_CDiv_init_0 0 rfl ?_
  refine j_objInit g_99 g_25 g_26 (Nat.le_of_ble_eq_true rfl) (Nat.le_of_ble_eq_true rfl) d_CDiv_init_1 ?_
  refine j_aload_n d_CDiv_init_4 0 rfl ?_
  refine j_new iw_Divn t_Divn t_Divn_ok (ci := 2) (fs := fs_Divn) rfl g_100 g_101 g_6 df_Divn (by first | exact Nat.le_of_ble_eq_true rfl | (simp only [jrm]; omega)) (by first | exact Nat.le_of_ble_eq_true rfl | (simp only [jrm]; omega)) d_CDiv_init_5 ?_
  refine j_dup d_CDiv_init_8 rfl ?_
  refine j_callI (k_Divn_init l Z n (n + 1) _ (by omega) (jh_up_s _ _ _)) ⟨⟨Nat.le_of_ble_eq_true rfl, Nat.le_of_ble_eq_true rfl⟩, g_102, g_104, g_6, by decide +kernel⟩ g_103 rfl ⟨(by first | exact Nat.le_of_ble_eq_true rfl | (simp only [jrm]; omega)), (by first | exact Nat.le_of_ble_eq_true rfl | (simp only [jrm]; omega))⟩ (Nat.le_of_ble_eq_true rfl) d_CDiv_init_9 (fun r2 h2 n2 P2 => ?_)
  obtain ⟨rfl, rfl, O2, F2⟩ := P2
  have E2_0 := (F2 a (by omega) (by omega)).trans ((jh_up_n _ _ (by omega)).trans H0)
  refine j_putF iw_CDiv t_CDiv t_CDiv_ok n_CDiv (ci := 4) (kf := 1) rfl (by decide) g_149 rfl rfl rfl (t_CDiv_ok 1 (by decide)) rfl rfl d_CDiv_init_12 E2_0 (Nat.le_of_ble_eq_true rfl) ?_
  refine j_aload_n d_CDiv_init_15 0 rfl ?_
  refine j_new iw_Resi t_Resi t_Resi_ok (ci := 3) (fs := fs_Resi) rfl g_116 g_117 g_7 df_Resi (by first | exact Nat.le_of_ble_eq_true rfl | (simp only [jrm]; omega)) (by first | exact Nat.le_of_ble_eq_true rfl | (simp only [jrm]; omega)) d_CDiv_init_16 ?_
  refine j_dup d_CDiv_init_19 rfl ?_
  refine j_callI (k_Resi_init l Z (n + 4) (n + 5) _ (by omega) (jh_up_s _ _ _)) ⟨⟨Nat.le_of_ble_eq_true rfl, Nat.le_of_ble_eq_true rfl⟩, g_118, g_120, g_7, by decide +kernel⟩ g_119 rfl ⟨(by first | exact Nat.le_of_ble_eq_true rfl | (simp only [jrm]; omega)), (by first | exact Nat.le_of_ble_eq_true rfl | (simp only [jrm]; omega))⟩ (Nat.le_of_ble_eq_true rfl) d_CDiv_init_20 (fun r3 h3 n3 P3 => ?_)
  obtain ⟨rfl, rfl, O3, F3⟩ := P3
  have E3_0 := (F3 a (by omega) (by omega)).trans ((jh_up_n _ _ (by omega)).trans (jh_up_s _ _ _))
  refine j_putF iw_CDiv t_CDiv t_CDiv_ok n_CDiv (ci := 4) (kf := 2) rfl (by decide) g_151 rfl rfl rfl (t_CDiv_ok 2 (by decide)) rfl rfl d_CDiv_init_23 E3_0 (Nat.le_of_ble_eq_true rfl) ?_
  refine j_aload_n d_CDiv_init_26 0 rfl ?_
  refine j_new iw_Poly t_Poly t_Poly_ok (ci := 0) (fs := fs_Poly) rfl g_144 g_28 g_2 df_Poly (by first | exact Nat.le_of_ble_eq_true rfl | (simp only [jrm]; omega)) (by first | exact Nat.le_of_ble_eq_true rfl | (simp only [jrm]; omega)) d_CDiv_init_27 ?_
  refine j_dup d_CDiv_init_30 rfl ?_
  refine j_callI (k_Poly_init l Z (n + 7) (n + 8) _ (by omega) (jh_up_s _ _ _)) ⟨⟨Nat.le_of_ble_eq_true rfl, Nat.le_of_ble_eq_true rfl⟩, g_145, g_31, g_2, by decide +kernel⟩ g_30 rfl ⟨(by first | exact Nat.le_of_ble_eq_true rfl | (simp only [jrm]; omega)), (by first | exact Nat.le_of_ble_eq_true rfl | (simp only [jrm]; omega))⟩ (Nat.le_of_ble_eq_true rfl) d_CDiv_init_31 (fun r4 h4 n4 P4 => ?_)
  obtain ⟨rfl, rfl, A4, O4, F4⟩ := P4
  have E4_0 := (F4 a (by omega) (by omega)).trans ((jh_up_n _ _ (by omega)).trans (jh_up_s _ _ _))
  refine j_putF iw_CDiv t_CDiv t_CDiv_ok n_CDiv (ci := 4) (kf := 0) rfl (by decide) g_146 rfl rfl rfl (t_CDiv_ok 0 (by decide)) rfl rfl d_CDiv_init_34 E4_0 (Nat.le_of_ble_eq_true rfl) ?_
  refine j_aload_n d_CDiv_init_37 0 rfl ?_
  refine j_new iw_Poly t_Poly t_Poly_ok (ci := 0) (fs := fs_Poly) rfl g_144 g_28 g_2 df_Poly (by first | exact Nat.le_of_ble_eq_true rfl | (simp only [jrm]; omega)) (by first | exact Nat.le_of_ble_eq_true rfl | (simp only [jrm]; omega)) d_CDiv_init_38 ?_
  refine j_dup d_CDiv_init_41 rfl ?_
  refine j_callI (k_Poly_init l Z (n + 9) (n + 10) _ (by omega) (jh_up_s _ _ _)) ⟨⟨Nat.le_of_ble_eq_true rfl, Nat.le_of_ble_eq_true rfl⟩, g_145, g_31, g_2, by decide +kernel⟩ g_30 rfl ⟨(by first | exact Nat.le_of_ble_eq_true rfl | (simp only [jrm]; omega)), (by first | exact Nat.le_of_ble_eq_true rfl | (simp only [jrm]; omega))⟩ (Nat.le_of_ble_eq_true rfl) d_CDiv_init_42 (fun r5 h5 n5 P5 => ?_)
  obtain ⟨rfl, rfl, A5, O5, F5⟩ := P5
  have E5_0 := (F5 a (by omega) (by omega)).trans ((jh_up_n _ _ (by omega)).trans (jh_up_s _ _ _))
  refine j_putF iw_CDiv t_CDiv t_CDiv_ok n_CDiv (ci := 4) (kf := 3) rfl (by decide) g_152 rfl rfl rfl (t_CDiv_ok 3 (by decide)) rfl rfl d_CDiv_init_45 E5_0 (Nat.le_of_ble_eq_true rfl) ?_
  refine j_aload_n d_CDiv_init_48 0 rfl ?_
  refine j_new iw_Poly t_Poly t_Poly_ok (ci := 0) (fs := fs_Poly) rfl g_144 g_28 g_2 df_Poly (by first | exact Nat.le_of_ble_eq_true rfl | (simp only [jrm]; omega)) (by first | exact Nat.le_of_ble_eq_true rfl | (simp only [jrm]; omega)) d_CDiv_init_49 ?_
  refine j_dup d_CDiv_init_52 rfl ?_
  refine j_callI (k_Poly_init l Z (n + 11) (n + 12) _ (by omega) (jh_up_s _ _ _)) ⟨⟨Nat.le_of_ble_eq_true rfl, Nat.le_of_ble_eq_true rfl⟩, g_145, g_31, g_2, by decide +kernel⟩ g_30 rfl ⟨(by first | exact Nat.le_of_ble_eq_true rfl | (simp only [jrm]; omega)), (by first | exact Nat.le_of_ble_eq_true rfl | (simp only [jrm]; omega))⟩ (Nat.le_of_ble_eq_true rfl) d_CDiv_init_53 (fun r6 h6 n6 P6 => ?_)
  obtain ⟨rfl, rfl, A6, O6, F6⟩ := P6
  have E6_0 := (F6 a (by omega) (by omega)).trans ((jh_up_n _ _ (by omega)).trans (jh_up_s _ _ _))
  refine j_putF iw_CDiv t_CDiv t_CDiv_ok n_CDiv (ci := 4) (kf := 4) rfl (by decide) g_153 rfl rfl rfl (t_CDiv_ok 4 (by decide)) rfl rfl d_CDiv_init_56 E6_0 (Nat.le_of_ble_eq_true rfl) ?_
  refine j_aload_n d_CDiv_init_59 0 rfl ?_
  refine j_new iw_Poly t_Poly t_Poly_ok (ci := 0) (fs := fs_Poly) rfl g_144 g_28 g_2 df_Poly (by first | exact Nat.le_of_ble_eq_true rfl | (simp only [jrm]; omega)) (by first | exact Nat.le_of_ble_eq_true rfl | (simp only [jrm]; omega)) d_CDiv_init_60 ?_
  refine j_dup d_CDiv_init_63 rfl ?_
  refine j_callI (k_Poly_init l Z (n + 13) (n + 14) _ (by omega) (jh_up_s _ _ _)) ⟨⟨Nat.le_of_ble_eq_true rfl, Nat.le_of_ble_eq_true rfl⟩, g_145, g_31, g_2, by decide +kernel⟩ g_30 rfl ⟨(by first | exact Nat.le_of_ble_eq_true rfl | (simp only [jrm]; omega)), (by first | exact Nat.le_of_ble_eq_true rfl | (simp only [jrm]; omega))⟩ (Nat.le_of_ble_eq_true rfl) d_CDiv_init_64 (fun r7 h7 n7 P7 => ?_)
  obtain ⟨rfl, rfl, A7, O7, F7⟩ := P7
  have E7_0 := (F7 a (by omega) (by omega)).trans ((jh_up_n _ _ (by omega)).trans (jh_up_s _ _ _))
  refine j_putF iw_CDiv t_CDiv t_CDiv_ok n_CDiv (ci := 4) (kf := 5) rfl (by decide) g_154 rfl rfl rfl (t_CDiv_ok 5 (by decide)) rfl rfl d_CDiv_init_67 E7_0 (Nat.le_of_ble_eq_true rfl) ?_
  refine j_aload_n d_CDiv_init_70 0 rfl ?_
  refine j_new iw_Poly t_Poly t_Poly_ok (ci := 0) (fs := fs_Poly) rfl g_144 g_28 g_2 df_Poly (by first | exact Nat.le_of_ble_eq_true rfl | (simp only [jrm]; omega)) (by first | exact Nat.le_of_ble_eq_true rfl | (simp only [jrm]; omega)) d_CDiv_init_71 ?_
  refine j_dup d_CDiv_init_74 rfl ?_
  refine j_callI (k_Poly_init l Z (n + 15) (n + 16) _ (by omega) (jh_up_s _ _ _)) ⟨⟨Nat.le_of_ble_eq_true rfl, Nat.le_of_ble_eq_true rfl⟩, g_145, g_31, g_2, by decide +kernel⟩ g_30 rfl ⟨(by first | exact Nat.le_of_ble_eq_true rfl | (simp only [jrm]; omega)), (by first | exact Nat.le_of_ble_eq_true rfl | (simp only [jrm]; omega))⟩ (Nat.le_of_ble_eq_true rfl) d_CDiv_init_75 (fun r8 h8 n8 P8 => ?_)
  obtain ⟨rfl, rfl, A8, O8, F8⟩ := P8
  have E8_0 := (F8 a (by omega) (by omega)).trans ((jh_up_n _ _ (by omega)).trans (jh_up_s _ _ _))
  refine j_putF iw_CDiv t_CDiv t_CDiv_ok n_CDiv (ci := 4) (kf := 6) rfl (by decide) g_155 rfl rfl rfl (t_CDiv_ok 6 (by decide)) rfl rfl d_CDiv_init_78 E8_0 (Nat.le_of_ble_eq_true rfl) ?_
  refine j_vret rfl d_CDiv_init_81 ⟨rfl, rfl, ?_, fun x h1 h2 => ?_⟩
  · exact (jh_up_s _ _ _)
  · exact ((jh_up_n _ _ (by omega)).trans ((F8 x (by omega) (by omega)).trans ((jh_up_n _ _ (by omega)).trans ((jh_up_n _ _ (by omega)).trans ((F7 x (by omega) (by omega)).trans ((jh_up_n _ _ (by omega)).trans ((jh_up_n _ _ (by omega)).trans ((F6 x (by omega) (by omega)).trans ((jh_up_n _ _ (by omega)).trans ((jh_up_n _ _ (by omega)).trans ((F5 x (by omega) (by omega)).trans ((jh_up_n _ _ (by omega)).trans ((jh_up_n _ _ (by omega)).trans ((F4 x (by omega) (by omega)).trans ((jh_up_n _ _ (by omega)).trans ((jh_up_n _ _ (by omega)).trans ((F3 x (by omega) (by omega)).trans ((jh_up_n _ _ (by omega)).trans ((jh_up_n _ _ (by omega)).trans ((F2 x (by omega) (by omega)).trans (jh_up_n _ _ (by omega))))))))))))))))))))))
set_option maxHeartbeats 4000000 in
set_option maxRecDepth 100000 in
theorem k_FList_loop (l : Launch) {b : Nat} {D : va_G} {Y : Nat → ClassId} {s0 : State} (Z : jS0 b D Y s0) {p : Program} {e : Env} {s : State} {m : MethodId} {below : List Frame} {meth : Method} {c : Code} {Q : State → Prop} {mc ms : Nat} (a q0 n k0 sl0 : Nat) (fs : List Value) (hb : jH) (ha : a < n) (hq0 : q0 < n) (haq0 : a ≠ q0) (hf0 : fs[0]? = some (.ref q0)) (hmc : k0 + 24 ≤ mc) (hms : sl0 + 180 ≤ ms)
    (hx : ∀ (h2 : jH) (f0 : Nat → Option Nat), h2 a = some (.inr (1, fs)) → h2 q0 = some (.inl (Y 3, 12, .inr (.inr (.inr (.inr f0))))) → (∀ x, x < n → x ≠ q0 → h2 x = hb x) → jW b D Y s0 p l e (jrm 2 mc ms) s m [Value.ref a].toArray below meth c y_FList_init.cls c_FList_init 2 none y_FList_init.name Q 40 [(1, .int 12), (0, .ref a)] [] h2 (n + 24) (k0 + 24) (sl0 + 180)) :
    ∀ (j i : Nat), i + j = 12 → ∀ (h : jH) (f0 : Nat → Option Nat), h a = some (.inr (1, fs)) → h q0 = some (.inl (Y 3, 12, .inr (.inr (.inr (.inr f0))))) → (∀ x, x < n → x ≠ q0 → h x = hb x) → jW b D Y s0 p l e (jrm 2 mc ms) s m [Value.ref a].toArray below meth c y_FList_init.cls c_FList_init 2 none y_FList_init.name Q 15 [(1, .int (nI i)), (0, .ref a)] [] h (n + 2 * i) (k0 + 2 * i) (sl0 + 15 * i) := by
  intro j
  induction j with
  | zero =>
    intro i hi h f0 H0 H1 HF
    obtain rfl : i = 12 := by omega
    refine j_iload_n d_FList_init_15 0 rfl ?_
    refine j_bipush d_FList_init_16 (v := 12) (by decide) ?_
    refine j_icmp_ge_t (tgt := 40) d_FList_init_18 (by decide) (by decide) ?_
    exact hx h f0 H0 H1 HF
  | succ j ih =>
    intro i hi h f0 H0 H1 HF
    have hi12 : i < 12 := by omega
    refine j_iload_n d_FList_init_15 0 rfl ?_
    refine j_bipush d_FList_init_16 (v := 12) (by decide) ?_
    refine j_icmp_ge_f d_FList_init_18 (tgt := 40) (by decide) (nI_ge (b := 12) hi12 (by decide)) ?_
    refine j_aload_n d_FList_init_21 1 rfl ?_
    refine j_get iw_FList (ci := 1) (kf := 0) rfl (by decide) g_70 d_FList_init_22 H0 hf0 ?_
    refine j_iload_n d_FList_init_25 0 rfl ?_
    refine j_new iw_Poly t_Poly t_Poly_ok (ci := 0) (fs := fs_Poly) rfl g_67 g_28 g_2 df_Poly (by first | exact Nat.le_of_ble_eq_true rfl | (simp only [jrm]; omega)) (by first | exact Nat.le_of_ble_eq_true rfl | (simp only [jrm]; omega)) d_FList_init_26 ?_
    refine j_dup d_FList_init_29 rfl ?_
    refine j_callI (k_Poly_init l Z (n + 2 * i) ((n + 2 * i) + 1) _ (by omega) (jh_up_s _ _ _)) ⟨⟨Nat.le_of_ble_eq_true rfl, Nat.le_of_ble_eq_true rfl⟩, g_69, g_31, g_2, by decide +kernel⟩ g_30 rfl ⟨(by first | exact Nat.le_of_ble_eq_true rfl | (simp only [jrm]; omega)), (by first | exact Nat.le_of_ble_eq_true rfl | (simp only [jrm]; omega))⟩ (Nat.le_of_ble_eq_true rfl) d_FList_init_30 (fun r9 h9 n9 P9 => ?_)
    obtain ⟨rfl, rfl, A9, O9, F9⟩ := P9
    have E9_0 := (F9 a (by omega) (by omega)).trans ((jh_up_n _ _ (by omega)).trans H0)
    have E9_1 := (F9 q0 (by omega) (by omega)).trans ((jh_up_n _ _ (by omega)).trans H1)
    refine j_aast d_FList_init_33 E9_1 (nI_in hi12 (by omega)) O9 rfl ?_
    refine j_iinc d_FList_init_34 0 rfl (v := nI (i + 1)) (nI_1 i) (Nat.le_of_ble_eq_true rfl) rfl ?_
    refine j_goto (tgt := 15) d_FList_init_37 (by decide) ?_
    refine j_nks (n + 2 * (i + 1)) (k0 + 2 * (i + 1)) (sl0 + 15 * (i + 1)) (by omega) (by omega) (by omega) ?_
    exact ih (i + 1) (by omega) _ _ ((jh_up_n _ _ (by omega)).trans E9_0) (jh_up_s _ _ _) (fun x h0x h1x => ((jh_up_n _ _ (by omega)).trans ((F9 x (by omega) (by omega)).trans (jh_up_n _ _ (by omega)))).trans (HF x h0x h1x))
set_option maxHeartbeats 4000000 in
set_option maxRecDepth 100000 in
theorem k_FList_init (l : Launch) {b : Nat} {D : va_G} {Y : Nat → ClassId} {s0 : State} (Z : jS0 b D Y s0) (a n : Nat) (h : jH) (ha : a < n) (H0 : h a = some (.inr (1, fs_FList))) : jMet l D s0 y_FList_init c_FList_init 2 none 2 [.ref a] h n 26 204 (fun r h2 n2 => r = none ∧ n2 = n + 26 ∧ h2 a = some (.inr (1, [.ref n, .ref (n + 25), .int 0])) ∧ ∀ x, x < n → x ≠ a → h2 x = h x) := by
  refine jMet_of Z (by decide) (Nat.le_of_ble_eq_true rfl) ?_
  intro p e s m below meth c
  refine j_aload_n d_FList_init_0 0 rfl ?_
  refine j_objInit g_66 g_25 g_26 (Nat.le_of_ble_eq_true rfl) (Nat.le_of_ble_eq_true rfl) d_FList_init_1 ?_
  refine j_aload_n d_FList_init_4 0 rfl ?_
  refine j_bipush d_FList_init_5 (v := 12) (by decide) ?_
  refine j_newP (N := 12) g_67 (List.mem_of_getElem? (i := 133) (by decide +kernel)) (by decide) rfl (by decide) (by first | exact Nat.le_of_ble_eq_true rfl | (simp only [jrm]; omega)) (by first | exact Nat.le_of_ble_eq_true rfl | (simp only [jrm]; omega)) d_FList_init_7 ?_
  refine j_putF iw_FList t_FList t_FList_ok n_FList (ci := 1) (kf := 0) rfl (by decide) g_70 rfl rfl rfl (t_FList_ok 0 (by decide)) rfl rfl d_FList_init_10 ((jh_up_n _ _ (by omega)).trans H0) (Nat.le_of_ble_eq_true rfl) ?_
  refine j_iconst d_FList_init_13 (v := 0) (by decide) ?_
  refine j_istore_n d_FList_init_14 (Nat.le_of_ble_eq_true rfl) rfl ?_
  refine j_nks ((n + 1) + 2 * 0) (1 + 2 * 0) (12 + 15 * 0) (by omega) (by omega) (by omega) ?_
  refine k_FList_loop l Z a n (n + 1) 1 12 [.ref n, .null, .int 0] _ (by omega) (by omega) (by omega) rfl (Nat.le_of_ble_eq_true rfl) (Nat.le_of_ble_eq_true rfl) (fun hy fy_0 Ay By_0 Gy => ?_) 12 0 rfl _ _ (jh_up_s _ _ _) ((jh_up_n _ _ (by omega)).trans (jh_up_s _ _ _)) (fun x _ _ => rfl)
  refine j_aload_n d_FList_init_40 1 rfl ?_
  refine j_bipush d_FList_init_41 (v := 12) (by decide) ?_
  refine j_newI (N := 12) g_55 (by decide) rfl (by decide) (by first | exact Nat.le_of_ble_eq_true rfl | (simp only [jrm]; omega)) (by first | exact Nat.le_of_ble_eq_true rfl | (simp only [jrm]; omega)) d_FList_init_43 ?_
  refine j_putF iw_FList t_FList t_FList_ok n_FList (ci := 1) (kf := 1) rfl (by decide) g_73 rfl rfl rfl (t_FList_ok 1 (by decide)) rfl rfl d_FList_init_45 ((jh_up_n _ _ (by omega)).trans Ay) (Nat.le_of_ble_eq_true rfl) ?_
  refine j_aload_n d_FList_init_48 1 rfl ?_
  refine j_iconst d_FList_init_49 (v := 0) (by decide) ?_
  refine j_put iw_FList t_FList t_FList_ok n_FList (ci := 1) (kf := 2) rfl (by decide) g_76 rfl (t_FList_ok 2 (by decide)) rfl rfl d_FList_init_50 (jh_up_s _ _ _) (Nat.le_of_ble_eq_true rfl) ?_
  refine j_vret rfl d_FList_init_53 ⟨rfl, rfl, ?_, fun x h1 h2 => ?_⟩
  · exact (jh_up_s _ _ _)
  · exact ((jh_up_n _ _ (by omega)).trans ((jh_up_n _ _ (by omega)).trans ((jh_up_n _ _ (by omega)).trans ((Gy x (by omega) (by omega)).trans ((jh_up_n _ _ (by omega)).trans (jh_up_n _ _ (by omega)))))))
set_option maxHeartbeats 4000000 in
set_option maxRecDepth 100000 in
theorem k_MSpl_loop (l : Launch) {b : Nat} {D : va_G} {Y : Nat → ClassId} {s0 : State} (Z : jS0 b D Y s0) {p : Program} {e : Env} {s : State} {m : MethodId} {below : List Frame} {meth : Method} {c : Code} {Q : State → Prop} {mc ms : Nat} (a q0 n k0 sl0 : Nat) (fs : List Value) (hb : jH) (ha : a < n) (hq0 : q0 < n) (haq0 : a ≠ q0) (hf0 : fs[1]? = some (.ref q0)) (hmc : k0 + 24 ≤ mc) (hms : sl0 + 180 ≤ ms)
    (hx : ∀ (h2 : jH) (f0 : Nat → Option Nat), h2 a = some (.inr (5, fs)) → h2 q0 = some (.inl (Y 3, 12, .inr (.inr (.inr (.inr f0))))) → (∀ x, x < n → x ≠ q0 → h2 x = hb x) → jW b D Y s0 p l e (jrm 3 mc ms) s m [Value.ref a].toArray below meth c y_MSpl_init.cls c_MSpl_init 2 none y_MSpl_init.name Q 51 [(1, .int 12), (0, .ref a)] [] h2 (n + 24) (k0 + 24) (sl0 + 180)) :
    ∀ (j i : Nat), i + j = 12 → ∀ (h : jH) (f0 : Nat → Option Nat), h a = some (.inr (5, fs)) → h q0 = some (.inl (Y 3, 12, .inr (.inr (.inr (.inr f0))))) → (∀ x, x < n → x ≠ q0 → h x = hb x) → jW b D Y s0 p l e (jrm 3 mc ms) s m [Value.ref a].toArray below meth c y_MSpl_init.cls c_MSpl_init 2 none y_MSpl_init.name Q 26 [(1, .int (nI i)), (0, .ref a)] [] h (n + 2 * i) (k0 + 2 * i) (sl0 + 15 * i) := by
  intro j
  induction j with
  | zero =>
    intro i hi h f0 H0 H1 HF
    obtain rfl : i = 12 := by omega
    refine j_iload_n d_MSpl_init_26 0 rfl ?_
    refine j_bipush d_MSpl_init_27 (v := 12) (by decide) ?_
    refine j_icmp_ge_t (tgt := 51) d_MSpl_init_29 (by decide) (by decide) ?_
    exact hx h f0 H0 H1 HF
  | succ j ih =>
    intro i hi h f0 H0 H1 HF
    have hi12 : i < 12 := by omega
    refine j_iload_n d_MSpl_init_26 0 rfl ?_
    refine j_bipush d_MSpl_init_27 (v := 12) (by decide) ?_
    refine j_icmp_ge_f d_MSpl_init_29 (tgt := 51) (by decide) (nI_ge (b := 12) hi12 (by decide)) ?_
    refine j_aload_n d_MSpl_init_32 1 rfl ?_
    refine j_get iw_MSpl (ci := 5) (kf := 1) rfl (by decide) g_191 d_MSpl_init_33 H0 hf0 ?_
    refine j_iload_n d_MSpl_init_36 0 rfl ?_
    refine j_new iw_Poly t_Poly t_Poly_ok (ci := 0) (fs := fs_Poly) rfl g_185 g_28 g_2 df_Poly (by first | exact Nat.le_of_ble_eq_true rfl | (simp only [jrm]; omega)) (by first | exact Nat.le_of_ble_eq_true rfl | (simp only [jrm]; omega)) d_MSpl_init_37 ?_
    refine j_dup d_MSpl_init_40 rfl ?_
    refine j_callI (k_Poly_init l Z (n + 2 * i) ((n + 2 * i) + 1) _ (by omega) (jh_up_s _ _ _)) ⟨⟨Nat.le_of_ble_eq_true rfl, Nat.le_of_ble_eq_true rfl⟩, g_186, g_31, g_2, by decide +kernel⟩ g_30 rfl ⟨(by first | exact Nat.le_of_ble_eq_true rfl | (simp only [jrm]; omega)), (by first | exact Nat.le_of_ble_eq_true rfl | (simp only [jrm]; omega))⟩ (Nat.le_of_ble_eq_true rfl) d_MSpl_init_41 (fun r10 h10 n10 P10 => ?_)
    obtain ⟨rfl, rfl, A10, O10, F10⟩ := P10
    have E10_0 := (F10 a (by omega) (by omega)).trans ((jh_up_n _ _ (by omega)).trans H0)
    have E10_1 := (F10 q0 (by omega) (by omega)).trans ((jh_up_n _ _ (by omega)).trans H1)
    refine j_aast d_MSpl_init_44 E10_1 (nI_in hi12 (by omega)) O10 rfl ?_
    refine j_iinc d_MSpl_init_45 0 rfl (v := nI (i + 1)) (nI_1 i) (Nat.le_of_ble_eq_true rfl) rfl ?_
    refine j_goto (tgt := 26) d_MSpl_init_48 (by decide) ?_
    refine j_nks (n + 2 * (i + 1)) (k0 + 2 * (i + 1)) (sl0 + 15 * (i + 1)) (by omega) (by omega) (by omega) ?_
    exact ih (i + 1) (by omega) _ _ ((jh_up_n _ _ (by omega)).trans E10_0) (jh_up_s _ _ _) (fun x h0x h1x => ((jh_up_n _ _ (by omega)).trans ((F10 x (by omega) (by omega)).trans (jh_up_n _ _ (by omega)))).trans (HF x h0x h1x))
set_option maxHeartbeats 4000000 in
set_option maxRecDepth 100000 in
theorem k_MSpl_init (l : Launch) {b : Nat} {D : va_G} {Y : Nat → ClassId} {s0 : State} (Z : jS0 b D Y s0) (a n : Nat) (h : jH) (ha : a < n) (H0 : h a = some (.inr (5, fs_MSpl))) : jMet l D s0 y_MSpl_init c_MSpl_init 2 none 3 [.ref a] h n 50 440 (fun r h2 n2 => r = none ∧ n2 = n + 50 ∧ h2 a = some (.inr (5, [.ref n, .ref (n + 3), .ref (n + 28), .int 0, .int 0, .int 0, .ref (n + 30), .ref (n + 43), .ref (n + 44), .ref (n + 46), .ref (n + 48)])) ∧ ∀ x, x < n → x ≠ a → h2 x = h x) := by
  refine jMet_of Z (by decide) (Nat.le_of_ble_eq_true rfl) ?_
  intro p e s m below meth c
  refine j_aload_n d_MSpl_init_0 0 rfl ?_
  refine j_objInit g_182 g_25 g_26 (Nat.le_of_ble_eq_true rfl) (Nat.le_of_ble_eq_true rfl) d_MSpl_init_1 ?_
  refine j_aload_n d_MSpl_init_4 0 rfl ?_
  refine j_new iw_Resi t_Resi t_Resi_ok (ci := 3) (fs := fs_Resi) rfl g_183 g_117 g_7 df_Resi (by first | exact Nat.le_of_ble_eq_true rfl | (simp only [jrm]; omega)) (by first | exact Nat.le_of_ble_eq_true rfl | (simp only [jrm]; omega)) d_MSpl_init_5 ?_
  refine j_dup d_MSpl_init_8 rfl ?_
  refine j_callI (k_Resi_init l Z n (n + 1) _ (by omega) (jh_up_s _ _ _)) ⟨⟨Nat.le_of_ble_eq_true rfl, Nat.le_of_ble_eq_true rfl⟩, g_184, g_120, g_7, by decide +kernel⟩ g_119 rfl ⟨(by first | exact Nat.le_of_ble_eq_true rfl | (simp only [jrm]; omega)), (by first | exact Nat.le_of_ble_eq_true rfl | (simp only [jrm]; omega))⟩ (Nat.le_of_ble_eq_true rfl) d_MSpl_init_9 (fun r11 h11 n11 P11 => ?_)
  obtain ⟨rfl, rfl, O11, F11⟩ := P11
  have E11_0 := (F11 a (by omega) (by omega)).trans ((jh_up_n _ _ (by omega)).trans H0)
  refine j_putF iw_MSpl t_MSpl t_MSpl_ok n_MSpl (ci := 5) (kf := 0) rfl (by decide) g_189 rfl rfl rfl (t_MSpl_ok 0 (by decide)) rfl rfl d_MSpl_init_12 E11_0 (Nat.le_of_ble_eq_true rfl) ?_
  refine j_aload_n d_MSpl_init_15 0 rfl ?_
  refine j_bipush d_MSpl_init_16 (v := 12) (by decide) ?_
  refine j_newP (N := 12) g_185 (List.mem_of_getElem? (i := 133) (by decide +kernel)) (by decide) rfl (by decide) (by first | exact Nat.le_of_ble_eq_true rfl | (simp only [jrm]; omega)) (by first | exact Nat.le_of_ble_eq_true rfl | (simp only [jrm]; omega)) d_MSpl_init_18 ?_
  refine j_putF iw_MSpl t_MSpl t_MSpl_ok n_MSpl (ci := 5) (kf := 1) rfl (by decide) g_191 rfl rfl rfl (t_MSpl_ok 1 (by decide)) rfl rfl d_MSpl_init_21 ((jh_up_n _ _ (by omega)).trans (jh_up_s _ _ _)) (Nat.le_of_ble_eq_true rfl) ?_
  refine j_iconst d_MSpl_init_24 (v := 0) (by decide) ?_
  refine j_istore_n d_MSpl_init_25 (Nat.le_of_ble_eq_true rfl) rfl ?_
  refine j_nks ((n + 4) + 2 * 0) (4 + 2 * 0) (32 + 15 * 0) (by omega) (by omega) (by omega) ?_
  refine k_MSpl_loop l Z a (n + 3) (n + 4) 4 32 [.ref n, .ref (n + 3), .null, .int 0, .int 0, .int 0, .null, .null, .null, .null, .null] _ (by omega) (by omega) (by omega) rfl (Nat.le_of_ble_eq_true rfl) (Nat.le_of_ble_eq_true rfl) (fun hy fy_0 Ay By_0 Gy => ?_) 12 0 rfl _ _ (jh_up_s _ _ _) ((jh_up_n _ _ (by omega)).trans (jh_up_s _ _ _)) (fun x _ _ => rfl)
  refine j_aload_n d_MSpl_init_51 1 rfl ?_
  refine j_new iw_Poly t_Poly t_Poly_ok (ci := 0) (fs := fs_Poly) rfl g_185 g_28 g_2 df_Poly (by first | exact Nat.le_of_ble_eq_true rfl | (simp only [jrm]; omega)) (by first | exact Nat.le_of_ble_eq_true rfl | (simp only [jrm]; omega)) d_MSpl_init_52 ?_
  refine j_dup d_MSpl_init_55 rfl ?_
  refine j_callI (k_Poly_init l Z (n + 28) (n + 29) _ (by omega) (jh_up_s _ _ _)) ⟨⟨Nat.le_of_ble_eq_true rfl, Nat.le_of_ble_eq_true rfl⟩, g_186, g_31, g_2, by decide +kernel⟩ g_30 rfl ⟨(by first | exact Nat.le_of_ble_eq_true rfl | (simp only [jrm]; omega)), (by first | exact Nat.le_of_ble_eq_true rfl | (simp only [jrm]; omega))⟩ (Nat.le_of_ble_eq_true rfl) d_MSpl_init_56 (fun r12 h12 n12 P12 => ?_)
  obtain ⟨rfl, rfl, A12, O12, F12⟩ := P12
  have E12_0 := (F12 a (by omega) (by omega)).trans ((jh_up_n _ _ (by omega)).trans Ay)
  refine j_putF iw_MSpl t_MSpl t_MSpl_ok n_MSpl (ci := 5) (kf := 2) rfl (by decide) g_194 rfl rfl rfl (t_MSpl_ok 2 (by decide)) rfl rfl d_MSpl_init_59 E12_0 (Nat.le_of_ble_eq_true rfl) ?_
  refine j_aload_n d_MSpl_init_62 1 rfl ?_
  refine j_bipush d_MSpl_init_63 (v := 12) (by decide) ?_
  refine j_bipush d_MSpl_init_65 (v := 12) (by decide) ?_
  refine j_mna (N := 12) (K := 12) g_187 (List.mem_of_getElem? (i := 253) (by decide +kernel)) g_56 (by decide) (by decide) rfl rfl (by decide) (by decide) (by first | exact Nat.le_of_ble_eq_true rfl | (simp only [jrm]; omega)) (by first | exact Nat.le_of_ble_eq_true rfl | (simp only [jrm]; omega)) d_MSpl_init_67 ?_
  refine j_putF iw_MSpl t_MSpl t_MSpl_ok n_MSpl (ci := 5) (kf := 6) rfl (by decide) g_202 rfl rfl rfl (t_MSpl_ok 6 (by decide)) rfl rfl d_MSpl_init_71 (jh_up_s _ _ _) (Nat.le_of_ble_eq_true rfl) ?_
  refine j_aload_n d_MSpl_init_74 1 rfl ?_
  refine j_bipush d_MSpl_init_75 (v := 12) (by decide) ?_
  refine j_newI (N := 12) g_55 (by decide) rfl (by decide) (by first | exact Nat.le_of_ble_eq_true rfl | (simp only [jrm]; omega)) (by first | exact Nat.le_of_ble_eq_true rfl | (simp only [jrm]; omega)) d_MSpl_init_77 ?_
  refine j_putF iw_MSpl t_MSpl t_MSpl_ok n_MSpl (ci := 5) (kf := 7) rfl (by decide) g_203 rfl rfl rfl (t_MSpl_ok 7 (by decide)) rfl rfl d_MSpl_init_79 ((jh_up_n _ _ (by omega)).trans (jh_up_s _ _ _)) (Nat.le_of_ble_eq_true rfl) ?_
  refine j_aload_n d_MSpl_init_82 1 rfl ?_
  refine j_new iw_Poly t_Poly t_Poly_ok (ci := 0) (fs := fs_Poly) rfl g_185 g_28 g_2 df_Poly (by first | exact Nat.le_of_ble_eq_true rfl | (simp only [jrm]; omega)) (by first | exact Nat.le_of_ble_eq_true rfl | (simp only [jrm]; omega)) d_MSpl_init_83 ?_
  refine j_dup d_MSpl_init_86 rfl ?_
  refine j_callI (k_Poly_init l Z (n + 44) (n + 45) _ (by omega) (jh_up_s _ _ _)) ⟨⟨Nat.le_of_ble_eq_true rfl, Nat.le_of_ble_eq_true rfl⟩, g_186, g_31, g_2, by decide +kernel⟩ g_30 rfl ⟨(by first | exact Nat.le_of_ble_eq_true rfl | (simp only [jrm]; omega)), (by first | exact Nat.le_of_ble_eq_true rfl | (simp only [jrm]; omega))⟩ (Nat.le_of_ble_eq_true rfl) d_MSpl_init_87 (fun r13 h13 n13 P13 => ?_)
  obtain ⟨rfl, rfl, A13, O13, F13⟩ := P13
  have E13_0 := (F13 a (by omega) (by omega)).trans ((jh_up_n _ _ (by omega)).trans (jh_up_s _ _ _))
  refine j_putF iw_MSpl t_MSpl t_MSpl_ok n_MSpl (ci := 5) (kf := 8) rfl (by decide) g_204 rfl rfl rfl (t_MSpl_ok 8 (by decide)) rfl rfl d_MSpl_init_90 E13_0 (Nat.le_of_ble_eq_true rfl) ?_
  refine j_aload_n d_MSpl_init_93 1 rfl ?_
  refine j_new iw_Poly t_Poly t_Poly_ok (ci := 0) (fs := fs_Poly) rfl g_185 g_28 g_2 df_Poly (by first | exact Nat.le_of_ble_eq_true rfl | (simp only [jrm]; omega)) (by first | exact Nat.le_of_ble_eq_true rfl | (simp only [jrm]; omega)) d_MSpl_init_94 ?_
  refine j_dup d_MSpl_init_97 rfl ?_
  refine j_callI (k_Poly_init l Z (n + 46) (n + 47) _ (by omega) (jh_up_s _ _ _)) ⟨⟨Nat.le_of_ble_eq_true rfl, Nat.le_of_ble_eq_true rfl⟩, g_186, g_31, g_2, by decide +kernel⟩ g_30 rfl ⟨(by first | exact Nat.le_of_ble_eq_true rfl | (simp only [jrm]; omega)), (by first | exact Nat.le_of_ble_eq_true rfl | (simp only [jrm]; omega))⟩ (Nat.le_of_ble_eq_true rfl) d_MSpl_init_98 (fun r14 h14 n14 P14 => ?_)
  obtain ⟨rfl, rfl, A14, O14, F14⟩ := P14
  have E14_0 := (F14 a (by omega) (by omega)).trans ((jh_up_n _ _ (by omega)).trans (jh_up_s _ _ _))
  refine j_putF iw_MSpl t_MSpl t_MSpl_ok n_MSpl (ci := 5) (kf := 9) rfl (by decide) g_205 rfl rfl rfl (t_MSpl_ok 9 (by decide)) rfl rfl d_MSpl_init_101 E14_0 (Nat.le_of_ble_eq_true rfl) ?_
  refine j_aload_n d_MSpl_init_104 1 rfl ?_
  refine j_new iw_Poly t_Poly t_Poly_ok (ci := 0) (fs := fs_Poly) rfl g_185 g_28 g_2 df_Poly (by first | exact Nat.le_of_ble_eq_true rfl | (simp only [jrm]; omega)) (by first | exact Nat.le_of_ble_eq_true rfl | (simp only [jrm]; omega)) d_MSpl_init_105 ?_
  refine j_dup d_MSpl_init_108 rfl ?_
  refine j_callI (k_Poly_init l Z (n + 48) (n + 49) _ (by omega) (jh_up_s _ _ _)) ⟨⟨Nat.le_of_ble_eq_true rfl, Nat.le_of_ble_eq_true rfl⟩, g_186, g_31, g_2, by decide +kernel⟩ g_30 rfl ⟨(by first | exact Nat.le_of_ble_eq_true rfl | (simp only [jrm]; omega)), (by first | exact Nat.le_of_ble_eq_true rfl | (simp only [jrm]; omega))⟩ (Nat.le_of_ble_eq_true rfl) d_MSpl_init_109 (fun r15 h15 n15 P15 => ?_)
  obtain ⟨rfl, rfl, A15, O15, F15⟩ := P15
  have E15_0 := (F15 a (by omega) (by omega)).trans ((jh_up_n _ _ (by omega)).trans (jh_up_s _ _ _))
  refine j_putF iw_MSpl t_MSpl t_MSpl_ok n_MSpl (ci := 5) (kf := 10) rfl (by decide) g_206 rfl rfl rfl (t_MSpl_ok 10 (by decide)) rfl rfl d_MSpl_init_112 E15_0 (Nat.le_of_ble_eq_true rfl) ?_
  refine j_vret rfl d_MSpl_init_115 ⟨rfl, rfl, ?_, fun x h1 h2 => ?_⟩
  · exact (jh_up_s _ _ _)
  · exact ((jh_up_n _ _ (by omega)).trans ((F15 x (by omega) (by omega)).trans ((jh_up_n _ _ (by omega)).trans ((jh_up_n _ _ (by omega)).trans ((F14 x (by omega) (by omega)).trans ((jh_up_n _ _ (by omega)).trans ((jh_up_n _ _ (by omega)).trans ((F13 x (by omega) (by omega)).trans ((jh_up_n _ _ (by omega)).trans ((jh_up_n _ _ (by omega)).trans ((jh_up_n _ _ (by omega)).trans ((jh_up_n _ _ (by omega)).trans ((jh_up_n _ _ (by omega)).trans ((F12 x (by omega) (by omega)).trans ((jh_up_n _ _ (by omega)).trans ((Gy x (by omega) (by omega)).trans ((jh_up_n _ _ (by omega)).trans ((jh_up_n _ _ (by omega)).trans ((jh_up_n _ _ (by omega)).trans ((F11 x (by omega) (by omega)).trans (jh_up_n _ _ (by omega))))))))))))))))))))))
set_option maxHeartbeats 4000000 in
set_option maxRecDepth 100000 in
theorem k_Lift_loop (l : Launch) {b : Nat} {D : va_G} {Y : Nat → ClassId} {s0 : State} (Z : jS0 b D Y s0) {p : Program} {e : Env} {s : State} {m : MethodId} {below : List Frame} {meth : Method} {c : Code} {Q : State → Prop} {mc ms : Nat} (a q0 q1 n k0 sl0 : Nat) (fs : List Value) (hb : jH) (ha : a < n) (hq0 : q0 < n) (haq0 : a ≠ q0) (hf0 : fs[2]? = some (.ref q0)) (hq1 : q1 < n) (haq1 : a ≠ q1) (hf1 : fs[3]? = some (.ref q1)) (hqq : q0 ≠ q1) (hmc : k0 + 48 ≤ mc) (hms : sl0 + 360 ≤ ms)
    (hx : ∀ (h2 : jH) (f0 : Nat → Option Nat) (f1 : Nat → Option Nat), h2 a = some (.inr (6, fs)) → h2 q0 = some (.inl (Y 3, 12, .inr (.inr (.inr (.inr f0))))) → h2 q1 = some (.inl (Y 3, 12, .inr (.inr (.inr (.inr f1))))) → (∀ x, x < n → x ≠ q0 → x ≠ q1 → h2 x = hb x) → jW b D Y s0 p l e (jrm 4 mc ms) s m [Value.ref a].toArray below meth c y_Lift_init.cls c_Lift_init 2 none y_Lift_init.name Q 84 [(1, .int 12), (0, .ref a)] [] h2 (n + 48) (k0 + 48) (sl0 + 360)) :
    ∀ (j i : Nat), i + j = 12 → ∀ (h : jH) (f0 : Nat → Option Nat) (f1 : Nat → Option Nat), h a = some (.inr (6, fs)) → h q0 = some (.inl (Y 3, 12, .inr (.inr (.inr (.inr f0))))) → h q1 = some (.inl (Y 3, 12, .inr (.inr (.inr (.inr f1))))) → (∀ x, x < n → x ≠ q0 → x ≠ q1 → h x = hb x) → jW b D Y s0 p l e (jrm 4 mc ms) s m [Value.ref a].toArray below meth c y_Lift_init.cls c_Lift_init 2 none y_Lift_init.name Q 46 [(1, .int (nI i)), (0, .ref a)] [] h (n + 4 * i) (k0 + 4 * i) (sl0 + 30 * i) := by
  intro j
  induction j with
  | zero =>
    intro i hi h f0 f1 H0 H1 H2 HF
    obtain rfl : i = 12 := by omega
    refine j_iload_n d_Lift_init_46 0 rfl ?_
    refine j_bipush d_Lift_init_47 (v := 12) (by decide) ?_
    refine j_icmp_ge_t (tgt := 84) d_Lift_init_49 (by decide) (by decide) ?_
    exact hx h f0 f1 H0 H1 H2 HF
  | succ j ih =>
    intro i hi h f0 f1 H0 H1 H2 HF
    have hi12 : i < 12 := by omega
    refine j_iload_n d_Lift_init_46 0 rfl ?_
    refine j_bipush d_Lift_init_47 (v := 12) (by decide) ?_
    refine j_icmp_ge_f d_Lift_init_49 (tgt := 84) (by decide) (nI_ge (b := 12) hi12 (by decide)) ?_
    refine j_aload_n d_Lift_init_52 1 rfl ?_
    refine j_get iw_Lift (ci := 6) (kf := 2) rfl (by decide) g_238 d_Lift_init_53 H0 hf0 ?_
    refine j_iload_n d_Lift_init_56 0 rfl ?_
    refine j_new iw_Poly t_Poly t_Poly_ok (ci := 0) (fs := fs_Poly) rfl g_232 g_28 g_2 df_Poly (by first | exact Nat.le_of_ble_eq_true rfl | (simp only [jrm]; omega)) (by first | exact Nat.le_of_ble_eq_true rfl | (simp only [jrm]; omega)) d_Lift_init_57 ?_
    refine j_dup d_Lift_init_60 rfl ?_
    refine j_callI (k_Poly_init l Z (n + 4 * i) ((n + 4 * i) + 1) _ (by omega) (jh_up_s _ _ _)) ⟨⟨Nat.le_of_ble_eq_true rfl, Nat.le_of_ble_eq_true rfl⟩, g_233, g_31, g_2, by decide +kernel⟩ g_30 rfl ⟨(by first | exact Nat.le_of_ble_eq_true rfl | (simp only [jrm]; omega)), (by first | exact Nat.le_of_ble_eq_true rfl | (simp only [jrm]; omega))⟩ (Nat.le_of_ble_eq_true rfl) d_Lift_init_61 (fun r16 h16 n16 P16 => ?_)
    obtain ⟨rfl, rfl, A16, O16, F16⟩ := P16
    have E16_0 := (F16 a (by omega) (by omega)).trans ((jh_up_n _ _ (by omega)).trans H0)
    have E16_1 := (F16 q0 (by omega) (by omega)).trans ((jh_up_n _ _ (by omega)).trans H1)
    have E16_2 := (F16 q1 (by omega) (by omega)).trans ((jh_up_n _ _ (by omega)).trans H2)
    refine j_aast d_Lift_init_64 E16_1 (nI_in hi12 (by omega)) O16 rfl ?_
    refine j_aload_n d_Lift_init_65 1 rfl ?_
    refine j_get iw_Lift (ci := 6) (kf := 3) rfl (by decide) g_240 d_Lift_init_66 ((jh_up_n _ _ (by omega)).trans E16_0) hf1 ?_
    refine j_iload_n d_Lift_init_69 0 rfl ?_
    refine j_new iw_Poly t_Poly t_Poly_ok (ci := 0) (fs := fs_Poly) rfl g_232 g_28 g_2 df_Poly (by first | exact Nat.le_of_ble_eq_true rfl | (simp only [jrm]; omega)) (by first | exact Nat.le_of_ble_eq_true rfl | (simp only [jrm]; omega)) d_Lift_init_70 ?_
    refine j_dup d_Lift_init_73 rfl ?_
    refine j_callI (k_Poly_init l Z ((n + 4 * i) + 2) ((n + 4 * i) + 3) _ (by omega) (jh_up_s _ _ _)) ⟨⟨Nat.le_of_ble_eq_true rfl, Nat.le_of_ble_eq_true rfl⟩, g_233, g_31, g_2, by decide +kernel⟩ g_30 rfl ⟨(by first | exact Nat.le_of_ble_eq_true rfl | (simp only [jrm]; omega)), (by first | exact Nat.le_of_ble_eq_true rfl | (simp only [jrm]; omega))⟩ (Nat.le_of_ble_eq_true rfl) d_Lift_init_74 (fun r17 h17 n17 P17 => ?_)
    obtain ⟨rfl, rfl, A17, O17, F17⟩ := P17
    have E17_0 := (F17 a (by omega) (by omega)).trans ((jh_up_n _ _ (by omega)).trans ((jh_up_n _ _ (by omega)).trans E16_0))
    have E17_1 := (F17 q0 (by omega) (by omega)).trans ((jh_up_n _ _ (by omega)).trans (jh_up_s _ _ _))
    have E17_2 := (F17 q1 (by omega) (by omega)).trans ((jh_up_n _ _ (by omega)).trans ((jh_up_n _ _ (by omega)).trans E16_2))
    refine j_aast d_Lift_init_77 E17_2 (nI_in hi12 (by omega)) O17 rfl ?_
    refine j_iinc d_Lift_init_78 0 rfl (v := nI (i + 1)) (nI_1 i) (Nat.le_of_ble_eq_true rfl) rfl ?_
    refine j_goto (tgt := 46) d_Lift_init_81 (by decide) ?_
    refine j_nks (n + 4 * (i + 1)) (k0 + 4 * (i + 1)) (sl0 + 30 * (i + 1)) (by omega) (by omega) (by omega) ?_
    exact ih (i + 1) (by omega) _ _ _ ((jh_up_n _ _ (by omega)).trans E17_0) ((jh_up_n _ _ (by omega)).trans E17_1) (jh_up_s _ _ _) (fun x h0x h1x h2x => ((jh_up_n _ _ (by omega)).trans ((F17 x (by omega) (by omega)).trans ((jh_up_n _ _ (by omega)).trans ((jh_up_n _ _ (by omega)).trans ((F16 x (by omega) (by omega)).trans (jh_up_n _ _ (by omega))))))).trans (HF x h0x h1x h2x))
set_option maxHeartbeats 4000000 in
set_option maxRecDepth 100000 in
theorem k_Lift_init (l : Launch) {b : Nat} {D : va_G} {Y : Nat → ClassId} {s0 : State} (Z : jS0 b D Y s0) (a n : Nat) (h : jH) (ha : a < n) (H0 : h a = some (.inr (6, fs_Lift))) : jMet l D s0 y_Lift_init c_Lift_init 2 none 4 [.ref a] h n 118 960 (fun r h2 n2 => r = none ∧ n2 = n + 118 ∧ h2 a = some (.inr (6, [.ref n, .ref (n + 51), .ref (n + 54), .ref (n + 55), .ref (n + 104), .ref (n + 106), .ref (n + 108), .ref (n + 110), .ref (n + 112), .ref (n + 114), .ref (n + 116)])) ∧ ∀ x, x < n → x ≠ a → h2 x = h x) := by
  refine jMet_of Z (by decide) (Nat.le_of_ble_eq_true rfl) ?_
  intro p e s m below meth c
  refine j_aload_n d_Lift_init_0 0 rfl ?_
  refine j_objInit g_176 g_25 g_26 (Nat.le_of_ble_eq_true rfl) (Nat.le_of_ble_eq_true rfl) d_Lift_init_1 ?_
  refine j_aload_n d_Lift_init_4 0 rfl ?_
  refine j_new iw_MSpl t_MSpl t_MSpl_ok (ci := 5) (fs := fs_MSpl) rfl g_177 g_178 g_9 df_MSpl (by first | exact Nat.le_of_ble_eq_true rfl | (simp only [jrm]; omega)) (by first | exact Nat.le_of_ble_eq_true rfl | (simp only [jrm]; omega)) d_Lift_init_5 ?_
  refine j_dup d_Lift_init_8 rfl ?_
  refine j_callI (k_MSpl_init l Z n (n + 1) _ (by omega) (jh_up_s _ _ _)) ⟨⟨Nat.le_of_ble_eq_true rfl, Nat.le_of_ble_eq_true rfl⟩, g_179, g_181, g_9, by decide +kernel⟩ g_180 rfl ⟨(by first | exact Nat.le_of_ble_eq_true rfl | (simp only [jrm]; omega)), (by first | exact Nat.le_of_ble_eq_true rfl | (simp only [jrm]; omega))⟩ (Nat.le_of_ble_eq_true rfl) d_Lift_init_9 (fun r18 h18 n18 P18 => ?_)
  obtain ⟨rfl, rfl, O18, F18⟩ := P18
  have E18_0 := (F18 a (by omega) (by omega)).trans ((jh_up_n _ _ (by omega)).trans H0)
  refine j_putF iw_Lift t_Lift t_Lift_ok n_Lift (ci := 6) (kf := 0) rfl (by decide) g_234 rfl rfl rfl (t_Lift_ok 0 (by decide)) rfl rfl d_Lift_init_12 E18_0 (Nat.le_of_ble_eq_true rfl) ?_
  refine j_aload_n d_Lift_init_15 0 rfl ?_
  refine j_new iw_Resi t_Resi t_Resi_ok (ci := 3) (fs := fs_Resi) rfl g_230 g_117 g_7 df_Resi (by first | exact Nat.le_of_ble_eq_true rfl | (simp only [jrm]; omega)) (by first | exact Nat.le_of_ble_eq_true rfl | (simp only [jrm]; omega)) d_Lift_init_16 ?_
  refine j_dup d_Lift_init_19 rfl ?_
  refine j_callI (k_Resi_init l Z (n + 51) (n + 52) _ (by omega) (jh_up_s _ _ _)) ⟨⟨Nat.le_of_ble_eq_true rfl, Nat.le_of_ble_eq_true rfl⟩, g_231, g_120, g_7, by decide +kernel⟩ g_119 rfl ⟨(by first | exact Nat.le_of_ble_eq_true rfl | (simp only [jrm]; omega)), (by first | exact Nat.le_of_ble_eq_true rfl | (simp only [jrm]; omega))⟩ (Nat.le_of_ble_eq_true rfl) d_Lift_init_20 (fun r19 h19 n19 P19 => ?_)
  obtain ⟨rfl, rfl, O19, F19⟩ := P19
  have E19_0 := (F19 a (by omega) (by omega)).trans ((jh_up_n _ _ (by omega)).trans (jh_up_s _ _ _))
  refine j_putF iw_Lift t_Lift t_Lift_ok n_Lift (ci := 6) (kf := 1) rfl (by decide) g_236 rfl rfl rfl (t_Lift_ok 1 (by decide)) rfl rfl d_Lift_init_23 E19_0 (Nat.le_of_ble_eq_true rfl) ?_
  refine j_aload_n d_Lift_init_26 0 rfl ?_
  refine j_bipush d_Lift_init_27 (v := 12) (by decide) ?_
  refine j_newP (N := 12) g_232 (List.mem_of_getElem? (i := 133) (by decide +kernel)) (by decide) rfl (by decide) (by first | exact Nat.le_of_ble_eq_true rfl | (simp only [jrm]; omega)) (by first | exact Nat.le_of_ble_eq_true rfl | (simp only [jrm]; omega)) d_Lift_init_29 ?_
  refine j_putF iw_Lift t_Lift t_Lift_ok n_Lift (ci := 6) (kf := 2) rfl (by decide) g_238 rfl rfl rfl (t_Lift_ok 2 (by decide)) rfl rfl d_Lift_init_32 ((jh_up_n _ _ (by omega)).trans (jh_up_s _ _ _)) (Nat.le_of_ble_eq_true rfl) ?_
  refine j_aload_n d_Lift_init_35 0 rfl ?_
  refine j_bipush d_Lift_init_36 (v := 12) (by decide) ?_
  refine j_newP (N := 12) g_232 (List.mem_of_getElem? (i := 133) (by decide +kernel)) (by decide) rfl (by decide) (by first | exact Nat.le_of_ble_eq_true rfl | (simp only [jrm]; omega)) (by first | exact Nat.le_of_ble_eq_true rfl | (simp only [jrm]; omega)) d_Lift_init_38 ?_
  refine j_putF iw_Lift t_Lift t_Lift_ok n_Lift (ci := 6) (kf := 3) rfl (by decide) g_240 rfl rfl rfl (t_Lift_ok 3 (by decide)) rfl rfl d_Lift_init_41 ((jh_up_n _ _ (by omega)).trans (jh_up_s _ _ _)) (Nat.le_of_ble_eq_true rfl) ?_
  refine j_iconst d_Lift_init_44 (v := 0) (by decide) ?_
  refine j_istore_n d_Lift_init_45 (Nat.le_of_ble_eq_true rfl) rfl ?_
  refine j_nks ((n + 56) + 4 * 0) (56 + 4 * 0) (495 + 30 * 0) (by omega) (by omega) (by omega) ?_
  refine k_Lift_loop l Z a (n + 54) (n + 55) (n + 56) 56 495 [.ref n, .ref (n + 51), .ref (n + 54), .ref (n + 55), .null, .null, .null, .null, .null, .null, .null] _ (by omega) (by omega) (by omega) rfl (by omega) (by omega) rfl (by omega) (Nat.le_of_ble_eq_true rfl) (Nat.le_of_ble_eq_true rfl) (fun hy fy_0 fy_1 Ay By_0 By_1 Gy => ?_) 12 0 rfl _ _ _ (jh_up_s _ _ _) ((jh_up_n _ _ (by omega)).trans ((jh_up_n _ _ (by omega)).trans ((jh_up_n _ _ (by omega)).trans (jh_up_s _ _ _)))) ((jh_up_n _ _ (by omega)).trans (jh_up_s _ _ _)) (fun x _ _ _ => rfl)
  refine j_aload_n d_Lift_init_84 1 rfl ?_
  refine j_new iw_Poly t_Poly t_Poly_ok (ci := 0) (fs := fs_Poly) rfl g_232 g_28 g_2 df_Poly (by first | exact Nat.le_of_ble_eq_true rfl | (simp only [jrm]; omega)) (by first | exact Nat.le_of_ble_eq_true rfl | (simp only [jrm]; omega)) d_Lift_init_85 ?_
  refine j_dup d_Lift_init_88 rfl ?_
  refine j_callI (k_Poly_init l Z (n + 104) (n + 105) _ (by omega) (jh_up_s _ _ _)) ⟨⟨Nat.le_of_ble_eq_true rfl, Nat.le_of_ble_eq_true rfl⟩, g_233, g_31, g_2, by decide +kernel⟩ g_30 rfl ⟨(by first | exact Nat.le_of_ble_eq_true rfl | (simp only [jrm]; omega)), (by first | exact Nat.le_of_ble_eq_true rfl | (simp only [jrm]; omega))⟩ (Nat.le_of_ble_eq_true rfl) d_Lift_init_89 (fun r20 h20 n20 P20 => ?_)
  obtain ⟨rfl, rfl, A20, O20, F20⟩ := P20
  have E20_0 := (F20 a (by omega) (by omega)).trans ((jh_up_n _ _ (by omega)).trans Ay)
  refine j_putF iw_Lift t_Lift t_Lift_ok n_Lift (ci := 6) (kf := 4) rfl (by decide) g_241 rfl rfl rfl (t_Lift_ok 4 (by decide)) rfl rfl d_Lift_init_92 E20_0 (Nat.le_of_ble_eq_true rfl) ?_
  refine j_aload_n d_Lift_init_95 1 rfl ?_
  refine j_new iw_Poly t_Poly t_Poly_ok (ci := 0) (fs := fs_Poly) rfl g_232 g_28 g_2 df_Poly (by first | exact Nat.le_of_ble_eq_true rfl | (simp only [jrm]; omega)) (by first | exact Nat.le_of_ble_eq_true rfl | (simp only [jrm]; omega)) d_Lift_init_96 ?_
  refine j_dup d_Lift_init_99 rfl ?_
  refine j_callI (k_Poly_init l Z (n + 106) (n + 107) _ (by omega) (jh_up_s _ _ _)) ⟨⟨Nat.le_of_ble_eq_true rfl, Nat.le_of_ble_eq_true rfl⟩, g_233, g_31, g_2, by decide +kernel⟩ g_30 rfl ⟨(by first | exact Nat.le_of_ble_eq_true rfl | (simp only [jrm]; omega)), (by first | exact Nat.le_of_ble_eq_true rfl | (simp only [jrm]; omega))⟩ (Nat.le_of_ble_eq_true rfl) d_Lift_init_100 (fun r21 h21 n21 P21 => ?_)
  obtain ⟨rfl, rfl, A21, O21, F21⟩ := P21
  have E21_0 := (F21 a (by omega) (by omega)).trans ((jh_up_n _ _ (by omega)).trans (jh_up_s _ _ _))
  refine j_putF iw_Lift t_Lift t_Lift_ok n_Lift (ci := 6) (kf := 5) rfl (by decide) g_242 rfl rfl rfl (t_Lift_ok 5 (by decide)) rfl rfl d_Lift_init_103 E21_0 (Nat.le_of_ble_eq_true rfl) ?_
  refine j_aload_n d_Lift_init_106 1 rfl ?_
  refine j_new iw_Poly t_Poly t_Poly_ok (ci := 0) (fs := fs_Poly) rfl g_232 g_28 g_2 df_Poly (by first | exact Nat.le_of_ble_eq_true rfl | (simp only [jrm]; omega)) (by first | exact Nat.le_of_ble_eq_true rfl | (simp only [jrm]; omega)) d_Lift_init_107 ?_
  refine j_dup d_Lift_init_110 rfl ?_
  refine j_callI (k_Poly_init l Z (n + 108) (n + 109) _ (by omega) (jh_up_s _ _ _)) ⟨⟨Nat.le_of_ble_eq_true rfl, Nat.le_of_ble_eq_true rfl⟩, g_233, g_31, g_2, by decide +kernel⟩ g_30 rfl ⟨(by first | exact Nat.le_of_ble_eq_true rfl | (simp only [jrm]; omega)), (by first | exact Nat.le_of_ble_eq_true rfl | (simp only [jrm]; omega))⟩ (Nat.le_of_ble_eq_true rfl) d_Lift_init_111 (fun r22 h22 n22 P22 => ?_)
  obtain ⟨rfl, rfl, A22, O22, F22⟩ := P22
  have E22_0 := (F22 a (by omega) (by omega)).trans ((jh_up_n _ _ (by omega)).trans (jh_up_s _ _ _))
  refine j_putF iw_Lift t_Lift t_Lift_ok n_Lift (ci := 6) (kf := 6) rfl (by decide) g_243 rfl rfl rfl (t_Lift_ok 6 (by decide)) rfl rfl d_Lift_init_114 E22_0 (Nat.le_of_ble_eq_true rfl) ?_
  refine j_aload_n d_Lift_init_117 1 rfl ?_
  refine j_new iw_Poly t_Poly t_Poly_ok (ci := 0) (fs := fs_Poly) rfl g_232 g_28 g_2 df_Poly (by first | exact Nat.le_of_ble_eq_true rfl | (simp only [jrm]; omega)) (by first | exact Nat.le_of_ble_eq_true rfl | (simp only [jrm]; omega)) d_Lift_init_118 ?_
  refine j_dup d_Lift_init_121 rfl ?_
  refine j_callI (k_Poly_init l Z (n + 110) (n + 111) _ (by omega) (jh_up_s _ _ _)) ⟨⟨Nat.le_of_ble_eq_true rfl, Nat.le_of_ble_eq_true rfl⟩, g_233, g_31, g_2, by decide +kernel⟩ g_30 rfl ⟨(by first | exact Nat.le_of_ble_eq_true rfl | (simp only [jrm]; omega)), (by first | exact Nat.le_of_ble_eq_true rfl | (simp only [jrm]; omega))⟩ (Nat.le_of_ble_eq_true rfl) d_Lift_init_122 (fun r23 h23 n23 P23 => ?_)
  obtain ⟨rfl, rfl, A23, O23, F23⟩ := P23
  have E23_0 := (F23 a (by omega) (by omega)).trans ((jh_up_n _ _ (by omega)).trans (jh_up_s _ _ _))
  refine j_put iw_Lift t_Lift t_Lift_ok n_Lift (ci := 6) (kf := 7) rfl (by decide) g_244 rfl (t_Lift_ok 7 (by decide)) rfl rfl d_Lift_init_125 E23_0 (Nat.le_of_ble_eq_true rfl) ?_
  refine j_aload_n d_Lift_init_128 1 rfl ?_
  refine j_new iw_Poly t_Poly t_Poly_ok (ci := 0) (fs := fs_Poly) rfl g_232 g_28 g_2 df_Poly (by first | exact Nat.le_of_ble_eq_true rfl | (simp only [jrm]; omega)) (by first | exact Nat.le_of_ble_eq_true rfl | (simp only [jrm]; omega)) d_Lift_init_129 ?_
  refine j_dup d_Lift_init_132 rfl ?_
  refine j_callI (k_Poly_init l Z (n + 112) (n + 113) _ (by omega) (jh_up_s _ _ _)) ⟨⟨Nat.le_of_ble_eq_true rfl, Nat.le_of_ble_eq_true rfl⟩, g_233, g_31, g_2, by decide +kernel⟩ g_30 rfl ⟨(by first | exact Nat.le_of_ble_eq_true rfl | (simp only [jrm]; omega)), (by first | exact Nat.le_of_ble_eq_true rfl | (simp only [jrm]; omega))⟩ (Nat.le_of_ble_eq_true rfl) d_Lift_init_133 (fun r24 h24 n24 P24 => ?_)
  obtain ⟨rfl, rfl, A24, O24, F24⟩ := P24
  have E24_0 := (F24 a (by omega) (by omega)).trans ((jh_up_n _ _ (by omega)).trans (jh_up_s _ _ _))
  refine j_put iw_Lift t_Lift t_Lift_ok n_Lift (ci := 6) (kf := 8) rfl (by decide) g_245 rfl (t_Lift_ok 8 (by decide)) rfl rfl d_Lift_init_136 E24_0 (Nat.le_of_ble_eq_true rfl) ?_
  refine j_aload_n d_Lift_init_139 1 rfl ?_
  refine j_new iw_Poly t_Poly t_Poly_ok (ci := 0) (fs := fs_Poly) rfl g_232 g_28 g_2 df_Poly (by first | exact Nat.le_of_ble_eq_true rfl | (simp only [jrm]; omega)) (by first | exact Nat.le_of_ble_eq_true rfl | (simp only [jrm]; omega)) d_Lift_init_140 ?_
  refine j_dup d_Lift_init_143 rfl ?_
  refine j_callI (k_Poly_init l Z (n + 114) (n + 115) _ (by omega) (jh_up_s _ _ _)) ⟨⟨Nat.le_of_ble_eq_true rfl, Nat.le_of_ble_eq_true rfl⟩, g_233, g_31, g_2, by decide +kernel⟩ g_30 rfl ⟨(by first | exact Nat.le_of_ble_eq_true rfl | (simp only [jrm]; omega)), (by first | exact Nat.le_of_ble_eq_true rfl | (simp only [jrm]; omega))⟩ (Nat.le_of_ble_eq_true rfl) d_Lift_init_144 (fun r25 h25 n25 P25 => ?_)
  obtain ⟨rfl, rfl, A25, O25, F25⟩ := P25
  have E25_0 := (F25 a (by omega) (by omega)).trans ((jh_up_n _ _ (by omega)).trans (jh_up_s _ _ _))
  refine j_put iw_Lift t_Lift t_Lift_ok n_Lift (ci := 6) (kf := 9) rfl (by decide) g_246 rfl (t_Lift_ok 9 (by decide)) rfl rfl d_Lift_init_147 E25_0 (Nat.le_of_ble_eq_true rfl) ?_
  refine j_aload_n d_Lift_init_150 1 rfl ?_
  refine j_new iw_Poly t_Poly t_Poly_ok (ci := 0) (fs := fs_Poly) rfl g_232 g_28 g_2 df_Poly (by first | exact Nat.le_of_ble_eq_true rfl | (simp only [jrm]; omega)) (by first | exact Nat.le_of_ble_eq_true rfl | (simp only [jrm]; omega)) d_Lift_init_151 ?_
  refine j_dup d_Lift_init_154 rfl ?_
  refine j_callI (k_Poly_init l Z (n + 116) (n + 117) _ (by omega) (jh_up_s _ _ _)) ⟨⟨Nat.le_of_ble_eq_true rfl, Nat.le_of_ble_eq_true rfl⟩, g_233, g_31, g_2, by decide +kernel⟩ g_30 rfl ⟨(by first | exact Nat.le_of_ble_eq_true rfl | (simp only [jrm]; omega)), (by first | exact Nat.le_of_ble_eq_true rfl | (simp only [jrm]; omega))⟩ (Nat.le_of_ble_eq_true rfl) d_Lift_init_155 (fun r26 h26 n26 P26 => ?_)
  obtain ⟨rfl, rfl, A26, O26, F26⟩ := P26
  have E26_0 := (F26 a (by omega) (by omega)).trans ((jh_up_n _ _ (by omega)).trans (jh_up_s _ _ _))
  refine j_put iw_Lift t_Lift t_Lift_ok n_Lift (ci := 6) (kf := 10) rfl (by decide) g_247 rfl (t_Lift_ok 10 (by decide)) rfl rfl d_Lift_init_158 E26_0 (Nat.le_of_ble_eq_true rfl) ?_
  refine j_vret rfl d_Lift_init_161 ⟨rfl, rfl, ?_, fun x h1 h2 => ?_⟩
  · exact (jh_up_s _ _ _)
  · exact ((jh_up_n _ _ (by omega)).trans ((F26 x (by omega) (by omega)).trans ((jh_up_n _ _ (by omega)).trans ((jh_up_n _ _ (by omega)).trans ((F25 x (by omega) (by omega)).trans ((jh_up_n _ _ (by omega)).trans ((jh_up_n _ _ (by omega)).trans ((F24 x (by omega) (by omega)).trans ((jh_up_n _ _ (by omega)).trans ((jh_up_n _ _ (by omega)).trans ((F23 x (by omega) (by omega)).trans ((jh_up_n _ _ (by omega)).trans ((jh_up_n _ _ (by omega)).trans ((F22 x (by omega) (by omega)).trans ((jh_up_n _ _ (by omega)).trans ((jh_up_n _ _ (by omega)).trans ((F21 x (by omega) (by omega)).trans ((jh_up_n _ _ (by omega)).trans ((jh_up_n _ _ (by omega)).trans ((F20 x (by omega) (by omega)).trans ((jh_up_n _ _ (by omega)).trans ((Gy x (by omega) (by omega) (by omega)).trans ((jh_up_n _ _ (by omega)).trans ((jh_up_n _ _ (by omega)).trans ((jh_up_n _ _ (by omega)).trans ((jh_up_n _ _ (by omega)).trans ((jh_up_n _ _ (by omega)).trans ((F19 x (by omega) (by omega)).trans ((jh_up_n _ _ (by omega)).trans ((jh_up_n _ _ (by omega)).trans ((F18 x (by omega) (by omega)).trans (jh_up_n _ _ (by omega)))))))))))))))))))))))))))))))))
end
section
set_option maxHeartbeats 4000000 in
set_option maxRecDepth 100000 in
theorem k_Splt_init (l : Launch) {b : Nat} {D : va_G} {Y : Nat → ClassId} {s0 : State} (Z : jS0 b D Y s0) (a n : Nat) (h : jH) (ha : a < n) (H0 : h a = some (.inr (7, fs_Splt))) : jMet l D s0 y_Splt_init c_Splt_init 1 none 5 [.ref a] h n 170 1355 (fun r h2 n2 => r = none ∧ n2 = n + 170 ∧ h2 a = some (.inr (7, [.ref n, .ref (n + 27), .ref (n + 28), .int 0, .ref (n + 45), .ref (n + 46), .ref (n + 164), .ref (n + 166), .ref (n + 168)])) ∧ h2 n = some (.inr (1, [.ref (n + 1), .ref (n + 26), .int 0])) ∧ h2 (n + 164) = some (.inr (0, [.ref (n + 165), .int (-1)])) ∧ h2 (n + 165) = some (.inl (Y 1, 13, .inr (.inl (fun _ => 0)))) ∧ ∀ x, x < n → x ≠ a → h2 x = h x) := by
  refine jMet_of Z (by decide) (Nat.le_of_ble_eq_true rfl) ?_
  intro p e s m below meth c
  refine j_aload_n d_Splt_init_0 0 rfl ?_
  refine j_objInit g_91 g_25 g_26 (Nat.le_of_ble_eq_true rfl) (Nat.le_of_ble_eq_true rfl) d_Splt_init_1 ?_
  refine j_aload_n d_Splt_init_4 0 rfl ?_
  refine j_new iw_FList t_FList t_FList_ok (ci := 1) (fs := fs_FList) rfl g_92 g_62 g_3 df_FList (by first | exact Nat.le_of_ble_eq_true rfl | (simp only [jrm]; omega)) (by first | exact Nat.le_of_ble_eq_true rfl | (simp only [jrm]; omega)) d_Splt_init_5 ?_
  refine j_dup d_Splt_init_8 rfl ?_
  refine j_callI (k_FList_init l Z n (n + 1) _ (by omega) (jh_up_s _ _ _)) ⟨⟨Nat.le_of_ble_eq_true rfl, Nat.le_of_ble_eq_true rfl⟩, g_93, g_65, g_3, by decide +kernel⟩ g_64 rfl ⟨(by first | exact Nat.le_of_ble_eq_true rfl | (simp only [jrm]; omega)), (by first | exact Nat.le_of_ble_eq_true rfl | (simp only [jrm]; omega))⟩ (Nat.le_of_ble_eq_true rfl) d_Splt_init_9 (fun r27 h27 n27 P27 => ?_)
  obtain ⟨rfl, rfl, O27, F27⟩ := P27
  have E27_0 := (F27 a (by omega) (by omega)).trans ((jh_up_n _ _ (by omega)).trans H0)
  refine j_putF iw_Splt t_Splt t_Splt_ok n_Splt (ci := 7) (kf := 0) rfl (by decide) g_273 rfl rfl rfl (t_Splt_ok 0 (by decide)) rfl rfl d_Splt_init_12 E27_0 (Nat.le_of_ble_eq_true rfl) ?_
  refine j_aload_n d_Splt_init_15 0 rfl ?_
  refine j_new iw_CDiv t_CDiv t_CDiv_ok (ci := 4) (fs := fs_CDiv) rfl g_94 g_95 g_5 df_CDiv (by first | exact Nat.le_of_ble_eq_true rfl | (simp only [jrm]; omega)) (by first | exact Nat.le_of_ble_eq_true rfl | (simp only [jrm]; omega)) d_Splt_init_16 ?_
  refine j_dup d_Splt_init_19 rfl ?_
  refine j_callI (k_CDiv_init l Z (n + 27) (n + 28) _ (by omega) (jh_up_s _ _ _)) ⟨⟨Nat.le_of_ble_eq_true rfl, Nat.le_of_ble_eq_true rfl⟩, g_96, g_98, g_5, by decide +kernel⟩ g_97 rfl ⟨(by first | exact Nat.le_of_ble_eq_true rfl | (simp only [jrm]; omega)), (by first | exact Nat.le_of_ble_eq_true rfl | (simp only [jrm]; omega))⟩ (Nat.le_of_ble_eq_true rfl) d_Splt_init_20 (fun r28 h28 n28 P28 => ?_)
  obtain ⟨rfl, rfl, O28, F28⟩ := P28
  have E28_0 := (F28 a (by omega) (by omega)).trans ((jh_up_n _ _ (by omega)).trans (jh_up_s _ _ _))
  have E28_1 := (F28 n (by omega) (by omega)).trans ((jh_up_n _ _ (by omega)).trans ((jh_up_n _ _ (by omega)).trans O27))
  refine j_putF iw_Splt t_Splt t_Splt_ok n_Splt (ci := 7) (kf := 1) rfl (by decide) g_275 rfl rfl rfl (t_Splt_ok 1 (by decide)) rfl rfl d_Splt_init_23 E28_0 (Nat.le_of_ble_eq_true rfl) ?_
  refine j_aload_n d_Splt_init_26 0 rfl ?_
  refine j_aload_n d_Splt_init_27 0 rfl ?_
  refine j_get iw_Splt (ci := 7) (kf := 1) rfl (by decide) g_275 d_Splt_init_28 (jh_up_s _ _ _) rfl ?_
  refine j_get iw_CDiv (ci := 4) (kf := 1) rfl (by decide) g_150 d_Splt_init_31 ((jh_up_n _ _ (by omega)).trans O28) rfl ?_
  refine j_putF iw_Splt t_Splt t_Splt_ok n_Splt (ci := 7) (kf := 2) rfl (by decide) g_277 rfl rfl rfl (t_Splt_ok 2 (by decide)) rfl rfl d_Splt_init_34 (jh_up_s _ _ _) (Nat.le_of_ble_eq_true rfl) ?_
  refine j_aload_n d_Splt_init_37 0 rfl ?_
  refine j_iconst d_Splt_init_38 (v := 0) (by decide) ?_
  refine j_put iw_Splt t_Splt t_Splt_ok n_Splt (ci := 7) (kf := 3) rfl (by decide) g_279 rfl (t_Splt_ok 3 (by decide)) rfl rfl d_Splt_init_39 (jh_up_s _ _ _) (Nat.le_of_ble_eq_true rfl) ?_
  refine j_aload_n d_Splt_init_42 0 rfl ?_
  refine j_new iw_Lift t_Lift t_Lift_ok (ci := 6) (fs := fs_Lift) rfl g_171 g_172 g_8 df_Lift (by first | exact Nat.le_of_ble_eq_true rfl | (simp only [jrm]; omega)) (by first | exact Nat.le_of_ble_eq_true rfl | (simp only [jrm]; omega)) d_Splt_init_43 ?_
  refine j_dup d_Splt_init_46 rfl ?_
  refine j_callI (k_Lift_init l Z (n + 45) (n + 46) _ (by omega) (jh_up_s _ _ _)) ⟨⟨Nat.le_of_ble_eq_true rfl, Nat.le_of_ble_eq_true rfl⟩, g_173, g_175, g_8, by decide +kernel⟩ g_174 rfl ⟨(by first | exact Nat.le_of_ble_eq_true rfl | (simp only [jrm]; omega)), (by first | exact Nat.le_of_ble_eq_true rfl | (simp only [jrm]; omega))⟩ (Nat.le_of_ble_eq_true rfl) d_Splt_init_47 (fun r29 h29 n29 P29 => ?_)
  obtain ⟨rfl, rfl, O29, F29⟩ := P29
  have E29_0 := (F29 a (by omega) (by omega)).trans ((jh_up_n _ _ (by omega)).trans (jh_up_s _ _ _))
  have E29_1 := (F29 n (by omega) (by omega)).trans ((jh_up_n _ _ (by omega)).trans ((jh_up_n _ _ (by omega)).trans ((jh_up_n _ _ (by omega)).trans ((jh_up_n _ _ (by omega)).trans E28_1))))
  have E29_2 := (F29 (n + 27) (by omega) (by omega)).trans ((jh_up_n _ _ (by omega)).trans ((jh_up_n _ _ (by omega)).trans ((jh_up_n _ _ (by omega)).trans ((jh_up_n _ _ (by omega)).trans O28))))
  refine j_putF iw_Splt t_Splt t_Splt_ok n_Splt (ci := 7) (kf := 4) rfl (by decide) g_280 rfl rfl rfl (t_Splt_ok 4 (by decide)) rfl rfl d_Splt_init_50 E29_0 (Nat.le_of_ble_eq_true rfl) ?_
  refine j_aload_n d_Splt_init_53 0 rfl ?_
  refine j_aload_n d_Splt_init_54 0 rfl ?_
  refine j_get iw_Splt (ci := 7) (kf := 4) rfl (by decide) g_280 d_Splt_init_55 (jh_up_s _ _ _) rfl ?_
  refine j_get iw_Lift (ci := 6) (kf := 0) rfl (by decide) g_235 d_Splt_init_58 ((jh_up_n _ _ (by omega)).trans O29) rfl ?_
  refine j_putF iw_Splt t_Splt t_Splt_ok n_Splt (ci := 7) (kf := 5) rfl (by decide) g_281 rfl rfl rfl (t_Splt_ok 5 (by decide)) rfl rfl d_Splt_init_61 (jh_up_s _ _ _) (Nat.le_of_ble_eq_true rfl) ?_
  refine j_aload_n d_Splt_init_64 0 rfl ?_
  refine j_new iw_Poly t_Poly t_Poly_ok (ci := 0) (fs := fs_Poly) rfl g_271 g_28 g_2 df_Poly (by first | exact Nat.le_of_ble_eq_true rfl | (simp only [jrm]; omega)) (by first | exact Nat.le_of_ble_eq_true rfl | (simp only [jrm]; omega)) d_Splt_init_65 ?_
  refine j_dup d_Splt_init_68 rfl ?_
  refine j_callI (k_Poly_init l Z (n + 164) (n + 165) _ (by omega) (jh_up_s _ _ _)) ⟨⟨Nat.le_of_ble_eq_true rfl, Nat.le_of_ble_eq_true rfl⟩, g_272, g_31, g_2, by decide +kernel⟩ g_30 rfl ⟨(by first | exact Nat.le_of_ble_eq_true rfl | (simp only [jrm]; omega)), (by first | exact Nat.le_of_ble_eq_true rfl | (simp only [jrm]; omega))⟩ (Nat.le_of_ble_eq_true rfl) d_Splt_init_69 (fun r30 h30 n30 P30 => ?_)
  obtain ⟨rfl, rfl, A30, O30, F30⟩ := P30
  have E30_0 := (F30 a (by omega) (by omega)).trans ((jh_up_n _ _ (by omega)).trans (jh_up_s _ _ _))
  have E30_1 := (F30 n (by omega) (by omega)).trans ((jh_up_n _ _ (by omega)).trans ((jh_up_n _ _ (by omega)).trans ((jh_up_n _ _ (by omega)).trans E29_1)))
  have E30_2 := (F30 (n + 27) (by omega) (by omega)).trans ((jh_up_n _ _ (by omega)).trans ((jh_up_n _ _ (by omega)).trans ((jh_up_n _ _ (by omega)).trans E29_2)))
  have E30_3 := (F30 (n + 45) (by omega) (by omega)).trans ((jh_up_n _ _ (by omega)).trans ((jh_up_n _ _ (by omega)).trans ((jh_up_n _ _ (by omega)).trans O29)))
  refine j_putF iw_Splt t_Splt t_Splt_ok n_Splt (ci := 7) (kf := 6) rfl (by decide) g_282 rfl rfl rfl (t_Splt_ok 6 (by decide)) rfl rfl d_Splt_init_72 E30_0 (Nat.le_of_ble_eq_true rfl) ?_
  refine j_aload_n d_Splt_init_75 0 rfl ?_
  refine j_new iw_Poly t_Poly t_Poly_ok (ci := 0) (fs := fs_Poly) rfl g_271 g_28 g_2 df_Poly (by first | exact Nat.le_of_ble_eq_true rfl | (simp only [jrm]; omega)) (by first | exact Nat.le_of_ble_eq_true rfl | (simp only [jrm]; omega)) d_Splt_init_76 ?_
  refine j_dup d_Splt_init_79 rfl ?_
  refine j_callI (k_Poly_init l Z (n + 166) (n + 167) _ (by omega) (jh_up_s _ _ _)) ⟨⟨Nat.le_of_ble_eq_true rfl, Nat.le_of_ble_eq_true rfl⟩, g_272, g_31, g_2, by decide +kernel⟩ g_30 rfl ⟨(by first | exact Nat.le_of_ble_eq_true rfl | (simp only [jrm]; omega)), (by first | exact Nat.le_of_ble_eq_true rfl | (simp only [jrm]; omega))⟩ (Nat.le_of_ble_eq_true rfl) d_Splt_init_80 (fun r31 h31 n31 P31 => ?_)
  obtain ⟨rfl, rfl, A31, O31, F31⟩ := P31
  have E31_0 := (F31 a (by omega) (by omega)).trans ((jh_up_n _ _ (by omega)).trans (jh_up_s _ _ _))
  have E31_1 := (F31 n (by omega) (by omega)).trans ((jh_up_n _ _ (by omega)).trans ((jh_up_n _ _ (by omega)).trans E30_1))
  have E31_2 := (F31 (n + 27) (by omega) (by omega)).trans ((jh_up_n _ _ (by omega)).trans ((jh_up_n _ _ (by omega)).trans E30_2))
  have E31_3 := (F31 (n + 45) (by omega) (by omega)).trans ((jh_up_n _ _ (by omega)).trans ((jh_up_n _ _ (by omega)).trans E30_3))
  have E31_4 := (F31 (n + 164) (by omega) (by omega)).trans ((jh_up_n _ _ (by omega)).trans ((jh_up_n _ _ (by omega)).trans O30))
  have E31_5 := (F31 (n + 165) (by omega) (by omega)).trans ((jh_up_n _ _ (by omega)).trans ((jh_up_n _ _ (by omega)).trans A30))
  refine j_putF iw_Splt t_Splt t_Splt_ok n_Splt (ci := 7) (kf := 7) rfl (by decide) g_283 rfl rfl rfl (t_Splt_ok 7 (by decide)) rfl rfl d_Splt_init_83 E31_0 (Nat.le_of_ble_eq_true rfl) ?_
  refine j_aload_n d_Splt_init_86 0 rfl ?_
  refine j_new iw_Poly t_Poly t_Poly_ok (ci := 0) (fs := fs_Poly) rfl g_271 g_28 g_2 df_Poly (by first | exact Nat.le_of_ble_eq_true rfl | (simp only [jrm]; omega)) (by first | exact Nat.le_of_ble_eq_true rfl | (simp only [jrm]; omega)) d_Splt_init_87 ?_
  refine j_dup d_Splt_init_90 rfl ?_
  refine j_callI (k_Poly_init l Z (n + 168) (n + 169) _ (by omega) (jh_up_s _ _ _)) ⟨⟨Nat.le_of_ble_eq_true rfl, Nat.le_of_ble_eq_true rfl⟩, g_272, g_31, g_2, by decide +kernel⟩ g_30 rfl ⟨(by first | exact Nat.le_of_ble_eq_true rfl | (simp only [jrm]; omega)), (by first | exact Nat.le_of_ble_eq_true rfl | (simp only [jrm]; omega))⟩ (Nat.le_of_ble_eq_true rfl) d_Splt_init_91 (fun r32 h32 n32 P32 => ?_)
  obtain ⟨rfl, rfl, A32, O32, F32⟩ := P32
  have E32_0 := (F32 a (by omega) (by omega)).trans ((jh_up_n _ _ (by omega)).trans (jh_up_s _ _ _))
  have E32_1 := (F32 n (by omega) (by omega)).trans ((jh_up_n _ _ (by omega)).trans ((jh_up_n _ _ (by omega)).trans E31_1))
  have E32_2 := (F32 (n + 27) (by omega) (by omega)).trans ((jh_up_n _ _ (by omega)).trans ((jh_up_n _ _ (by omega)).trans E31_2))
  have E32_3 := (F32 (n + 45) (by omega) (by omega)).trans ((jh_up_n _ _ (by omega)).trans ((jh_up_n _ _ (by omega)).trans E31_3))
  have E32_4 := (F32 (n + 164) (by omega) (by omega)).trans ((jh_up_n _ _ (by omega)).trans ((jh_up_n _ _ (by omega)).trans E31_4))
  have E32_5 := (F32 (n + 165) (by omega) (by omega)).trans ((jh_up_n _ _ (by omega)).trans ((jh_up_n _ _ (by omega)).trans E31_5))
  refine j_putF iw_Splt t_Splt t_Splt_ok n_Splt (ci := 7) (kf := 8) rfl (by decide) g_284 rfl rfl rfl (t_Splt_ok 8 (by decide)) rfl rfl d_Splt_init_94 E32_0 (Nat.le_of_ble_eq_true rfl) ?_
  refine j_vret rfl d_Splt_init_97 ⟨rfl, rfl, ?_, ?_, ?_, ?_, fun x h1 h2 => ?_⟩
  · exact (jh_up_s _ _ _)
  · exact ((jh_up_n _ _ (by omega)).trans E32_1)
  · exact ((jh_up_n _ _ (by omega)).trans E32_4)
  · exact ((jh_up_n _ _ (by omega)).trans E32_5)
  · exact ((jh_up_n _ _ (by omega)).trans ((F32 x (by omega) (by omega)).trans ((jh_up_n _ _ (by omega)).trans ((jh_up_n _ _ (by omega)).trans ((F31 x (by omega) (by omega)).trans ((jh_up_n _ _ (by omega)).trans ((jh_up_n _ _ (by omega)).trans ((F30 x (by omega) (by omega)).trans ((jh_up_n _ _ (by omega)).trans ((jh_up_n _ _ (by omega)).trans ((jh_up_n _ _ (by omega)).trans ((F29 x (by omega) (by omega)).trans ((jh_up_n _ _ (by omega)).trans ((jh_up_n _ _ (by omega)).trans ((jh_up_n _ _ (by omega)).trans ((jh_up_n _ _ (by omega)).trans ((F28 x (by omega) (by omega)).trans ((jh_up_n _ _ (by omega)).trans ((jh_up_n _ _ (by omega)).trans ((F27 x (by omega) (by omega)).trans (jh_up_n _ _ (by omega))))))))))))))))))))))
abbrev jOne : Nat → Int64 := vp_updL (fun _ => 0) 0 1
theorem upd00 (i : Nat) : vp_updL (fun _ => 0) i 0 = fun _ => 0 := by funext j; simp [vp_updL]
set_option maxHeartbeats 4000000 in
set_option maxRecDepth 100000 in
theorem k_Poly_setNumber_loop (l : Launch) {b : Nat} {D : va_G} {Y : Nat → ClassId} {s0 : State} (Z : jS0 b D Y s0) {p : Program} {e : Env} {s : State} {m : MethodId} {below : List Frame} {meth : Method} {c : Code} {Q : State → Prop} (a q n : Nat) (d : Int32) (hb : jH) (haq : a ≠ q) (hx : ∀ h2 : jH, h2 a = some (.inr (0, [.ref q, .int d])) → h2 q = some (.inl (Y 1, 13, .inr (.inl (fun _ => 0)))) → (∀ x, x ≠ q → h2 x = hb x) → jW b D Y s0 p l e (jrm 1 0 0) s m [Value.ref a, .long 1].toArray below meth c y_Poly_setNumber.cls c_Poly_setNumber 4 none y_Poly_setNumber.name Q 21 [(3, .int 13), (0, .ref a), (1, .long 1)] [] h2 n 0 0) :
    ∀ (j i : Nat), i + j = 13 → ∀ (h : jH), h a = some (.inr (0, [.ref q, .int d])) → h q = some (.inl (Y 1, 13, .inr (.inl (fun _ => 0)))) → (∀ x, x ≠ q → h x = hb x) → jW b D Y s0 p l e (jrm 1 0 0) s m [Value.ref a, .long 1].toArray below meth c y_Poly_setNumber.cls c_Poly_setNumber 4 none y_Poly_setNumber.name Q 2 [(3, .int (nI i)), (0, .ref a), (1, .long 1)] [] h n 0 0 := by
  intro j
  induction j with
  | zero =>
    intro i hi h H0 H1 HF
    obtain rfl : i = 13 := by omega
    refine j_iload_n d_Poly_setNumber_2 0 rfl ?_
    refine j_bipush d_Poly_setNumber_3 (v := 12) (by decide) ?_
    refine j_icmp_gt_t (tgt := 21) d_Poly_setNumber_5 (by decide) (by decide) ?_
    exact hx h H0 H1 HF
  | succ j ih =>
    intro i hi h H0 H1 HF
    have hi13 : i < 13 := by omega
    refine j_iload_n d_Poly_setNumber_2 0 rfl ?_
    refine j_bipush d_Poly_setNumber_3 (v := 12) (by decide) ?_
    refine j_icmp_gt_f (tgt := 21) d_Poly_setNumber_5 (by decide) (nI_nlt (a := 12) (by omega) (by decide)) ?_
    refine j_aload_n d_Poly_setNumber_8 1 rfl ?_
    refine j_get iw_Poly (ci := 0) (kf := 0) rfl (by decide) g_33 d_Poly_setNumber_9 H0 rfl ?_
    refine j_iload_n d_Poly_setNumber_12 0 rfl ?_
    refine j_lconst d_Poly_setNumber_13 (v := 0) (by decide) ?_
    refine j_last d_Poly_setNumber_14 H1 (nI_in hi13 (by omega)) ?_
    refine j_iinc d_Poly_setNumber_15 0 rfl (v := nI (i + 1)) (nI_1 i) (Nat.le_of_ble_eq_true rfl) rfl ?_
    refine j_goto (tgt := 2) d_Poly_setNumber_18 (by decide) ?_
    exact ih (i + 1) (by omega) _ ((jh_up_n _ _ (by omega)).trans H0) ((jh_up_s _ _ _).trans (by rw [upd00])) (fun x h1x => (jh_up_n _ _ (by omega)).trans (HF x h1x))
set_option maxHeartbeats 4000000 in
set_option maxRecDepth 100000 in
theorem k_Poly_setNumber (l : Launch) {b : Nat} {D : va_G} {Y : Nat → ClassId} {s0 : State} (Z : jS0 b D Y s0) (a q n : Nat) (d : Int32) (h : jH) (haq : a ≠ q) (H0 : h a = some (.inr (0, [.ref q, .int d]))) (H1 : h q = some (.inl (Y 1, 13, .inr (.inl (fun _ => 0))))) : jMet l D s0 y_Poly_setNumber c_Poly_setNumber 4 none 1 [.ref a, .long 1] h n 0 0 (fun r h2 n2 => r = none ∧ n2 = n ∧ h2 a = some (.inr (0, [.ref q, .int 0])) ∧ h2 q = some (.inl (Y 1, 13, .inr (.inl jOne))) ∧ ∀ x, x ≠ a → x ≠ q → h2 x = h x) := by
  refine jMet_of Z (by decide) (Nat.le_of_ble_eq_true rfl) ?_
  intro p e s m below meth c
  refine j_iconst d_Poly_setNumber_0 (v := 0) (by decide) ?_
  refine j_istore_n d_Poly_setNumber_1 (Nat.le_of_ble_eq_true rfl) rfl ?_
  refine k_Poly_setNumber_loop l Z a q n d h haq (fun h3 A3 B3 G3 => ?_) 13 0 rfl h H0 H1 (fun x _ => rfl)
  refine j_aload_n d_Poly_setNumber_21 1 rfl ?_
  refine j_get iw_Poly (ci := 0) (kf := 0) rfl (by decide) g_33 d_Poly_setNumber_22 A3 rfl ?_
  refine j_iconst d_Poly_setNumber_25 (v := 0) (by decide) ?_
  refine j_lload_n d_Poly_setNumber_26 2 rfl ?_
  refine j_last d_Poly_setNumber_27 B3 (by unfold vp_in; decide) ?_
  refine j_aload_n d_Poly_setNumber_28 1 rfl ?_
  refine j_lload_n d_Poly_setNumber_29 2 rfl ?_
  refine j_lconst d_Poly_setNumber_30 (v := 0) (by decide) ?_
  refine j_lcmp d_Poly_setNumber_31 ?_
  refine j_if_ne_t (tgt := 39) d_Poly_setNumber_32 (by decide) (by decide) ?_
  refine j_iconst d_Poly_setNumber_39 (v := 0) (by decide) ?_
  refine j_put iw_Poly t_Poly t_Poly_ok n_Poly (ci := 0) (kf := 1) rfl (by decide) g_41 rfl (t_Poly_ok 1 (by decide)) rfl rfl d_Poly_setNumber_40 ((jh_up_n _ _ (by omega)).trans A3) (Nat.le_of_ble_eq_true rfl) ?_
  refine j_vret rfl d_Poly_setNumber_43 ⟨rfl, rfl, (jh_up_s _ _ _), ((jh_up_n _ _ (by omega)).trans (jh_up_s _ _ _)), fun x h1 h2 => ((jh_up_n _ _ (by omega)).trans ((jh_up_n _ _ (by omega)).trans (G3 x h2)))⟩
set_option maxHeartbeats 4000000 in
set_option maxRecDepth 100000 in
theorem k_Desk_init (l : Launch) {b : Nat} {D : va_G} {Y : Nat → ClassId} {s0 : State} (Z : jS0 b D Y s0) (a n : Nat) (h : jH) (ha : a < n) (H0 : h a = some (.inr (8, fs_Desk))) : jMet l D s0 y_Desk_init c_Desk_init 1 none 6 [.ref a] h n 207 1644 (fun r h2 n2 => r = none ∧ n2 = n + 207 ∧ h2 a = some (.inr (8, [.ref n, .int 0, .ref (n + 1), .ref (n + 3), .ref (n + 5), .ref (n + 7), .ref (n + 9), .ref (n + 36), .ref (n + 64), .ref (n + 65)])) ∧ h2 n = some (.inl (Y 0, 13, .inl (fun _ => 0))) ∧ h2 (n + 1) = some (.inr (0, [.ref (n + 2), .int 0])) ∧ h2 (n + 2) = some (.inl (Y 1, 13, .inr (.inl jOne))) ∧ h2 (n + 7) = some (.inr (0, [.ref (n + 8), .int 0])) ∧ h2 (n + 8) = some (.inl (Y 1, 13, .inr (.inl jOne))) ∧ h2 (n + 9) = some (.inr (1, [.ref (n + 10), .ref (n + 35), .int 0])) ∧ h2 (n + 36) = some (.inr (7, [.ref (n + 37), .ref (n + 64), .ref (n + 65), .int 0, .ref (n + 82), .ref (n + 83), .ref (n + 201), .ref (n + 203), .ref (n + 205)])) ∧ h2 (n + 37) = some (.inr (1, [.ref (n + 38), .ref (n + 63), .int 0])) ∧ h2 (n + 201) = some (.inr (0, [.ref (n + 202), .int (-1)])) ∧ h2 (n + 202) = some (.inl (Y 1, 13, .inr (.inl (fun _ => 0)))) ∧ ∀ x, x < n → x ≠ a → h2 x = h x) := by
  refine jMet_of Z (by decide) (Nat.le_of_ble_eq_true rfl) ?_
  intro p e s m below meth c
  refine j_aload_n d_Desk_init_0 0 rfl ?_
  refine j_objInit g_24 g_25 g_26 (Nat.le_of_ble_eq_true rfl) (Nat.le_of_ble_eq_true rfl) d_Desk_init_1 ?_
  refine j_aload_n d_Desk_init_4 0 rfl ?_
  refine j_bipush d_Desk_init_5 (v := 13) (by decide) ?_
  refine j_newI (N := 13) g_55 (by decide) rfl (by decide) (by first | exact Nat.le_of_ble_eq_true rfl | (simp only [jrm]; omega)) (by first | exact Nat.le_of_ble_eq_true rfl | (simp only [jrm]; omega)) d_Desk_init_7 ?_
  refine j_putF iw_Desk t_Desk t_Desk_ok n_Desk (ci := 8) (kf := 0) rfl (by decide) g_304 rfl rfl rfl (t_Desk_ok 0 (by decide)) rfl rfl d_Desk_init_9 ((jh_up_n _ _ (by omega)).trans H0) (Nat.le_of_ble_eq_true rfl) ?_
  refine j_aload_n d_Desk_init_12 0 rfl ?_
  refine j_iconst d_Desk_init_13 (v := 0) (by decide) ?_
  refine j_put iw_Desk t_Desk t_Desk_ok n_Desk (ci := 8) (kf := 1) rfl (by decide) g_305 rfl (t_Desk_ok 1 (by decide)) rfl rfl d_Desk_init_14 (jh_up_s _ _ _) (Nat.le_of_ble_eq_true rfl) ?_
  refine j_aload_n d_Desk_init_17 0 rfl ?_
  refine j_new iw_Poly t_Poly t_Poly_ok (ci := 0) (fs := fs_Poly) rfl g_27 g_28 g_2 df_Poly (by first | exact Nat.le_of_ble_eq_true rfl | (simp only [jrm]; omega)) (by first | exact Nat.le_of_ble_eq_true rfl | (simp only [jrm]; omega)) d_Desk_init_18 ?_
  refine j_dup d_Desk_init_21 rfl ?_
  refine j_callI (k_Poly_init l Z (n + 1) (n + 2) _ (by omega) (jh_up_s _ _ _)) ⟨⟨Nat.le_of_ble_eq_true rfl, Nat.le_of_ble_eq_true rfl⟩, g_29, g_31, g_2, by decide +kernel⟩ g_30 rfl ⟨(by first | exact Nat.le_of_ble_eq_true rfl | (simp only [jrm]; omega)), (by first | exact Nat.le_of_ble_eq_true rfl | (simp only [jrm]; omega))⟩ (Nat.le_of_ble_eq_true rfl) d_Desk_init_22 (fun r33 h33 n33 P33 => ?_)
  obtain ⟨rfl, rfl, A33, O33, F33⟩ := P33
  have E33_0 := (F33 a (by omega) (by omega)).trans ((jh_up_n _ _ (by omega)).trans (jh_up_s _ _ _))
  have E33_1 := (F33 n (by omega) (by omega)).trans ((jh_up_n _ _ (by omega)).trans ((jh_up_n _ _ (by omega)).trans ((jh_up_n _ _ (by omega)).trans (jh_up_s _ _ _))))
  refine j_putF iw_Desk t_Desk t_Desk_ok n_Desk (ci := 8) (kf := 2) rfl (by decide) g_306 rfl rfl rfl (t_Desk_ok 2 (by decide)) rfl rfl d_Desk_init_25 E33_0 (Nat.le_of_ble_eq_true rfl) ?_
  refine j_aload_n d_Desk_init_28 0 rfl ?_
  refine j_get iw_Desk (ci := 8) (kf := 2) rfl (by decide) g_306 d_Desk_init_29 (jh_up_s _ _ _) rfl ?_
  refine j_lconst d_Desk_init_32 (v := 1) (by decide) ?_
  refine j_callV (k_Poly_setNumber l Z (n + 1) (n + 2) _ _ _ (by omega) ((jh_up_n _ _ (by omega)).trans O33) ((jh_up_n _ _ (by omega)).trans A33)) ⟨⟨Nat.le_of_ble_eq_true rfl, Nat.le_of_ble_eq_true rfl⟩, g_57, g_60, g_2, (by decide +kernel), (by decide +kernel), (show _ = some 1 from by decide +kernel)⟩ g_58 g_59 (ci := 0) rfl ((jh_up_n _ _ (by omega)).trans O33) ⟨(by first | exact Nat.le_of_ble_eq_true rfl | (simp only [jrm]; omega)), (by first | exact Nat.le_of_ble_eq_true rfl | (simp only [jrm]; omega))⟩ (Nat.le_of_ble_eq_true rfl) d_Desk_init_33 (fun r34 h34 n34 P34 => ?_)
  obtain ⟨rfl, rfl, O34, A34, F34⟩ := P34
  have E34_0 := (F34 a (by omega) (by omega)).trans (jh_up_s _ _ _)
  have E34_1 := (F34 n (by omega) (by omega)).trans ((jh_up_n _ _ (by omega)).trans E33_1)
  refine j_aload_n d_Desk_init_36 0 rfl ?_
  refine j_new iw_Poly t_Poly t_Poly_ok (ci := 0) (fs := fs_Poly) rfl g_27 g_28 g_2 df_Poly (by first | exact Nat.le_of_ble_eq_true rfl | (simp only [jrm]; omega)) (by first | exact Nat.le_of_ble_eq_true rfl | (simp only [jrm]; omega)) d_Desk_init_37 ?_
  refine j_dup d_Desk_init_40 rfl ?_
  refine j_callI (k_Poly_init l Z (n + 3) (n + 4) _ (by omega) (jh_up_s _ _ _)) ⟨⟨Nat.le_of_ble_eq_true rfl, Nat.le_of_ble_eq_true rfl⟩, g_29, g_31, g_2, by decide +kernel⟩ g_30 rfl ⟨(by first | exact Nat.le_of_ble_eq_true rfl | (simp only [jrm]; omega)), (by first | exact Nat.le_of_ble_eq_true rfl | (simp only [jrm]; omega))⟩ (Nat.le_of_ble_eq_true rfl) d_Desk_init_41 (fun r35 h35 n35 P35 => ?_)
  obtain ⟨rfl, rfl, A35, O35, F35⟩ := P35
  have E35_0 := (F35 a (by omega) (by omega)).trans ((jh_up_n _ _ (by omega)).trans E34_0)
  have E35_1 := (F35 n (by omega) (by omega)).trans ((jh_up_n _ _ (by omega)).trans E34_1)
  have E35_2 := (F35 (n + 1) (by omega) (by omega)).trans ((jh_up_n _ _ (by omega)).trans O34)
  have E35_3 := (F35 (n + 2) (by omega) (by omega)).trans ((jh_up_n _ _ (by omega)).trans A34)
  refine j_putF iw_Desk t_Desk t_Desk_ok n_Desk (ci := 8) (kf := 3) rfl (by decide) g_307 rfl rfl rfl (t_Desk_ok 3 (by decide)) rfl rfl d_Desk_init_44 E35_0 (Nat.le_of_ble_eq_true rfl) ?_
  refine j_aload_n d_Desk_init_47 0 rfl ?_
  refine j_new iw_Poly t_Poly t_Poly_ok (ci := 0) (fs := fs_Poly) rfl g_27 g_28 g_2 df_Poly (by first | exact Nat.le_of_ble_eq_true rfl | (simp only [jrm]; omega)) (by first | exact Nat.le_of_ble_eq_true rfl | (simp only [jrm]; omega)) d_Desk_init_48 ?_
  refine j_dup d_Desk_init_51 rfl ?_
  refine j_callI (k_Poly_init l Z (n + 5) (n + 6) _ (by omega) (jh_up_s _ _ _)) ⟨⟨Nat.le_of_ble_eq_true rfl, Nat.le_of_ble_eq_true rfl⟩, g_29, g_31, g_2, by decide +kernel⟩ g_30 rfl ⟨(by first | exact Nat.le_of_ble_eq_true rfl | (simp only [jrm]; omega)), (by first | exact Nat.le_of_ble_eq_true rfl | (simp only [jrm]; omega))⟩ (Nat.le_of_ble_eq_true rfl) d_Desk_init_52 (fun r36 h36 n36 P36 => ?_)
  obtain ⟨rfl, rfl, A36, O36, F36⟩ := P36
  have E36_0 := (F36 a (by omega) (by omega)).trans ((jh_up_n _ _ (by omega)).trans (jh_up_s _ _ _))
  have E36_1 := (F36 n (by omega) (by omega)).trans ((jh_up_n _ _ (by omega)).trans ((jh_up_n _ _ (by omega)).trans E35_1))
  have E36_2 := (F36 (n + 1) (by omega) (by omega)).trans ((jh_up_n _ _ (by omega)).trans ((jh_up_n _ _ (by omega)).trans E35_2))
  have E36_3 := (F36 (n + 2) (by omega) (by omega)).trans ((jh_up_n _ _ (by omega)).trans ((jh_up_n _ _ (by omega)).trans E35_3))
  refine j_putF iw_Desk t_Desk t_Desk_ok n_Desk (ci := 8) (kf := 4) rfl (by decide) g_308 rfl rfl rfl (t_Desk_ok 4 (by decide)) rfl rfl d_Desk_init_55 E36_0 (Nat.le_of_ble_eq_true rfl) ?_
  refine j_aload_n d_Desk_init_58 0 rfl ?_
  refine j_new iw_Poly t_Poly t_Poly_ok (ci := 0) (fs := fs_Poly) rfl g_27 g_28 g_2 df_Poly (by first | exact Nat.le_of_ble_eq_true rfl | (simp only [jrm]; omega)) (by first | exact Nat.le_of_ble_eq_true rfl | (simp only [jrm]; omega)) d_Desk_init_59 ?_
  refine j_dup d_Desk_init_62 rfl ?_
  refine j_callI (k_Poly_init l Z (n + 7) (n + 8) _ (by omega) (jh_up_s _ _ _)) ⟨⟨Nat.le_of_ble_eq_true rfl, Nat.le_of_ble_eq_true rfl⟩, g_29, g_31, g_2, by decide +kernel⟩ g_30 rfl ⟨(by first | exact Nat.le_of_ble_eq_true rfl | (simp only [jrm]; omega)), (by first | exact Nat.le_of_ble_eq_true rfl | (simp only [jrm]; omega))⟩ (Nat.le_of_ble_eq_true rfl) d_Desk_init_63 (fun r37 h37 n37 P37 => ?_)
  obtain ⟨rfl, rfl, A37, O37, F37⟩ := P37
  have E37_0 := (F37 a (by omega) (by omega)).trans ((jh_up_n _ _ (by omega)).trans (jh_up_s _ _ _))
  have E37_1 := (F37 n (by omega) (by omega)).trans ((jh_up_n _ _ (by omega)).trans ((jh_up_n _ _ (by omega)).trans E36_1))
  have E37_2 := (F37 (n + 1) (by omega) (by omega)).trans ((jh_up_n _ _ (by omega)).trans ((jh_up_n _ _ (by omega)).trans E36_2))
  have E37_3 := (F37 (n + 2) (by omega) (by omega)).trans ((jh_up_n _ _ (by omega)).trans ((jh_up_n _ _ (by omega)).trans E36_3))
  refine j_putF iw_Desk t_Desk t_Desk_ok n_Desk (ci := 8) (kf := 5) rfl (by decide) g_309 rfl rfl rfl (t_Desk_ok 5 (by decide)) rfl rfl d_Desk_init_66 E37_0 (Nat.le_of_ble_eq_true rfl) ?_
  refine j_aload_n d_Desk_init_69 0 rfl ?_
  refine j_get iw_Desk (ci := 8) (kf := 5) rfl (by decide) g_309 d_Desk_init_70 (jh_up_s _ _ _) rfl ?_
  refine j_lconst d_Desk_init_73 (v := 1) (by decide) ?_
  refine j_callV (k_Poly_setNumber l Z (n + 7) (n + 8) _ _ _ (by omega) ((jh_up_n _ _ (by omega)).trans O37) ((jh_up_n _ _ (by omega)).trans A37)) ⟨⟨Nat.le_of_ble_eq_true rfl, Nat.le_of_ble_eq_true rfl⟩, g_57, g_60, g_2, (by decide +kernel), (by decide +kernel), (show _ = some 1 from by decide +kernel)⟩ g_58 g_59 (ci := 0) rfl ((jh_up_n _ _ (by omega)).trans O37) ⟨(by first | exact Nat.le_of_ble_eq_true rfl | (simp only [jrm]; omega)), (by first | exact Nat.le_of_ble_eq_true rfl | (simp only [jrm]; omega))⟩ (Nat.le_of_ble_eq_true rfl) d_Desk_init_74 (fun r38 h38 n38 P38 => ?_)
  obtain ⟨rfl, rfl, O38, A38, F38⟩ := P38
  have E38_0 := (F38 a (by omega) (by omega)).trans (jh_up_s _ _ _)
  have E38_1 := (F38 n (by omega) (by omega)).trans ((jh_up_n _ _ (by omega)).trans E37_1)
  have E38_2 := (F38 (n + 1) (by omega) (by omega)).trans ((jh_up_n _ _ (by omega)).trans E37_2)
  have E38_3 := (F38 (n + 2) (by omega) (by omega)).trans ((jh_up_n _ _ (by omega)).trans E37_3)
  refine j_aload_n d_Desk_init_77 0 rfl ?_
  refine j_new iw_FList t_FList t_FList_ok (ci := 1) (fs := fs_FList) rfl g_61 g_62 g_3 df_FList (by first | exact Nat.le_of_ble_eq_true rfl | (simp only [jrm]; omega)) (by first | exact Nat.le_of_ble_eq_true rfl | (simp only [jrm]; omega)) d_Desk_init_78 ?_
  refine j_dup d_Desk_init_81 rfl ?_
  refine j_callI (k_FList_init l Z (n + 9) (n + 10) _ (by omega) (jh_up_s _ _ _)) ⟨⟨Nat.le_of_ble_eq_true rfl, Nat.le_of_ble_eq_true rfl⟩, g_63, g_65, g_3, by decide +kernel⟩ g_64 rfl ⟨(by first | exact Nat.le_of_ble_eq_true rfl | (simp only [jrm]; omega)), (by first | exact Nat.le_of_ble_eq_true rfl | (simp only [jrm]; omega))⟩ (Nat.le_of_ble_eq_true rfl) d_Desk_init_82 (fun r39 h39 n39 P39 => ?_)
  obtain ⟨rfl, rfl, O39, F39⟩ := P39
  have E39_0 := (F39 a (by omega) (by omega)).trans ((jh_up_n _ _ (by omega)).trans E38_0)
  have E39_1 := (F39 n (by omega) (by omega)).trans ((jh_up_n _ _ (by omega)).trans E38_1)
  have E39_2 := (F39 (n + 1) (by omega) (by omega)).trans ((jh_up_n _ _ (by omega)).trans E38_2)
  have E39_3 := (F39 (n + 2) (by omega) (by omega)).trans ((jh_up_n _ _ (by omega)).trans E38_3)
  have E39_4 := (F39 (n + 7) (by omega) (by omega)).trans ((jh_up_n _ _ (by omega)).trans O38)
  have E39_5 := (F39 (n + 8) (by omega) (by omega)).trans ((jh_up_n _ _ (by omega)).trans A38)
  refine j_putF iw_Desk t_Desk t_Desk_ok n_Desk (ci := 8) (kf := 6) rfl (by decide) g_310 rfl rfl rfl (t_Desk_ok 6 (by decide)) rfl rfl d_Desk_init_85 E39_0 (Nat.le_of_ble_eq_true rfl) ?_
  refine j_aload_n d_Desk_init_88 0 rfl ?_
  refine j_new iw_Splt t_Splt t_Splt_ok (ci := 7) (fs := fs_Splt) rfl g_86 g_87 g_4 df_Splt (by first | exact Nat.le_of_ble_eq_true rfl | (simp only [jrm]; omega)) (by first | exact Nat.le_of_ble_eq_true rfl | (simp only [jrm]; omega)) d_Desk_init_89 ?_
  refine j_dup d_Desk_init_92 rfl ?_
  refine j_callI (k_Splt_init l Z (n + 36) (n + 37) _ (by omega) (jh_up_s _ _ _)) ⟨⟨Nat.le_of_ble_eq_true rfl, Nat.le_of_ble_eq_true rfl⟩, g_88, g_90, g_4, by decide +kernel⟩ g_89 rfl ⟨(by first | exact Nat.le_of_ble_eq_true rfl | (simp only [jrm]; omega)), (by first | exact Nat.le_of_ble_eq_true rfl | (simp only [jrm]; omega))⟩ (Nat.le_of_ble_eq_true rfl) d_Desk_init_93 (fun r40 h40 n40 P40 => ?_)
  obtain ⟨rfl, rfl, O40, X40_0, X40_1, X40_2, F40⟩ := P40
  have E40_0 := (F40 a (by omega) (by omega)).trans ((jh_up_n _ _ (by omega)).trans (jh_up_s _ _ _))
  have E40_1 := (F40 n (by omega) (by omega)).trans ((jh_up_n _ _ (by omega)).trans ((jh_up_n _ _ (by omega)).trans E39_1))
  have E40_2 := (F40 (n + 1) (by omega) (by omega)).trans ((jh_up_n _ _ (by omega)).trans ((jh_up_n _ _ (by omega)).trans E39_2))
  have E40_3 := (F40 (n + 2) (by omega) (by omega)).trans ((jh_up_n _ _ (by omega)).trans ((jh_up_n _ _ (by omega)).trans E39_3))
  have E40_4 := (F40 (n + 7) (by omega) (by omega)).trans ((jh_up_n _ _ (by omega)).trans ((jh_up_n _ _ (by omega)).trans E39_4))
  have E40_5 := (F40 (n + 8) (by omega) (by omega)).trans ((jh_up_n _ _ (by omega)).trans ((jh_up_n _ _ (by omega)).trans E39_5))
  have E40_6 := (F40 (n + 9) (by omega) (by omega)).trans ((jh_up_n _ _ (by omega)).trans ((jh_up_n _ _ (by omega)).trans O39))
  refine j_putF iw_Desk t_Desk t_Desk_ok n_Desk (ci := 8) (kf := 7) rfl (by decide) g_311 rfl rfl rfl (t_Desk_ok 7 (by decide)) rfl rfl d_Desk_init_96 E40_0 (Nat.le_of_ble_eq_true rfl) ?_
  refine j_aload_n d_Desk_init_99 0 rfl ?_
  refine j_aload_n d_Desk_init_100 0 rfl ?_
  refine j_get iw_Desk (ci := 8) (kf := 7) rfl (by decide) g_311 d_Desk_init_101 (jh_up_s _ _ _) rfl ?_
  refine j_get iw_Splt (ci := 7) (kf := 1) rfl (by decide) g_276 d_Desk_init_104 ((jh_up_n _ _ (by omega)).trans O40) rfl ?_
  refine j_putF iw_Desk t_Desk t_Desk_ok n_Desk (ci := 8) (kf := 8) rfl (by decide) g_312 rfl rfl rfl (t_Desk_ok 8 (by decide)) rfl rfl d_Desk_init_107 (jh_up_s _ _ _) (Nat.le_of_ble_eq_true rfl) ?_
  refine j_aload_n d_Desk_init_110 0 rfl ?_
  refine j_aload_n d_Desk_init_111 0 rfl ?_
  refine j_get iw_Desk (ci := 8) (kf := 7) rfl (by decide) g_311 d_Desk_init_112 (jh_up_s _ _ _) rfl ?_
  refine j_get iw_Splt (ci := 7) (kf := 2) rfl (by decide) g_278 d_Desk_init_115 ((jh_up_n _ _ (by omega)).trans ((jh_up_n _ _ (by omega)).trans O40)) rfl ?_
  refine j_putF iw_Desk t_Desk t_Desk_ok n_Desk (ci := 8) (kf := 9) rfl (by decide) g_313 rfl rfl rfl (t_Desk_ok 9 (by decide)) rfl rfl d_Desk_init_118 (jh_up_s _ _ _) (Nat.le_of_ble_eq_true rfl) ?_
  refine j_vret rfl d_Desk_init_121 ⟨rfl, rfl, ?_, ?_, ?_, ?_, ?_, ?_, ?_, ?_, ?_, ?_, ?_, fun x h1 h2 => ?_⟩
  · exact (jh_up_s _ _ _)
  · exact ((jh_up_n _ _ (by omega)).trans ((jh_up_n _ _ (by omega)).trans ((jh_up_n _ _ (by omega)).trans E40_1)))
  · exact ((jh_up_n _ _ (by omega)).trans ((jh_up_n _ _ (by omega)).trans ((jh_up_n _ _ (by omega)).trans E40_2)))
  · exact ((jh_up_n _ _ (by omega)).trans ((jh_up_n _ _ (by omega)).trans ((jh_up_n _ _ (by omega)).trans E40_3)))
  · exact ((jh_up_n _ _ (by omega)).trans ((jh_up_n _ _ (by omega)).trans ((jh_up_n _ _ (by omega)).trans E40_4)))
  · exact ((jh_up_n _ _ (by omega)).trans ((jh_up_n _ _ (by omega)).trans ((jh_up_n _ _ (by omega)).trans E40_5)))
  · exact ((jh_up_n _ _ (by omega)).trans ((jh_up_n _ _ (by omega)).trans ((jh_up_n _ _ (by omega)).trans E40_6)))
  · exact ((jh_up_n _ _ (by omega)).trans ((jh_up_n _ _ (by omega)).trans ((jh_up_n _ _ (by omega)).trans O40)))
  · exact ((jh_up_n _ _ (by omega)).trans ((jh_up_n _ _ (by omega)).trans ((jh_up_n _ _ (by omega)).trans X40_0)))
  · exact ((jh_up_n _ _ (by omega)).trans ((jh_up_n _ _ (by omega)).trans ((jh_up_n _ _ (by omega)).trans X40_1)))
  · exact ((jh_up_n _ _ (by omega)).trans ((jh_up_n _ _ (by omega)).trans ((jh_up_n _ _ (by omega)).trans X40_2)))
  · exact ((jh_up_n _ _ (by omega)).trans ((jh_up_n _ _ (by omega)).trans ((jh_up_n _ _ (by omega)).trans ((F40 x (by omega) (by omega)).trans ((jh_up_n _ _ (by omega)).trans ((jh_up_n _ _ (by omega)).trans ((F39 x (by omega) (by omega)).trans ((jh_up_n _ _ (by omega)).trans ((F38 x (by omega) (by omega)).trans ((jh_up_n _ _ (by omega)).trans ((F37 x (by omega) (by omega)).trans ((jh_up_n _ _ (by omega)).trans ((jh_up_n _ _ (by omega)).trans ((F36 x (by omega) (by omega)).trans ((jh_up_n _ _ (by omega)).trans ((jh_up_n _ _ (by omega)).trans ((F35 x (by omega) (by omega)).trans ((jh_up_n _ _ (by omega)).trans ((F34 x (by omega) (by omega)).trans ((jh_up_n _ _ (by omega)).trans ((F33 x (by omega) (by omega)).trans ((jh_up_n _ _ (by omega)).trans ((jh_up_n _ _ (by omega)).trans ((jh_up_n _ _ (by omega)).trans (jh_up_n _ _ (by omega))))))))))))))))))))))))))
end
section
set_option maxHeartbeats 4000000 in
set_option maxRecDepth 100000 in
theorem k_Modl_init (l : Launch) {b : Nat} {D : va_G} {Y : Nat → ClassId} {s0 : State} (Z : jS0 b D Y s0) (a n : Nat) (h : jH) (ha : a < n) (H0 : h a = some (.inr (9, fs_Modl))) : jMet l D s0 y_Modl_init c_Modl_init 1 none 1 [.ref a] h n 22 13171 (fun r h2 n2 => r = none ∧ n2 = n + 22 ∧ h2 a = some (.inr (9, [.int 0, .ref n, .int 0, .ref (n + 1), .int 0, .ref (n + 2), .int 0, .int 0, .ref (n + 3), .ref (n + 4), .ref (n + 5), .int 0, .ref (n + 6), .ref (n + 7), .ref (n + 8), .int 0, .int 0, .ref (n + 9), .ref (n + 10), .ref (n + 11), .ref (n + 12), .ref (n + 13), .ref (n + 14), .long 1, .int 0, .ref (n + 15), .ref (n + 16), .ref (n + 17), .int 0, .long 0, .ref (n + 18), .ref (n + 19), .ref (n + 20), .ref (n + 21), .long 0])) ∧ h2 n = some (.inl (Y 1, 13, .inr (.inl (fun _ => 0)))) ∧ h2 (n + 1) = some (.inl (Y 1, 13, .inr (.inl jOne))) ∧ h2 (n + 2) = some (.inl (Y 1, 13, .inr (.inl jOne))) ∧ h2 (n + 3) = some (.inl (Y 1, 156, .inr (.inl (fun _ => 0)))) ∧ h2 (n + 4) = some (.inl (Y 0, 12, .inl (fun _ => 0))) ∧ h2 (n + 5) = some (.inl (Y 0, 12, .inl (fun _ => 0))) ∧ h2 (n + 6) = some (.inl (Y 1, 156, .inr (.inl (fun _ => 0)))) ∧ h2 (n + 7) = some (.inl (Y 0, 12, .inl (fun _ => 0))) ∧ h2 (n + 8) = some (.inl (Y 0, 12, .inl (fun _ => 0))) ∧ h2 (n + 17) = some (.inl (Y 1, 13, .inr (.inl (fun _ => 0)))) ∧ h2 (n + 18) = some (.inl (Y 1, 13, .inr (.inl (fun _ => 0)))) ∧ h2 (n + 21) = some (.inl (Y 1, 13, .inr (.inl (fun _ => 0)))) ∧ ∀ x, x < n → x ≠ a → h2 x = h x) := by
  refine jMet_of Z (by decide) (Nat.le_of_ble_eq_true rfl) ?_
  intro p e s m below meth c
  refine j_aload_n d_Modl_init_0 0 rfl ?_
  refine j_objInit g_854 g_25 g_26 (Nat.le_of_ble_eq_true rfl) (Nat.le_of_ble_eq_true rfl) d_Modl_init_1 ?_
  refine j_aload_n d_Modl_init_4 0 rfl ?_
  refine j_bipush d_Modl_init_5 (v := 13) (by decide) ?_
  refine j_newJ (N := 13) g_56 (by decide) rfl (by decide) (by first | exact Nat.le_of_ble_eq_true rfl | (simp only [jrm]; omega)) (by first | exact Nat.le_of_ble_eq_true rfl | (simp only [jrm]; omega)) d_Modl_init_7 ?_
  refine j_putF iw_Modl t_Modl t_Modl_ok n_Modl (ci := 9) (kf := 1) rfl (by decide) g_856 rfl rfl rfl (t_Modl_ok 1 (by decide)) rfl rfl d_Modl_init_9 ((jh_up_n _ _ (by omega)).trans H0) (Nat.le_of_ble_eq_true rfl) ?_
  refine j_upx (by simp only [List.set_cons_succ, List.set_cons_zero]; rfl) ?_
  refine j_aload_n d_Modl_init_12 0 rfl ?_
  refine j_bipush d_Modl_init_13 (v := 13) (by decide) ?_
  refine j_newJ (N := 13) g_56 (by decide) rfl (by decide) (by first | exact Nat.le_of_ble_eq_true rfl | (simp only [jrm]; omega)) (by first | exact Nat.le_of_ble_eq_true rfl | (simp only [jrm]; omega)) d_Modl_init_15 ?_
  refine j_putF iw_Modl t_Modl t_Modl_ok n_Modl (ci := 9) (kf := 3) rfl (by decide) g_858 rfl rfl rfl (t_Modl_ok 3 (by decide)) rfl rfl d_Modl_init_17 ((jh_up_n _ _ (by omega)).trans (jh_up_s _ _ _)) (Nat.le_of_ble_eq_true rfl) ?_
  refine j_upx (by simp only [List.set_cons_succ, List.set_cons_zero]; rfl) ?_
  refine j_aload_n d_Modl_init_20 0 rfl ?_
  refine j_bipush d_Modl_init_21 (v := 13) (by decide) ?_
  refine j_newJ (N := 13) g_56 (by decide) rfl (by decide) (by first | exact Nat.le_of_ble_eq_true rfl | (simp only [jrm]; omega)) (by first | exact Nat.le_of_ble_eq_true rfl | (simp only [jrm]; omega)) d_Modl_init_23 ?_
  refine j_putF iw_Modl t_Modl t_Modl_ok n_Modl (ci := 9) (kf := 5) rfl (by decide) g_860 rfl rfl rfl (t_Modl_ok 5 (by decide)) rfl rfl d_Modl_init_25 ((jh_up_n _ _ (by omega)).trans (jh_up_s _ _ _)) (Nat.le_of_ble_eq_true rfl) ?_
  refine j_upx (by simp only [List.set_cons_succ, List.set_cons_zero]; rfl) ?_
  refine j_aload_n d_Modl_init_28 0 rfl ?_
  refine j_sipush d_Modl_init_29 (v := 156) (by decide) ?_
  refine j_newJ (N := 156) g_56 (by decide) rfl (by decide) (by first | exact Nat.le_of_ble_eq_true rfl | (simp only [jrm]; omega)) (by first | exact Nat.le_of_ble_eq_true rfl | (simp only [jrm]; omega)) d_Modl_init_32 ?_
  refine j_putF iw_Modl t_Modl t_Modl_ok n_Modl (ci := 9) (kf := 8) rfl (by decide) g_863 rfl rfl rfl (t_Modl_ok 8 (by decide)) rfl rfl d_Modl_init_34 ((jh_up_n _ _ (by omega)).trans (jh_up_s _ _ _)) (Nat.le_of_ble_eq_true rfl) ?_
  refine j_upx (by simp only [List.set_cons_succ, List.set_cons_zero]; rfl) ?_
  refine j_aload_n d_Modl_init_37 0 rfl ?_
  refine j_bipush d_Modl_init_38 (v := 12) (by decide) ?_
  refine j_newI (N := 12) g_55 (by decide) rfl (by decide) (by first | exact Nat.le_of_ble_eq_true rfl | (simp only [jrm]; omega)) (by first | exact Nat.le_of_ble_eq_true rfl | (simp only [jrm]; omega)) d_Modl_init_40 ?_
  refine j_putF iw_Modl t_Modl t_Modl_ok n_Modl (ci := 9) (kf := 9) rfl (by decide) g_864 rfl rfl rfl (t_Modl_ok 9 (by decide)) rfl rfl d_Modl_init_42 ((jh_up_n _ _ (by omega)).trans (jh_up_s _ _ _)) (Nat.le_of_ble_eq_true rfl) ?_
  refine j_upx (by simp only [List.set_cons_succ, List.set_cons_zero]; rfl) ?_
  refine j_aload_n d_Modl_init_45 0 rfl ?_
  refine j_bipush d_Modl_init_46 (v := 12) (by decide) ?_
  refine j_newI (N := 12) g_55 (by decide) rfl (by decide) (by first | exact Nat.le_of_ble_eq_true rfl | (simp only [jrm]; omega)) (by first | exact Nat.le_of_ble_eq_true rfl | (simp only [jrm]; omega)) d_Modl_init_48 ?_
  refine j_putF iw_Modl t_Modl t_Modl_ok n_Modl (ci := 9) (kf := 10) rfl (by decide) g_865 rfl rfl rfl (t_Modl_ok 10 (by decide)) rfl rfl d_Modl_init_50 ((jh_up_n _ _ (by omega)).trans (jh_up_s _ _ _)) (Nat.le_of_ble_eq_true rfl) ?_
  refine j_upx (by simp only [List.set_cons_succ, List.set_cons_zero]; rfl) ?_
  refine j_aload_n d_Modl_init_53 0 rfl ?_
  refine j_sipush d_Modl_init_54 (v := 156) (by decide) ?_
  refine j_newJ (N := 156) g_56 (by decide) rfl (by decide) (by first | exact Nat.le_of_ble_eq_true rfl | (simp only [jrm]; omega)) (by first | exact Nat.le_of_ble_eq_true rfl | (simp only [jrm]; omega)) d_Modl_init_57 ?_
  refine j_putF iw_Modl t_Modl t_Modl_ok n_Modl (ci := 9) (kf := 12) rfl (by decide) g_867 rfl rfl rfl (t_Modl_ok 12 (by decide)) rfl rfl d_Modl_init_59 ((jh_up_n _ _ (by omega)).trans (jh_up_s _ _ _)) (Nat.le_of_ble_eq_true rfl) ?_
  refine j_upx (by simp only [List.set_cons_succ, List.set_cons_zero]; rfl) ?_
  refine j_aload_n d_Modl_init_62 0 rfl ?_
  refine j_bipush d_Modl_init_63 (v := 12) (by decide) ?_
  refine j_newI (N := 12) g_55 (by decide) rfl (by decide) (by first | exact Nat.le_of_ble_eq_true rfl | (simp only [jrm]; omega)) (by first | exact Nat.le_of_ble_eq_true rfl | (simp only [jrm]; omega)) d_Modl_init_65 ?_
  refine j_putF iw_Modl t_Modl t_Modl_ok n_Modl (ci := 9) (kf := 13) rfl (by decide) g_868 rfl rfl rfl (t_Modl_ok 13 (by decide)) rfl rfl d_Modl_init_67 ((jh_up_n _ _ (by omega)).trans (jh_up_s _ _ _)) (Nat.le_of_ble_eq_true rfl) ?_
  refine j_upx (by simp only [List.set_cons_succ, List.set_cons_zero]; rfl) ?_
  refine j_aload_n d_Modl_init_70 0 rfl ?_
  refine j_bipush d_Modl_init_71 (v := 12) (by decide) ?_
  refine j_newI (N := 12) g_55 (by decide) rfl (by decide) (by first | exact Nat.le_of_ble_eq_true rfl | (simp only [jrm]; omega)) (by first | exact Nat.le_of_ble_eq_true rfl | (simp only [jrm]; omega)) d_Modl_init_73 ?_
  refine j_putF iw_Modl t_Modl t_Modl_ok n_Modl (ci := 9) (kf := 14) rfl (by decide) g_869 rfl rfl rfl (t_Modl_ok 14 (by decide)) rfl rfl d_Modl_init_75 ((jh_up_n _ _ (by omega)).trans (jh_up_s _ _ _)) (Nat.le_of_ble_eq_true rfl) ?_
  refine j_upx (by simp only [List.set_cons_succ, List.set_cons_zero]; rfl) ?_
  refine j_aload_n d_Modl_init_78 0 rfl ?_
  refine j_sipush d_Modl_init_79 (v := 12350) (by decide) ?_
  refine j_newJ (N := 12350) g_56 (by decide) rfl (by decide) (by first | exact Nat.le_of_ble_eq_true rfl | (simp only [jrm]; omega)) (by first | exact Nat.le_of_ble_eq_true rfl | (simp only [jrm]; omega)) d_Modl_init_82 ?_
  refine j_putF iw_Modl t_Modl t_Modl_ok n_Modl (ci := 9) (kf := 17) rfl (by decide) g_872 rfl rfl rfl (t_Modl_ok 17 (by decide)) rfl rfl d_Modl_init_84 ((jh_up_n _ _ (by omega)).trans (jh_up_s _ _ _)) (Nat.le_of_ble_eq_true rfl) ?_
  refine j_upx (by simp only [List.set_cons_succ, List.set_cons_zero]; rfl) ?_
  refine j_aload_n d_Modl_init_87 0 rfl ?_
  refine j_bipush d_Modl_init_88 (v := 26) (by decide) ?_
  refine j_newI (N := 26) g_55 (by decide) rfl (by decide) (by first | exact Nat.le_of_ble_eq_true rfl | (simp only [jrm]; omega)) (by first | exact Nat.le_of_ble_eq_true rfl | (simp only [jrm]; omega)) d_Modl_init_90 ?_
  refine j_putF iw_Modl t_Modl t_Modl_ok n_Modl (ci := 9) (kf := 18) rfl (by decide) g_873 rfl rfl rfl (t_Modl_ok 18 (by decide)) rfl rfl d_Modl_init_92 ((jh_up_n _ _ (by omega)).trans (jh_up_s _ _ _)) (Nat.le_of_ble_eq_true rfl) ?_
  refine j_upx (by simp only [List.set_cons_succ, List.set_cons_zero]; rfl) ?_
  refine j_aload_n d_Modl_init_95 0 rfl ?_
  refine j_bipush d_Modl_init_96 (v := 64) (by decide) ?_
  refine j_newJ (N := 64) g_56 (by decide) rfl (by decide) (by first | exact Nat.le_of_ble_eq_true rfl | (simp only [jrm]; omega)) (by first | exact Nat.le_of_ble_eq_true rfl | (simp only [jrm]; omega)) d_Modl_init_98 ?_
  refine j_putF iw_Modl t_Modl t_Modl_ok n_Modl (ci := 9) (kf := 19) rfl (by decide) g_874 rfl rfl rfl (t_Modl_ok 19 (by decide)) rfl rfl d_Modl_init_100 ((jh_up_n _ _ (by omega)).trans (jh_up_s _ _ _)) (Nat.le_of_ble_eq_true rfl) ?_
  refine j_upx (by simp only [List.set_cons_succ, List.set_cons_zero]; rfl) ?_
  refine j_aload_n d_Modl_init_103 0 rfl ?_
  refine j_bipush d_Modl_init_104 (v := 64) (by decide) ?_
  refine j_newJ (N := 64) g_56 (by decide) rfl (by decide) (by first | exact Nat.le_of_ble_eq_true rfl | (simp only [jrm]; omega)) (by first | exact Nat.le_of_ble_eq_true rfl | (simp only [jrm]; omega)) d_Modl_init_106 ?_
  refine j_putF iw_Modl t_Modl t_Modl_ok n_Modl (ci := 9) (kf := 20) rfl (by decide) g_875 rfl rfl rfl (t_Modl_ok 20 (by decide)) rfl rfl d_Modl_init_108 ((jh_up_n _ _ (by omega)).trans (jh_up_s _ _ _)) (Nat.le_of_ble_eq_true rfl) ?_
  refine j_upx (by simp only [List.set_cons_succ, List.set_cons_zero]; rfl) ?_
  refine j_aload_n d_Modl_init_111 0 rfl ?_
  refine j_bipush d_Modl_init_112 (v := 64) (by decide) ?_
  refine j_newJ (N := 64) g_56 (by decide) rfl (by decide) (by first | exact Nat.le_of_ble_eq_true rfl | (simp only [jrm]; omega)) (by first | exact Nat.le_of_ble_eq_true rfl | (simp only [jrm]; omega)) d_Modl_init_114 ?_
  refine j_putF iw_Modl t_Modl t_Modl_ok n_Modl (ci := 9) (kf := 21) rfl (by decide) g_876 rfl rfl rfl (t_Modl_ok 21 (by decide)) rfl rfl d_Modl_init_116 ((jh_up_n _ _ (by omega)).trans (jh_up_s _ _ _)) (Nat.le_of_ble_eq_true rfl) ?_
  refine j_upx (by simp only [List.set_cons_succ, List.set_cons_zero]; rfl) ?_
  refine j_aload_n d_Modl_init_119 0 rfl ?_
  refine j_bipush d_Modl_init_120 (v := 64) (by decide) ?_
  refine j_newJ (N := 64) g_56 (by decide) rfl (by decide) (by first | exact Nat.le_of_ble_eq_true rfl | (simp only [jrm]; omega)) (by first | exact Nat.le_of_ble_eq_true rfl | (simp only [jrm]; omega)) d_Modl_init_122 ?_
  refine j_putF iw_Modl t_Modl t_Modl_ok n_Modl (ci := 9) (kf := 22) rfl (by decide) g_877 rfl rfl rfl (t_Modl_ok 22 (by decide)) rfl rfl d_Modl_init_124 ((jh_up_n _ _ (by omega)).trans (jh_up_s _ _ _)) (Nat.le_of_ble_eq_true rfl) ?_
  refine j_upx (by simp only [List.set_cons_succ, List.set_cons_zero]; rfl) ?_
  refine j_aload_n d_Modl_init_127 0 rfl ?_
  refine j_lconst d_Modl_init_128 (v := 1) (by decide) ?_
  refine j_put iw_Modl t_Modl t_Modl_ok n_Modl (ci := 9) (kf := 23) rfl (by decide) g_878 rfl (t_Modl_ok 23 (by decide)) rfl rfl d_Modl_init_129 (jh_up_s _ _ _) (Nat.le_of_ble_eq_true rfl) ?_
  refine j_upx (by simp only [List.set_cons_succ, List.set_cons_zero]; rfl) ?_
  refine j_aload_n d_Modl_init_132 0 rfl ?_
  refine j_bipush d_Modl_init_133 (v := 12) (by decide) ?_
  refine j_newI (N := 12) g_55 (by decide) rfl (by decide) (by first | exact Nat.le_of_ble_eq_true rfl | (simp only [jrm]; omega)) (by first | exact Nat.le_of_ble_eq_true rfl | (simp only [jrm]; omega)) d_Modl_init_135 ?_
  refine j_putF iw_Modl t_Modl t_Modl_ok n_Modl (ci := 9) (kf := 25) rfl (by decide) g_880 rfl rfl rfl (t_Modl_ok 25 (by decide)) rfl rfl d_Modl_init_137 ((jh_up_n _ _ (by omega)).trans (jh_up_s _ _ _)) (Nat.le_of_ble_eq_true rfl) ?_
  refine j_upx (by simp only [List.set_cons_succ, List.set_cons_zero]; rfl) ?_
  refine j_aload_n d_Modl_init_140 0 rfl ?_
  refine j_bipush d_Modl_init_141 (v := 12) (by decide) ?_
  refine j_newZ (N := 12) g_961 (by decide) rfl (by decide) (by first | exact Nat.le_of_ble_eq_true rfl | (simp only [jrm]; omega)) (by first | exact Nat.le_of_ble_eq_true rfl | (simp only [jrm]; omega)) d_Modl_init_143 ?_
  refine j_putF iw_Modl t_Modl t_Modl_ok n_Modl (ci := 9) (kf := 26) rfl (by decide) g_881 rfl rfl rfl (t_Modl_ok 26 (by decide)) rfl rfl d_Modl_init_145 ((jh_up_n _ _ (by omega)).trans (jh_up_s _ _ _)) (Nat.le_of_ble_eq_true rfl) ?_
  refine j_upx (by simp only [List.set_cons_succ, List.set_cons_zero]; rfl) ?_
  refine j_aload_n d_Modl_init_148 0 rfl ?_
  refine j_bipush d_Modl_init_149 (v := 13) (by decide) ?_
  refine j_newJ (N := 13) g_56 (by decide) rfl (by decide) (by first | exact Nat.le_of_ble_eq_true rfl | (simp only [jrm]; omega)) (by first | exact Nat.le_of_ble_eq_true rfl | (simp only [jrm]; omega)) d_Modl_init_151 ?_
  refine j_putF iw_Modl t_Modl t_Modl_ok n_Modl (ci := 9) (kf := 27) rfl (by decide) g_882 rfl rfl rfl (t_Modl_ok 27 (by decide)) rfl rfl d_Modl_init_153 ((jh_up_n _ _ (by omega)).trans (jh_up_s _ _ _)) (Nat.le_of_ble_eq_true rfl) ?_
  refine j_upx (by simp only [List.set_cons_succ, List.set_cons_zero]; rfl) ?_
  refine j_aload_n d_Modl_init_156 0 rfl ?_
  refine j_bipush d_Modl_init_157 (v := 13) (by decide) ?_
  refine j_newJ (N := 13) g_56 (by decide) rfl (by decide) (by first | exact Nat.le_of_ble_eq_true rfl | (simp only [jrm]; omega)) (by first | exact Nat.le_of_ble_eq_true rfl | (simp only [jrm]; omega)) d_Modl_init_159 ?_
  refine j_putF iw_Modl t_Modl t_Modl_ok n_Modl (ci := 9) (kf := 30) rfl (by decide) g_885 rfl rfl rfl (t_Modl_ok 30 (by decide)) rfl rfl d_Modl_init_161 ((jh_up_n _ _ (by omega)).trans (jh_up_s _ _ _)) (Nat.le_of_ble_eq_true rfl) ?_
  refine j_upx (by simp only [List.set_cons_succ, List.set_cons_zero]; rfl) ?_
  refine j_aload_n d_Modl_init_164 0 rfl ?_
  refine j_bipush d_Modl_init_165 (v := 64) (by decide) ?_
  refine j_newJ (N := 64) g_56 (by decide) rfl (by decide) (by first | exact Nat.le_of_ble_eq_true rfl | (simp only [jrm]; omega)) (by first | exact Nat.le_of_ble_eq_true rfl | (simp only [jrm]; omega)) d_Modl_init_167 ?_
  refine j_putF iw_Modl t_Modl t_Modl_ok n_Modl (ci := 9) (kf := 31) rfl (by decide) g_886 rfl rfl rfl (t_Modl_ok 31 (by decide)) rfl rfl d_Modl_init_169 ((jh_up_n _ _ (by omega)).trans (jh_up_s _ _ _)) (Nat.le_of_ble_eq_true rfl) ?_
  refine j_upx (by simp only [List.set_cons_succ, List.set_cons_zero]; rfl) ?_
  refine j_aload_n d_Modl_init_172 0 rfl ?_
  refine j_bipush d_Modl_init_173 (v := 13) (by decide) ?_
  refine j_newZ (N := 13) g_961 (by decide) rfl (by decide) (by first | exact Nat.le_of_ble_eq_true rfl | (simp only [jrm]; omega)) (by first | exact Nat.le_of_ble_eq_true rfl | (simp only [jrm]; omega)) d_Modl_init_175 ?_
  refine j_putF iw_Modl t_Modl t_Modl_ok n_Modl (ci := 9) (kf := 32) rfl (by decide) g_887 rfl rfl rfl (t_Modl_ok 32 (by decide)) rfl rfl d_Modl_init_177 ((jh_up_n _ _ (by omega)).trans (jh_up_s _ _ _)) (Nat.le_of_ble_eq_true rfl) ?_
  refine j_upx (by simp only [List.set_cons_succ, List.set_cons_zero]; rfl) ?_
  refine j_aload_n d_Modl_init_180 0 rfl ?_
  refine j_bipush d_Modl_init_181 (v := 13) (by decide) ?_
  refine j_newJ (N := 13) g_56 (by decide) rfl (by decide) (by first | exact Nat.le_of_ble_eq_true rfl | (simp only [jrm]; omega)) (by first | exact Nat.le_of_ble_eq_true rfl | (simp only [jrm]; omega)) d_Modl_init_183 ?_
  refine j_putF iw_Modl t_Modl t_Modl_ok n_Modl (ci := 9) (kf := 33) rfl (by decide) g_888 rfl rfl rfl (t_Modl_ok 33 (by decide)) rfl rfl d_Modl_init_185 ((jh_up_n _ _ (by omega)).trans (jh_up_s _ _ _)) (Nat.le_of_ble_eq_true rfl) ?_
  refine j_upx (by simp only [List.set_cons_succ, List.set_cons_zero]; rfl) ?_
  refine j_aload_n d_Modl_init_188 0 rfl ?_
  refine j_get iw_Modl (ci := 9) (kf := 3) rfl (by decide) g_858 d_Modl_init_189 (jh_up_s _ _ _) rfl ?_
  refine j_iconst d_Modl_init_192 (v := 0) (by decide) ?_
  refine j_lconst d_Modl_init_193 (v := 1) (by decide) ?_
  refine j_last d_Modl_init_194 ((jh_up_n _ _ (by omega)).trans ((jh_up_n _ _ (by omega)).trans ((jh_up_n _ _ (by omega)).trans ((jh_up_n _ _ (by omega)).trans ((jh_up_n _ _ (by omega)).trans ((jh_up_n _ _ (by omega)).trans ((jh_up_n _ _ (by omega)).trans ((jh_up_n _ _ (by omega)).trans ((jh_up_n _ _ (by omega)).trans ((jh_up_n _ _ (by omega)).trans ((jh_up_n _ _ (by omega)).trans ((jh_up_n _ _ (by omega)).trans ((jh_up_n _ _ (by omega)).trans ((jh_up_n _ _ (by omega)).trans ((jh_up_n _ _ (by omega)).trans ((jh_up_n _ _ (by omega)).trans ((jh_up_n _ _ (by omega)).trans ((jh_up_n _ _ (by omega)).trans ((jh_up_n _ _ (by omega)).trans ((jh_up_n _ _ (by omega)).trans ((jh_up_n _ _ (by omega)).trans ((jh_up_n _ _ (by omega)).trans ((jh_up_n _ _ (by omega)).trans ((jh_up_n _ _ (by omega)).trans ((jh_up_n _ _ (by omega)).trans ((jh_up_n _ _ (by omega)).trans ((jh_up_n _ _ (by omega)).trans ((jh_up_n _ _ (by omega)).trans ((jh_up_n _ _ (by omega)).trans ((jh_up_n _ _ (by omega)).trans ((jh_up_n _ _ (by omega)).trans ((jh_up_n _ _ (by omega)).trans ((jh_up_n _ _ (by omega)).trans ((jh_up_n _ _ (by omega)).trans ((jh_up_n _ _ (by omega)).trans ((jh_up_n _ _ (by omega)).trans ((jh_up_n _ _ (by omega)).trans ((jh_up_n _ _ (by omega)).trans ((jh_up_n _ _ (by omega)).trans ((jh_up_n _ _ (by omega)).trans ((jh_up_n _ _ (by omega)).trans ((jh_up_n _ _ (by omega)).trans (jh_up_s _ _ _))))))))))))))))))))))))))))))))))))))))))) (by unfold vp_in; decide) ?_
  refine j_aload_n d_Modl_init_195 0 rfl ?_
  refine j_get iw_Modl (ci := 9) (kf := 5) rfl (by decide) g_860 d_Modl_init_196 ((jh_up_n _ _ (by omega)).trans (jh_up_s _ _ _)) rfl ?_
  refine j_iconst d_Modl_init_199 (v := 0) (by decide) ?_
  refine j_lconst d_Modl_init_200 (v := 1) (by decide) ?_
  refine j_last d_Modl_init_201 ((jh_up_n _ _ (by omega)).trans ((jh_up_n _ _ (by omega)).trans ((jh_up_n _ _ (by omega)).trans ((jh_up_n _ _ (by omega)).trans ((jh_up_n _ _ (by omega)).trans ((jh_up_n _ _ (by omega)).trans ((jh_up_n _ _ (by omega)).trans ((jh_up_n _ _ (by omega)).trans ((jh_up_n _ _ (by omega)).trans ((jh_up_n _ _ (by omega)).trans ((jh_up_n _ _ (by omega)).trans ((jh_up_n _ _ (by omega)).trans ((jh_up_n _ _ (by omega)).trans ((jh_up_n _ _ (by omega)).trans ((jh_up_n _ _ (by omega)).trans ((jh_up_n _ _ (by omega)).trans ((jh_up_n _ _ (by omega)).trans ((jh_up_n _ _ (by omega)).trans ((jh_up_n _ _ (by omega)).trans ((jh_up_n _ _ (by omega)).trans ((jh_up_n _ _ (by omega)).trans ((jh_up_n _ _ (by omega)).trans ((jh_up_n _ _ (by omega)).trans ((jh_up_n _ _ (by omega)).trans ((jh_up_n _ _ (by omega)).trans ((jh_up_n _ _ (by omega)).trans ((jh_up_n _ _ (by omega)).trans ((jh_up_n _ _ (by omega)).trans ((jh_up_n _ _ (by omega)).trans ((jh_up_n _ _ (by omega)).trans ((jh_up_n _ _ (by omega)).trans ((jh_up_n _ _ (by omega)).trans ((jh_up_n _ _ (by omega)).trans ((jh_up_n _ _ (by omega)).trans ((jh_up_n _ _ (by omega)).trans ((jh_up_n _ _ (by omega)).trans ((jh_up_n _ _ (by omega)).trans ((jh_up_n _ _ (by omega)).trans ((jh_up_n _ _ (by omega)).trans ((jh_up_n _ _ (by omega)).trans ((jh_up_n _ _ (by omega)).trans (jh_up_s _ _ _)))))))))))))))))))))))))))))))))))))))))) (by unfold vp_in; decide) ?_
  refine j_vret rfl d_Modl_init_202 ⟨rfl, rfl, ?_, ?_, ?_, ?_, ?_, ?_, ?_, ?_, ?_, ?_, ?_, ?_, ?_, fun x h1 h2 => ?_⟩
  · exact ((jh_up_n _ _ (by omega)).trans ((jh_up_n _ _ (by omega)).trans (jh_up_s _ _ _)))
  · exact ((jh_up_n _ _ (by omega)).trans ((jh_up_n _ _ (by omega)).trans ((jh_up_n _ _ (by omega)).trans ((jh_up_n _ _ (by omega)).trans ((jh_up_n _ _ (by omega)).trans ((jh_up_n _ _ (by omega)).trans ((jh_up_n _ _ (by omega)).trans ((jh_up_n _ _ (by omega)).trans ((jh_up_n _ _ (by omega)).trans ((jh_up_n _ _ (by omega)).trans ((jh_up_n _ _ (by omega)).trans ((jh_up_n _ _ (by omega)).trans ((jh_up_n _ _ (by omega)).trans ((jh_up_n _ _ (by omega)).trans ((jh_up_n _ _ (by omega)).trans ((jh_up_n _ _ (by omega)).trans ((jh_up_n _ _ (by omega)).trans ((jh_up_n _ _ (by omega)).trans ((jh_up_n _ _ (by omega)).trans ((jh_up_n _ _ (by omega)).trans ((jh_up_n _ _ (by omega)).trans ((jh_up_n _ _ (by omega)).trans ((jh_up_n _ _ (by omega)).trans ((jh_up_n _ _ (by omega)).trans ((jh_up_n _ _ (by omega)).trans ((jh_up_n _ _ (by omega)).trans ((jh_up_n _ _ (by omega)).trans ((jh_up_n _ _ (by omega)).trans ((jh_up_n _ _ (by omega)).trans ((jh_up_n _ _ (by omega)).trans ((jh_up_n _ _ (by omega)).trans ((jh_up_n _ _ (by omega)).trans ((jh_up_n _ _ (by omega)).trans ((jh_up_n _ _ (by omega)).trans ((jh_up_n _ _ (by omega)).trans ((jh_up_n _ _ (by omega)).trans ((jh_up_n _ _ (by omega)).trans ((jh_up_n _ _ (by omega)).trans ((jh_up_n _ _ (by omega)).trans ((jh_up_n _ _ (by omega)).trans ((jh_up_n _ _ (by omega)).trans ((jh_up_n _ _ (by omega)).trans ((jh_up_n _ _ (by omega)).trans ((jh_up_n _ _ (by omega)).trans ((jh_up_n _ _ (by omega)).trans ((jh_up_n _ _ (by omega)).trans (jh_up_s _ _ _)))))))))))))))))))))))))))))))))))))))))))))))
  · exact ((jh_up_n _ _ (by omega)).trans (jh_up_s _ _ _))
  · exact (jh_up_s _ _ _)
  · exact ((jh_up_n _ _ (by omega)).trans ((jh_up_n _ _ (by omega)).trans ((jh_up_n _ _ (by omega)).trans ((jh_up_n _ _ (by omega)).trans ((jh_up_n _ _ (by omega)).trans ((jh_up_n _ _ (by omega)).trans ((jh_up_n _ _ (by omega)).trans ((jh_up_n _ _ (by omega)).trans ((jh_up_n _ _ (by omega)).trans ((jh_up_n _ _ (by omega)).trans ((jh_up_n _ _ (by omega)).trans ((jh_up_n _ _ (by omega)).trans ((jh_up_n _ _ (by omega)).trans ((jh_up_n _ _ (by omega)).trans ((jh_up_n _ _ (by omega)).trans ((jh_up_n _ _ (by omega)).trans ((jh_up_n _ _ (by omega)).trans ((jh_up_n _ _ (by omega)).trans ((jh_up_n _ _ (by omega)).trans ((jh_up_n _ _ (by omega)).trans ((jh_up_n _ _ (by omega)).trans ((jh_up_n _ _ (by omega)).trans ((jh_up_n _ _ (by omega)).trans ((jh_up_n _ _ (by omega)).trans ((jh_up_n _ _ (by omega)).trans ((jh_up_n _ _ (by omega)).trans ((jh_up_n _ _ (by omega)).trans ((jh_up_n _ _ (by omega)).trans ((jh_up_n _ _ (by omega)).trans ((jh_up_n _ _ (by omega)).trans ((jh_up_n _ _ (by omega)).trans ((jh_up_n _ _ (by omega)).trans ((jh_up_n _ _ (by omega)).trans ((jh_up_n _ _ (by omega)).trans ((jh_up_n _ _ (by omega)).trans ((jh_up_n _ _ (by omega)).trans ((jh_up_n _ _ (by omega)).trans ((jh_up_n _ _ (by omega)).trans ((jh_up_n _ _ (by omega)).trans ((jh_up_n _ _ (by omega)).trans (jh_up_s _ _ _)))))))))))))))))))))))))))))))))))))))))
  · exact ((jh_up_n _ _ (by omega)).trans ((jh_up_n _ _ (by omega)).trans ((jh_up_n _ _ (by omega)).trans ((jh_up_n _ _ (by omega)).trans ((jh_up_n _ _ (by omega)).trans ((jh_up_n _ _ (by omega)).trans ((jh_up_n _ _ (by omega)).trans ((jh_up_n _ _ (by omega)).trans ((jh_up_n _ _ (by omega)).trans ((jh_up_n _ _ (by omega)).trans ((jh_up_n _ _ (by omega)).trans ((jh_up_n _ _ (by omega)).trans ((jh_up_n _ _ (by omega)).trans ((jh_up_n _ _ (by omega)).trans ((jh_up_n _ _ (by omega)).trans ((jh_up_n _ _ (by omega)).trans ((jh_up_n _ _ (by omega)).trans ((jh_up_n _ _ (by omega)).trans ((jh_up_n _ _ (by omega)).trans ((jh_up_n _ _ (by omega)).trans ((jh_up_n _ _ (by omega)).trans ((jh_up_n _ _ (by omega)).trans ((jh_up_n _ _ (by omega)).trans ((jh_up_n _ _ (by omega)).trans ((jh_up_n _ _ (by omega)).trans ((jh_up_n _ _ (by omega)).trans ((jh_up_n _ _ (by omega)).trans ((jh_up_n _ _ (by omega)).trans ((jh_up_n _ _ (by omega)).trans ((jh_up_n _ _ (by omega)).trans ((jh_up_n _ _ (by omega)).trans ((jh_up_n _ _ (by omega)).trans ((jh_up_n _ _ (by omega)).trans ((jh_up_n _ _ (by omega)).trans ((jh_up_n _ _ (by omega)).trans ((jh_up_n _ _ (by omega)).trans ((jh_up_n _ _ (by omega)).trans ((jh_up_n _ _ (by omega)).trans (jh_up_s _ _ _)))))))))))))))))))))))))))))))))))))))
  · exact ((jh_up_n _ _ (by omega)).trans ((jh_up_n _ _ (by omega)).trans ((jh_up_n _ _ (by omega)).trans ((jh_up_n _ _ (by omega)).trans ((jh_up_n _ _ (by omega)).trans ((jh_up_n _ _ (by omega)).trans ((jh_up_n _ _ (by omega)).trans ((jh_up_n _ _ (by omega)).trans ((jh_up_n _ _ (by omega)).trans ((jh_up_n _ _ (by omega)).trans ((jh_up_n _ _ (by omega)).trans ((jh_up_n _ _ (by omega)).trans ((jh_up_n _ _ (by omega)).trans ((jh_up_n _ _ (by omega)).trans ((jh_up_n _ _ (by omega)).trans ((jh_up_n _ _ (by omega)).trans ((jh_up_n _ _ (by omega)).trans ((jh_up_n _ _ (by omega)).trans ((jh_up_n _ _ (by omega)).trans ((jh_up_n _ _ (by omega)).trans ((jh_up_n _ _ (by omega)).trans ((jh_up_n _ _ (by omega)).trans ((jh_up_n _ _ (by omega)).trans ((jh_up_n _ _ (by omega)).trans ((jh_up_n _ _ (by omega)).trans ((jh_up_n _ _ (by omega)).trans ((jh_up_n _ _ (by omega)).trans ((jh_up_n _ _ (by omega)).trans ((jh_up_n _ _ (by omega)).trans ((jh_up_n _ _ (by omega)).trans ((jh_up_n _ _ (by omega)).trans ((jh_up_n _ _ (by omega)).trans ((jh_up_n _ _ (by omega)).trans ((jh_up_n _ _ (by omega)).trans ((jh_up_n _ _ (by omega)).trans ((jh_up_n _ _ (by omega)).trans (jh_up_s _ _ _)))))))))))))))))))))))))))))))))))))
  · exact ((jh_up_n _ _ (by omega)).trans ((jh_up_n _ _ (by omega)).trans ((jh_up_n _ _ (by omega)).trans ((jh_up_n _ _ (by omega)).trans ((jh_up_n _ _ (by omega)).trans ((jh_up_n _ _ (by omega)).trans ((jh_up_n _ _ (by omega)).trans ((jh_up_n _ _ (by omega)).trans ((jh_up_n _ _ (by omega)).trans ((jh_up_n _ _ (by omega)).trans ((jh_up_n _ _ (by omega)).trans ((jh_up_n _ _ (by omega)).trans ((jh_up_n _ _ (by omega)).trans ((jh_up_n _ _ (by omega)).trans ((jh_up_n _ _ (by omega)).trans ((jh_up_n _ _ (by omega)).trans ((jh_up_n _ _ (by omega)).trans ((jh_up_n _ _ (by omega)).trans ((jh_up_n _ _ (by omega)).trans ((jh_up_n _ _ (by omega)).trans ((jh_up_n _ _ (by omega)).trans ((jh_up_n _ _ (by omega)).trans ((jh_up_n _ _ (by omega)).trans ((jh_up_n _ _ (by omega)).trans ((jh_up_n _ _ (by omega)).trans ((jh_up_n _ _ (by omega)).trans ((jh_up_n _ _ (by omega)).trans ((jh_up_n _ _ (by omega)).trans ((jh_up_n _ _ (by omega)).trans ((jh_up_n _ _ (by omega)).trans ((jh_up_n _ _ (by omega)).trans ((jh_up_n _ _ (by omega)).trans ((jh_up_n _ _ (by omega)).trans ((jh_up_n _ _ (by omega)).trans (jh_up_s _ _ _)))))))))))))))))))))))))))))))))))
  · exact ((jh_up_n _ _ (by omega)).trans ((jh_up_n _ _ (by omega)).trans ((jh_up_n _ _ (by omega)).trans ((jh_up_n _ _ (by omega)).trans ((jh_up_n _ _ (by omega)).trans ((jh_up_n _ _ (by omega)).trans ((jh_up_n _ _ (by omega)).trans ((jh_up_n _ _ (by omega)).trans ((jh_up_n _ _ (by omega)).trans ((jh_up_n _ _ (by omega)).trans ((jh_up_n _ _ (by omega)).trans ((jh_up_n _ _ (by omega)).trans ((jh_up_n _ _ (by omega)).trans ((jh_up_n _ _ (by omega)).trans ((jh_up_n _ _ (by omega)).trans ((jh_up_n _ _ (by omega)).trans ((jh_up_n _ _ (by omega)).trans ((jh_up_n _ _ (by omega)).trans ((jh_up_n _ _ (by omega)).trans ((jh_up_n _ _ (by omega)).trans ((jh_up_n _ _ (by omega)).trans ((jh_up_n _ _ (by omega)).trans ((jh_up_n _ _ (by omega)).trans ((jh_up_n _ _ (by omega)).trans ((jh_up_n _ _ (by omega)).trans ((jh_up_n _ _ (by omega)).trans ((jh_up_n _ _ (by omega)).trans ((jh_up_n _ _ (by omega)).trans ((jh_up_n _ _ (by omega)).trans ((jh_up_n _ _ (by omega)).trans ((jh_up_n _ _ (by omega)).trans ((jh_up_n _ _ (by omega)).trans (jh_up_s _ _ _)))))))))))))))))))))))))))))))))
  · exact ((jh_up_n _ _ (by omega)).trans ((jh_up_n _ _ (by omega)).trans ((jh_up_n _ _ (by omega)).trans ((jh_up_n _ _ (by omega)).trans ((jh_up_n _ _ (by omega)).trans ((jh_up_n _ _ (by omega)).trans ((jh_up_n _ _ (by omega)).trans ((jh_up_n _ _ (by omega)).trans ((jh_up_n _ _ (by omega)).trans ((jh_up_n _ _ (by omega)).trans ((jh_up_n _ _ (by omega)).trans ((jh_up_n _ _ (by omega)).trans ((jh_up_n _ _ (by omega)).trans ((jh_up_n _ _ (by omega)).trans ((jh_up_n _ _ (by omega)).trans ((jh_up_n _ _ (by omega)).trans ((jh_up_n _ _ (by omega)).trans ((jh_up_n _ _ (by omega)).trans ((jh_up_n _ _ (by omega)).trans ((jh_up_n _ _ (by omega)).trans ((jh_up_n _ _ (by omega)).trans ((jh_up_n _ _ (by omega)).trans ((jh_up_n _ _ (by omega)).trans ((jh_up_n _ _ (by omega)).trans ((jh_up_n _ _ (by omega)).trans ((jh_up_n _ _ (by omega)).trans ((jh_up_n _ _ (by omega)).trans ((jh_up_n _ _ (by omega)).trans ((jh_up_n _ _ (by omega)).trans ((jh_up_n _ _ (by omega)).trans (jh_up_s _ _ _)))))))))))))))))))))))))))))))
  · exact ((jh_up_n _ _ (by omega)).trans ((jh_up_n _ _ (by omega)).trans ((jh_up_n _ _ (by omega)).trans ((jh_up_n _ _ (by omega)).trans ((jh_up_n _ _ (by omega)).trans ((jh_up_n _ _ (by omega)).trans ((jh_up_n _ _ (by omega)).trans ((jh_up_n _ _ (by omega)).trans ((jh_up_n _ _ (by omega)).trans ((jh_up_n _ _ (by omega)).trans ((jh_up_n _ _ (by omega)).trans (jh_up_s _ _ _))))))))))))
  · exact ((jh_up_n _ _ (by omega)).trans ((jh_up_n _ _ (by omega)).trans ((jh_up_n _ _ (by omega)).trans ((jh_up_n _ _ (by omega)).trans ((jh_up_n _ _ (by omega)).trans ((jh_up_n _ _ (by omega)).trans ((jh_up_n _ _ (by omega)).trans ((jh_up_n _ _ (by omega)).trans ((jh_up_n _ _ (by omega)).trans (jh_up_s _ _ _))))))))))
  · exact ((jh_up_n _ _ (by omega)).trans ((jh_up_n _ _ (by omega)).trans ((jh_up_n _ _ (by omega)).trans (jh_up_s _ _ _))))
  · exact ((jh_up_n _ _ (by omega)).trans ((jh_up_n _ _ (by omega)).trans ((jh_up_n _ _ (by omega)).trans ((jh_up_n _ _ (by omega)).trans ((jh_up_n _ _ (by omega)).trans ((jh_up_n _ _ (by omega)).trans ((jh_up_n _ _ (by omega)).trans ((jh_up_n _ _ (by omega)).trans ((jh_up_n _ _ (by omega)).trans ((jh_up_n _ _ (by omega)).trans ((jh_up_n _ _ (by omega)).trans ((jh_up_n _ _ (by omega)).trans ((jh_up_n _ _ (by omega)).trans ((jh_up_n _ _ (by omega)).trans ((jh_up_n _ _ (by omega)).trans ((jh_up_n _ _ (by omega)).trans ((jh_up_n _ _ (by omega)).trans ((jh_up_n _ _ (by omega)).trans ((jh_up_n _ _ (by omega)).trans ((jh_up_n _ _ (by omega)).trans ((jh_up_n _ _ (by omega)).trans ((jh_up_n _ _ (by omega)).trans ((jh_up_n _ _ (by omega)).trans ((jh_up_n _ _ (by omega)).trans ((jh_up_n _ _ (by omega)).trans ((jh_up_n _ _ (by omega)).trans ((jh_up_n _ _ (by omega)).trans ((jh_up_n _ _ (by omega)).trans ((jh_up_n _ _ (by omega)).trans ((jh_up_n _ _ (by omega)).trans ((jh_up_n _ _ (by omega)).trans ((jh_up_n _ _ (by omega)).trans ((jh_up_n _ _ (by omega)).trans ((jh_up_n _ _ (by omega)).trans ((jh_up_n _ _ (by omega)).trans ((jh_up_n _ _ (by omega)).trans ((jh_up_n _ _ (by omega)).trans ((jh_up_n _ _ (by omega)).trans ((jh_up_n _ _ (by omega)).trans ((jh_up_n _ _ (by omega)).trans ((jh_up_n _ _ (by omega)).trans ((jh_up_n _ _ (by omega)).trans ((jh_up_n _ _ (by omega)).trans ((jh_up_n _ _ (by omega)).trans ((jh_up_n _ _ (by omega)).trans ((jh_up_n _ _ (by omega)).trans (jh_up_n _ _ (by omega))))))))))))))))))))))))))))))))))))))))))))))))
end
section
abbrev c_Desk_greatestOf : ByteArray := prog_1_method_21_code
abbrev y_Desk_greatestOf : MethodName := ⟨"FactorDesk", "greatestOf", "(JJ)J"⟩
theorem d_Desk_greatestOf_0 : decode c_Desk_greatestOf 0 = .ok (.lload_n 0, 1) := by decide +kernel
theorem d_Desk_greatestOf_1 : decode c_Desk_greatestOf 1 = .ok (.lconst 0, 1) := by decide +kernel
theorem d_Desk_greatestOf_2 : decode c_Desk_greatestOf 2 = .ok (.lcmp, 1) := by decide +kernel
theorem d_Desk_greatestOf_3 : decode c_Desk_greatestOf 3 = .ok (.ifCond .ge 8, 3) := by decide +kernel
theorem d_Desk_greatestOf_6 : decode c_Desk_greatestOf 6 = .ok (.lload_n 0, 1) := by decide +kernel
theorem d_Desk_greatestOf_7 : decode c_Desk_greatestOf 7 = .ok (.lneg, 1) := by decide +kernel
theorem d_Desk_greatestOf_8 : decode c_Desk_greatestOf 8 = .ok (.goto 4, 3) := by decide +kernel
theorem d_Desk_greatestOf_11 : decode c_Desk_greatestOf 11 = .ok (.lload_n 0, 1) := by decide +kernel
theorem d_Desk_greatestOf_12 : decode c_Desk_greatestOf 12 = .ok (.lstore 4, 2) := by decide +kernel
theorem d_Desk_greatestOf_14 : decode c_Desk_greatestOf 14 = .ok (.lload_n 2, 1) := by decide +kernel
theorem d_Desk_greatestOf_15 : decode c_Desk_greatestOf 15 = .ok (.lconst 0, 1) := by decide +kernel
theorem d_Desk_greatestOf_16 : decode c_Desk_greatestOf 16 = .ok (.lcmp, 1) := by decide +kernel
theorem d_Desk_greatestOf_17 : decode c_Desk_greatestOf 17 = .ok (.ifCond .ge 8, 3) := by decide +kernel
theorem d_Desk_greatestOf_20 : decode c_Desk_greatestOf 20 = .ok (.lload_n 2, 1) := by decide +kernel
theorem d_Desk_greatestOf_21 : decode c_Desk_greatestOf 21 = .ok (.lneg, 1) := by decide +kernel
theorem d_Desk_greatestOf_22 : decode c_Desk_greatestOf 22 = .ok (.goto 4, 3) := by decide +kernel
theorem d_Desk_greatestOf_25 : decode c_Desk_greatestOf 25 = .ok (.lload_n 2, 1) := by decide +kernel
theorem d_Desk_greatestOf_26 : decode c_Desk_greatestOf 26 = .ok (.lstore 6, 2) := by decide +kernel
theorem d_Desk_greatestOf_28 : decode c_Desk_greatestOf 28 = .ok (.iconst 0, 1) := by decide +kernel
theorem d_Desk_greatestOf_29 : decode c_Desk_greatestOf 29 = .ok (.istore 8, 2) := by decide +kernel
theorem d_Desk_greatestOf_31 : decode c_Desk_greatestOf 31 = .ok (.iload 8, 2) := by decide +kernel
theorem d_Desk_greatestOf_33 : decode c_Desk_greatestOf 33 = .ok (.sipush 200, 3) := by decide +kernel
theorem d_Desk_greatestOf_36 : decode c_Desk_greatestOf 36 = .ok (.if_icmp .ge 31, 3) := by decide +kernel
theorem d_Desk_greatestOf_39 : decode c_Desk_greatestOf 39 = .ok (.lload 6, 2) := by decide +kernel
theorem d_Desk_greatestOf_41 : decode c_Desk_greatestOf 41 = .ok (.lconst 0, 1) := by decide +kernel
theorem d_Desk_greatestOf_42 : decode c_Desk_greatestOf 42 = .ok (.lcmp, 1) := by decide +kernel
theorem d_Desk_greatestOf_43 : decode c_Desk_greatestOf 43 = .ok (.ifCond .eq 24, 3) := by decide +kernel
theorem d_Desk_greatestOf_46 : decode c_Desk_greatestOf 46 = .ok (.lload 4, 2) := by decide +kernel
theorem d_Desk_greatestOf_48 : decode c_Desk_greatestOf 48 = .ok (.lload 6, 2) := by decide +kernel
theorem d_Desk_greatestOf_50 : decode c_Desk_greatestOf 50 = .ok (.lrem, 1) := by decide +kernel
theorem d_Desk_greatestOf_51 : decode c_Desk_greatestOf 51 = .ok (.lstore 9, 2) := by decide +kernel
theorem d_Desk_greatestOf_53 : decode c_Desk_greatestOf 53 = .ok (.lload 6, 2) := by decide +kernel
theorem d_Desk_greatestOf_55 : decode c_Desk_greatestOf 55 = .ok (.lstore 4, 2) := by decide +kernel
theorem d_Desk_greatestOf_57 : decode c_Desk_greatestOf 57 = .ok (.lload 9, 2) := by decide +kernel
theorem d_Desk_greatestOf_59 : decode c_Desk_greatestOf 59 = .ok (.lstore 6, 2) := by decide +kernel
theorem d_Desk_greatestOf_61 : decode c_Desk_greatestOf 61 = .ok (.iinc 8 1, 3) := by decide +kernel
theorem d_Desk_greatestOf_64 : decode c_Desk_greatestOf 64 = .ok (.goto (-33), 3) := by decide +kernel
theorem d_Desk_greatestOf_67 : decode c_Desk_greatestOf 67 = .ok (.lload 4, 2) := by decide +kernel
theorem d_Desk_greatestOf_69 : decode c_Desk_greatestOf 69 = .ok (.lreturn, 1) := by decide +kernel
abbrev c_Poly_leading : ByteArray := prog_7_method_5_code
abbrev y_Poly_leading : MethodName := ⟨"FactorDesk$Poly", "leading", "()J"⟩
theorem d_Poly_leading_0 : decode c_Poly_leading 0 = .ok (.aload_n 0, 1) := by decide +kernel
theorem d_Poly_leading_1 : decode c_Poly_leading 1 = .ok (.getfield 15, 3) := by decide +kernel
theorem d_Poly_leading_4 : decode c_Poly_leading 4 = .ok (.ifCond .ge 7, 3) := by decide +kernel
theorem d_Poly_leading_7 : decode c_Poly_leading 7 = .ok (.lconst 0, 1) := by decide +kernel
theorem d_Poly_leading_8 : decode c_Poly_leading 8 = .ok (.goto 12, 3) := by decide +kernel
theorem d_Poly_leading_11 : decode c_Poly_leading 11 = .ok (.aload_n 0, 1) := by decide +kernel
theorem d_Poly_leading_12 : decode c_Poly_leading 12 = .ok (.getfield 9, 3) := by decide +kernel
theorem d_Poly_leading_15 : decode c_Poly_leading 15 = .ok (.aload_n 0, 1) := by decide +kernel
theorem d_Poly_leading_16 : decode c_Poly_leading 16 = .ok (.getfield 15, 3) := by decide +kernel
theorem d_Poly_leading_19 : decode c_Poly_leading 19 = .ok (.laload, 1) := by decide +kernel
theorem d_Poly_leading_20 : decode c_Poly_leading 20 = .ok (.lreturn, 1) := by decide +kernel
abbrev c_Poly_greatestNumber : ByteArray := prog_7_method_6_code
abbrev y_Poly_greatestNumber : MethodName := ⟨"FactorDesk$Poly", "greatestNumber", "()J"⟩
theorem d_Poly_greatestNumber_0 : decode c_Poly_greatestNumber 0 = .ok (.lconst 0, 1) := by decide +kernel
theorem d_Poly_greatestNumber_1 : decode c_Poly_greatestNumber 1 = .ok (.lstore_n 1, 1) := by decide +kernel
theorem d_Poly_greatestNumber_2 : decode c_Poly_greatestNumber 2 = .ok (.iconst 0, 1) := by decide +kernel
theorem d_Poly_greatestNumber_3 : decode c_Poly_greatestNumber 3 = .ok (.istore_n 3, 1) := by decide +kernel
theorem d_Poly_greatestNumber_4 : decode c_Poly_greatestNumber 4 = .ok (.iload_n 3, 1) := by decide +kernel
theorem d_Poly_greatestNumber_5 : decode c_Poly_greatestNumber 5 = .ok (.aload_n 0, 1) := by decide +kernel
theorem d_Poly_greatestNumber_6 : decode c_Poly_greatestNumber 6 = .ok (.getfield 15, 3) := by decide +kernel
theorem d_Poly_greatestNumber_9 : decode c_Poly_greatestNumber 9 = .ok (.if_icmp .gt 26, 3) := by decide +kernel
theorem d_Poly_greatestNumber_12 : decode c_Poly_greatestNumber 12 = .ok (.lload_n 1, 1) := by decide +kernel
theorem d_Poly_greatestNumber_13 : decode c_Poly_greatestNumber 13 = .ok (.lconst 1, 1) := by decide +kernel
theorem d_Poly_greatestNumber_14 : decode c_Poly_greatestNumber 14 = .ok (.lcmp, 1) := by decide +kernel
theorem d_Poly_greatestNumber_15 : decode c_Poly_greatestNumber 15 = .ok (.ifCond .eq 20, 3) := by decide +kernel
theorem d_Poly_greatestNumber_18 : decode c_Poly_greatestNumber 18 = .ok (.lload_n 1, 1) := by decide +kernel
theorem d_Poly_greatestNumber_19 : decode c_Poly_greatestNumber 19 = .ok (.aload_n 0, 1) := by decide +kernel
theorem d_Poly_greatestNumber_20 : decode c_Poly_greatestNumber 20 = .ok (.getfield 9, 3) := by decide +kernel
theorem d_Poly_greatestNumber_23 : decode c_Poly_greatestNumber 23 = .ok (.iload_n 3, 1) := by decide +kernel
theorem d_Poly_greatestNumber_24 : decode c_Poly_greatestNumber 24 = .ok (.laload, 1) := by decide +kernel
theorem d_Poly_greatestNumber_25 : decode c_Poly_greatestNumber 25 = .ok (.invokestatic 25, 3) := by decide +kernel
theorem d_Poly_greatestNumber_28 : decode c_Poly_greatestNumber 28 = .ok (.lstore_n 1, 1) := by decide +kernel
theorem d_Poly_greatestNumber_29 : decode c_Poly_greatestNumber 29 = .ok (.iinc 3 1, 3) := by decide +kernel
theorem d_Poly_greatestNumber_32 : decode c_Poly_greatestNumber 32 = .ok (.goto (-28), 3) := by decide +kernel
theorem d_Poly_greatestNumber_35 : decode c_Poly_greatestNumber 35 = .ok (.lload_n 1, 1) := by decide +kernel
theorem d_Poly_greatestNumber_36 : decode c_Poly_greatestNumber 36 = .ok (.lreturn, 1) := by decide +kernel
abbrev c_Poly_makePrimitive : ByteArray := prog_7_method_7_code
abbrev y_Poly_makePrimitive : MethodName := ⟨"FactorDesk$Poly", "makePrimitive", "()V"⟩
theorem d_Poly_makePrimitive_0 : decode c_Poly_makePrimitive 0 = .ok (.aload_n 0, 1) := by decide +kernel
theorem d_Poly_makePrimitive_1 : decode c_Poly_makePrimitive 1 = .ok (.invokevirtual 29, 3) := by decide +kernel
theorem d_Poly_makePrimitive_4 : decode c_Poly_makePrimitive 4 = .ok (.lconst 0, 1) := by decide +kernel
theorem d_Poly_makePrimitive_5 : decode c_Poly_makePrimitive 5 = .ok (.lcmp, 1) := by decide +kernel
theorem d_Poly_makePrimitive_6 : decode c_Poly_makePrimitive 6 = .ok (.ifCond .ge 11, 3) := by decide +kernel
theorem d_Poly_makePrimitive_9 : decode c_Poly_makePrimitive 9 = .ok (.aload_n 0, 1) := by decide +kernel
theorem d_Poly_makePrimitive_10 : decode c_Poly_makePrimitive 10 = .ok (.invokevirtual 33, 3) := by decide +kernel
theorem d_Poly_makePrimitive_13 : decode c_Poly_makePrimitive 13 = .ok (.lneg, 1) := by decide +kernel
theorem d_Poly_makePrimitive_14 : decode c_Poly_makePrimitive 14 = .ok (.goto 7, 3) := by decide +kernel
theorem d_Poly_makePrimitive_17 : decode c_Poly_makePrimitive 17 = .ok (.aload_n 0, 1) := by decide +kernel
theorem d_Poly_makePrimitive_18 : decode c_Poly_makePrimitive 18 = .ok (.invokevirtual 33, 3) := by decide +kernel
theorem d_Poly_makePrimitive_21 : decode c_Poly_makePrimitive 21 = .ok (.lstore_n 1, 1) := by decide +kernel
theorem d_Poly_makePrimitive_22 : decode c_Poly_makePrimitive 22 = .ok (.lload_n 1, 1) := by decide +kernel
theorem d_Poly_makePrimitive_23 : decode c_Poly_makePrimitive 23 = .ok (.lconst 0, 1) := by decide +kernel
theorem d_Poly_makePrimitive_24 : decode c_Poly_makePrimitive 24 = .ok (.lcmp, 1) := by decide +kernel
theorem d_Poly_makePrimitive_25 : decode c_Poly_makePrimitive 25 = .ok (.ifCond .eq 9, 3) := by decide +kernel
theorem d_Poly_makePrimitive_28 : decode c_Poly_makePrimitive 28 = .ok (.lload_n 1, 1) := by decide +kernel
theorem d_Poly_makePrimitive_29 : decode c_Poly_makePrimitive 29 = .ok (.lconst 1, 1) := by decide +kernel
theorem d_Poly_makePrimitive_30 : decode c_Poly_makePrimitive 30 = .ok (.lcmp, 1) := by decide +kernel
theorem d_Poly_makePrimitive_31 : decode c_Poly_makePrimitive 31 = .ok (.ifCond .ne 4, 3) := by decide +kernel
theorem d_Poly_makePrimitive_34 : decode c_Poly_makePrimitive 34 = .ok (.return_, 1) := by decide +kernel
theorem d_Poly_makePrimitive_35 : decode c_Poly_makePrimitive 35 = .ok (.iconst 0, 1) := by decide +kernel
theorem d_Poly_makePrimitive_36 : decode c_Poly_makePrimitive 36 = .ok (.istore_n 3, 1) := by decide +kernel
theorem d_Poly_makePrimitive_37 : decode c_Poly_makePrimitive 37 = .ok (.iload_n 3, 1) := by decide +kernel
theorem d_Poly_makePrimitive_38 : decode c_Poly_makePrimitive 38 = .ok (.aload_n 0, 1) := by decide +kernel
theorem d_Poly_makePrimitive_39 : decode c_Poly_makePrimitive 39 = .ok (.getfield 15, 3) := by decide +kernel
theorem d_Poly_makePrimitive_42 : decode c_Poly_makePrimitive 42 = .ok (.if_icmp .gt 19, 3) := by decide +kernel
theorem d_Poly_makePrimitive_45 : decode c_Poly_makePrimitive 45 = .ok (.aload_n 0, 1) := by decide +kernel
theorem d_Poly_makePrimitive_46 : decode c_Poly_makePrimitive 46 = .ok (.getfield 9, 3) := by decide +kernel
theorem d_Poly_makePrimitive_49 : decode c_Poly_makePrimitive 49 = .ok (.iload_n 3, 1) := by decide +kernel
theorem d_Poly_makePrimitive_50 : decode c_Poly_makePrimitive 50 = .ok (.dup2, 1) := by decide +kernel
theorem d_Poly_makePrimitive_51 : decode c_Poly_makePrimitive 51 = .ok (.laload, 1) := by decide +kernel
theorem d_Poly_makePrimitive_52 : decode c_Poly_makePrimitive 52 = .ok (.lload_n 1, 1) := by decide +kernel
theorem d_Poly_makePrimitive_53 : decode c_Poly_makePrimitive 53 = .ok (.ldiv, 1) := by decide +kernel
theorem d_Poly_makePrimitive_54 : decode c_Poly_makePrimitive 54 = .ok (.lastore, 1) := by decide +kernel
theorem d_Poly_makePrimitive_55 : decode c_Poly_makePrimitive 55 = .ok (.iinc 3 1, 3) := by decide +kernel
theorem d_Poly_makePrimitive_58 : decode c_Poly_makePrimitive 58 = .ok (.goto (-21), 3) := by decide +kernel
theorem d_Poly_makePrimitive_61 : decode c_Poly_makePrimitive 61 = .ok (.return_, 1) := by decide +kernel
theorem g_353 : jG (Jvm.Cond.code ({ cls := "FactorDesk", name := "greatestOf", desc := "(JJ)J" } : Jvm.MethodName) prog_1_method_21_code (11 : Nat) (Option.some Jvm.ClassFile.FieldType.long)) := jG_of 418 (by decide +kernel) (by decide +kernel)
theorem g_1 : jG (Jvm.Cond.initialized "FactorDesk") := jG_of 66 (by decide +kernel) (by decide +kernel)
theorem g_352 : jG (Jvm.Cond.static ({ cls := "FactorDesk", name := "greatestOf", desc := "(JJ)J" } : Jvm.MethodName)) := jG_of 417 (by decide +kernel) (by decide +kernel)
theorem g_377 : jG (Jvm.Cond.methodLink "FactorDesk$Poly" (29 : Nat) ({ cls := "FactorDesk$Poly", name := "leading", desc := "()J" } : Jvm.MethodName)) := jG_of 442 (by decide +kernel) (by decide +kernel)
theorem g_357 : jG (Jvm.Cond.code ({ cls := "FactorDesk$Poly", name := "leading", desc := "()J" } : Jvm.MethodName) prog_7_method_5_code (1 : Nat) (Option.some Jvm.ClassFile.FieldType.long)) := jG_of 422 (by decide +kernel) (by decide +kernel)
theorem g_355 : jG (Jvm.Cond.instanceMethod ({ cls := "FactorDesk$Poly", name := "leading", desc := "()J" } : Jvm.MethodName)) := jG_of 420 (by decide +kernel) (by decide +kernel)
theorem g_356 : jG (Jvm.Cond.selects "FactorDesk$Poly" ({ cls := "FactorDesk$Poly", name := "leading", desc := "()J" } : Jvm.MethodName) ({ cls := "FactorDesk$Poly", name := "leading", desc := "()J" } : Jvm.MethodName)) := jG_of 421 (by decide +kernel) (by decide +kernel)
theorem g_378 : jG (Jvm.Cond.methodLink "FactorDesk$Poly" (33 : Nat) ({ cls := "FactorDesk$Poly", name := "greatestNumber", desc := "()J" } : Jvm.MethodName)) := jG_of 443 (by decide +kernel) (by decide +kernel)
theorem g_350 : jG (Jvm.Cond.code ({ cls := "FactorDesk$Poly", name := "greatestNumber", desc := "()J" } : Jvm.MethodName) prog_7_method_6_code (4 : Nat) (Option.some Jvm.ClassFile.FieldType.long)) := jG_of 415 (by decide +kernel) (by decide +kernel)
theorem g_348 : jG (Jvm.Cond.instanceMethod ({ cls := "FactorDesk$Poly", name := "greatestNumber", desc := "()J" } : Jvm.MethodName)) := jG_of 413 (by decide +kernel) (by decide +kernel)
theorem g_349 : jG (Jvm.Cond.selects "FactorDesk$Poly" ({ cls := "FactorDesk$Poly", name := "greatestNumber", desc := "()J" } : Jvm.MethodName) ({ cls := "FactorDesk$Poly", name := "greatestNumber", desc := "()J" } : Jvm.MethodName)) := jG_of 414 (by decide +kernel) (by decide +kernel)
set_option maxHeartbeats 4000000 in
set_option maxRecDepth 100000 in
theorem k_gOf01 (l : Launch) {b : Nat} {D : va_G} {Y : Nat → ClassId} {s0 : State} (Z : jS0 b D Y s0) (n : Nat) (h : jH) : jMet l D s0 y_Desk_greatestOf c_Desk_greatestOf 11 (some .long) 1 [.long 0, .long 1] h n 0 0 (fun r h2 n2 => r = some (.long 1) ∧ h = h2 ∧ n = n2) := by
  refine jMet_of Z (by decide) (Nat.le_of_ble_eq_true rfl) ?_
  intro p e s m below meth c
  refine j_lload_n d_Desk_greatestOf_0 0 rfl ?_
  refine j_lconst d_Desk_greatestOf_1 (v := 0) (by decide) ?_
  refine j_lcmp d_Desk_greatestOf_2 ?_
  refine j_if_ge_t (tgt := 11) d_Desk_greatestOf_3 (by decide) (by decide) ?_
  refine j_lload_n d_Desk_greatestOf_11 0 rfl ?_
  refine j_lstore d_Desk_greatestOf_12 (Nat.le_of_ble_eq_true rfl) rfl ?_
  refine j_lload_n d_Desk_greatestOf_14 2 rfl ?_
  refine j_lconst d_Desk_greatestOf_15 (v := 0) (by decide) ?_
  refine j_lcmp d_Desk_greatestOf_16 ?_
  refine j_if_ge_t (tgt := 25) d_Desk_greatestOf_17 (by decide) (by decide) ?_
  refine j_lload_n d_Desk_greatestOf_25 2 rfl ?_
  refine j_lstore d_Desk_greatestOf_26 (Nat.le_of_ble_eq_true rfl) rfl ?_
  refine j_iconst d_Desk_greatestOf_28 (v := 0) (by decide) ?_
  refine j_istore d_Desk_greatestOf_29 (Nat.le_of_ble_eq_true rfl) rfl ?_
  refine j_iload d_Desk_greatestOf_31 0 rfl ?_
  refine j_sipush d_Desk_greatestOf_33 (v := 200) (by decide) ?_
  refine j_icmp_ge_f (tgt := 67) d_Desk_greatestOf_36 (by decide) (by decide) ?_
  refine j_lload d_Desk_greatestOf_39 1 rfl ?_
  refine j_lconst d_Desk_greatestOf_41 (v := 0) (by decide) ?_
  refine j_lcmp d_Desk_greatestOf_42 ?_
  refine j_if_eq_f (tgt := 67) d_Desk_greatestOf_43 (by decide) (by decide) ?_
  refine j_lload d_Desk_greatestOf_46 2 rfl ?_
  refine j_lload d_Desk_greatestOf_48 1 rfl ?_
  refine j_lrem d_Desk_greatestOf_50 (by decide) ?_
  refine j_lstore d_Desk_greatestOf_51 (Nat.le_of_ble_eq_true rfl) rfl ?_
  refine j_lload d_Desk_greatestOf_53 2 rfl ?_
  refine j_lstore d_Desk_greatestOf_55 (Nat.le_of_ble_eq_true rfl) rfl ?_
  refine j_lload d_Desk_greatestOf_57 1 rfl ?_
  refine j_lstore d_Desk_greatestOf_59 (Nat.le_of_ble_eq_true rfl) rfl ?_
  refine j_iinc d_Desk_greatestOf_61 3 rfl rfl (Nat.le_of_ble_eq_true rfl) rfl ?_
  refine j_goto (tgt := 31) d_Desk_greatestOf_64 (by decide) ?_
  refine j_iload d_Desk_greatestOf_31 0 rfl ?_
  refine j_sipush d_Desk_greatestOf_33 (v := 200) (by decide) ?_
  refine j_icmp_ge_f (tgt := 67) d_Desk_greatestOf_36 (by decide) (by decide) ?_
  refine j_lload d_Desk_greatestOf_39 1 rfl ?_
  refine j_lconst d_Desk_greatestOf_41 (v := 0) (by decide) ?_
  refine j_lcmp d_Desk_greatestOf_42 ?_
  refine j_if_eq_t (tgt := 67) d_Desk_greatestOf_43 (by decide) (by decide) ?_
  refine j_lload d_Desk_greatestOf_67 2 rfl ?_
  exact j_lret rfl d_Desk_greatestOf_69 ⟨rfl, rfl, rfl⟩
set_option maxHeartbeats 4000000 in
set_option maxRecDepth 100000 in
theorem k_leading (l : Launch) {b : Nat} {D : va_G} {Y : Nat → ClassId} {s0 : State} (Z : jS0 b D Y s0) (a q n : Nat) (h : jH) (H0 : h a = some (.inr (0, [.ref q, .int 0]))) (H1 : h q = some (.inl (Y 1, 13, .inr (.inl jOne)))) : jMet l D s0 y_Poly_leading c_Poly_leading 1 (some .long) 1 [.ref a] h n 0 0 (fun r h2 n2 => r = some (.long 1) ∧ h = h2 ∧ n = n2) := by
  refine jMet_of Z (by decide) (Nat.le_of_ble_eq_true rfl) ?_
  intro p e s m below meth c
  refine j_aload_n d_Poly_leading_0 0 rfl ?_
  refine j_get iw_Poly (ci := 0) (kf := 1) rfl (by decide) g_41 d_Poly_leading_1 H0 rfl ?_
  refine j_if_ge_t (tgt := 11) d_Poly_leading_4 (by decide) (by decide) ?_
  refine j_aload_n d_Poly_leading_11 0 rfl ?_
  refine j_get iw_Poly (ci := 0) (kf := 0) rfl (by decide) g_33 d_Poly_leading_12 H0 rfl ?_
  refine j_aload_n d_Poly_leading_15 0 rfl ?_
  refine j_get iw_Poly (ci := 0) (kf := 1) rfl (by decide) g_41 d_Poly_leading_16 H0 rfl ?_
  refine j_lald d_Poly_leading_19 H1 (by unfold vp_in; decide) ?_
  exact j_lret rfl d_Poly_leading_20 ⟨rfl, rfl, rfl⟩
set_option maxHeartbeats 4000000 in
set_option maxRecDepth 100000 in
theorem k_greatestNumber (l : Launch) {b : Nat} {D : va_G} {Y : Nat → ClassId} {s0 : State} (Z : jS0 b D Y s0) (a q n : Nat) (h : jH) (H0 : h a = some (.inr (0, [.ref q, .int 0]))) (H1 : h q = some (.inl (Y 1, 13, .inr (.inl jOne)))) : jMet l D s0 y_Poly_greatestNumber c_Poly_greatestNumber 4 (some .long) 2 [.ref a] h n 0 0 (fun r h2 n2 => r = some (.long 1) ∧ h = h2 ∧ n = n2) := by
  refine jMet_of Z (by decide) (Nat.le_of_ble_eq_true rfl) ?_
  intro p e s m below meth c
  refine j_lconst d_Poly_greatestNumber_0 (v := 0) (by decide) ?_
  refine j_lstore_n d_Poly_greatestNumber_1 (Nat.le_of_ble_eq_true rfl) rfl ?_
  refine j_iconst d_Poly_greatestNumber_2 (v := 0) (by decide) ?_
  refine j_istore_n d_Poly_greatestNumber_3 (Nat.le_of_ble_eq_true rfl) rfl ?_
  refine j_iload_n d_Poly_greatestNumber_4 0 rfl ?_
  refine j_aload_n d_Poly_greatestNumber_5 2 rfl ?_
  refine j_get iw_Poly (ci := 0) (kf := 1) rfl (by decide) g_41 d_Poly_greatestNumber_6 H0 rfl ?_
  refine j_icmp_gt_f (tgt := 35) d_Poly_greatestNumber_9 (by decide) (by decide) ?_
  refine j_lload_n d_Poly_greatestNumber_12 1 rfl ?_
  refine j_lconst d_Poly_greatestNumber_13 (v := 1) (by decide) ?_
  refine j_lcmp d_Poly_greatestNumber_14 ?_
  refine j_if_eq_f (tgt := 35) d_Poly_greatestNumber_15 (by decide) (by decide) ?_
  refine j_lload_n d_Poly_greatestNumber_18 1 rfl ?_
  refine j_aload_n d_Poly_greatestNumber_19 2 rfl ?_
  refine j_get iw_Poly (ci := 0) (kf := 0) rfl (by decide) g_33 d_Poly_greatestNumber_20 H0 rfl ?_
  refine j_iload_n d_Poly_greatestNumber_23 0 rfl ?_
  refine j_lald d_Poly_greatestNumber_24 H1 (by unfold vp_in; decide) ?_
  refine j_callSN (host := "FactorDesk") (k_gOf01 l Z n h) ⟨Nat.le_of_ble_eq_true rfl, Nat.le_of_ble_eq_true rfl⟩ (List.mem_of_getElem? (i := 416) (by decide +kernel)) g_353 g_1 (by decide +kernel) g_352 ⟨(by first | exact Nat.le_of_ble_eq_true rfl | (simp only [jrm]; omega)), (by first | exact Nat.le_of_ble_eq_true rfl | (simp only [jrm]; omega))⟩ (Nat.le_of_ble_eq_true rfl) d_Poly_greatestNumber_25 (fun r0 h0 n0 P0 => ?_)
  obtain ⟨rfl, rfl, rfl⟩ := P0
  refine j_lstore_n d_Poly_greatestNumber_28 (Nat.le_of_ble_eq_true rfl) rfl ?_
  refine j_iinc d_Poly_greatestNumber_29 1 rfl rfl (Nat.le_of_ble_eq_true rfl) rfl ?_
  refine j_goto (tgt := 4) d_Poly_greatestNumber_32 (by decide) ?_
  refine j_iload_n d_Poly_greatestNumber_4 0 rfl ?_
  refine j_aload_n d_Poly_greatestNumber_5 2 rfl ?_
  refine j_get iw_Poly (ci := 0) (kf := 1) rfl (by decide) g_41 d_Poly_greatestNumber_6 H0 rfl ?_
  refine j_icmp_gt_t (tgt := 35) d_Poly_greatestNumber_9 (by decide) (by decide) ?_
  refine j_lload_n d_Poly_greatestNumber_35 1 rfl ?_
  exact j_lret rfl d_Poly_greatestNumber_36 ⟨rfl, rfl, rfl⟩
set_option maxHeartbeats 4000000 in
set_option maxRecDepth 100000 in
theorem k_makePrimitive (l : Launch) {b : Nat} {D : va_G} {Y : Nat → ClassId} {s0 : State} (Z : jS0 b D Y s0) (a q n : Nat) (h : jH) (H0 : h a = some (.inr (0, [.ref q, .int 0]))) (H1 : h q = some (.inl (Y 1, 13, .inr (.inl jOne)))) : jMet l D s0 y_Poly_makePrimitive c_Poly_makePrimitive 4 none 3 [.ref a] h n 0 0 (fun r h2 n2 => r = none ∧ h = h2 ∧ n = n2) := by
  refine jMet_of Z (by decide) (Nat.le_of_ble_eq_true rfl) ?_
  intro p e s m below meth c
  refine j_aload_n d_Poly_makePrimitive_0 0 rfl ?_
  refine j_callV (k_leading l Z a q n h H0 H1) ⟨⟨Nat.le_of_ble_eq_true rfl, Nat.le_of_ble_eq_true rfl⟩, g_377, g_357, g_2, by decide +kernel⟩ g_355 g_356 (ci := 0) rfl H0 ⟨(by first | exact Nat.le_of_ble_eq_true rfl | (simp only [jrm]; omega)), (by first | exact Nat.le_of_ble_eq_true rfl | (simp only [jrm]; omega))⟩ (Nat.le_of_ble_eq_true rfl) d_Poly_makePrimitive_1 (fun r0 h0 n0 P0 => ?_)
  obtain ⟨rfl, rfl, rfl⟩ := P0
  refine j_lconst d_Poly_makePrimitive_4 (v := 0) (by decide) ?_
  refine j_lcmp d_Poly_makePrimitive_5 ?_
  refine j_if_ge_t (tgt := 17) d_Poly_makePrimitive_6 (by decide) (by decide) ?_
  refine j_aload_n d_Poly_makePrimitive_17 0 rfl ?_
  refine j_callV (k_greatestNumber l Z a q n h H0 H1) ⟨⟨Nat.le_of_ble_eq_true rfl, Nat.le_of_ble_eq_true rfl⟩, g_378, g_350, g_2, by decide +kernel⟩ g_348 g_349 (ci := 0) rfl H0 ⟨(by first | exact Nat.le_of_ble_eq_true rfl | (simp only [jrm]; omega)), (by first | exact Nat.le_of_ble_eq_true rfl | (simp only [jrm]; omega))⟩ (Nat.le_of_ble_eq_true rfl) d_Poly_makePrimitive_18 (fun r1 h1 n1 P1 => ?_)
  obtain ⟨rfl, rfl, rfl⟩ := P1
  refine j_lstore_n d_Poly_makePrimitive_21 (Nat.le_of_ble_eq_true rfl) rfl ?_
  refine j_lload_n d_Poly_makePrimitive_22 0 rfl ?_
  refine j_lconst d_Poly_makePrimitive_23 (v := 0) (by decide) ?_
  refine j_lcmp d_Poly_makePrimitive_24 ?_
  refine j_if_eq_f (tgt := 34) d_Poly_makePrimitive_25 (by decide) (by decide) ?_
  refine j_lload_n d_Poly_makePrimitive_28 0 rfl ?_
  refine j_lconst d_Poly_makePrimitive_29 (v := 1) (by decide) ?_
  refine j_lcmp d_Poly_makePrimitive_30 ?_
  refine j_if_ne_f (tgt := 35) d_Poly_makePrimitive_31 (by decide) (by decide) ?_
  exact j_vret rfl d_Poly_makePrimitive_34 ⟨rfl, rfl, rfl⟩
end
section
abbrev c_Poly_copyFrom : ByteArray := prog_7_method_2_code
abbrev y_Poly_copyFrom : MethodName := ⟨"FactorDesk$Poly", "copyFrom", "(LFactorDesk$Poly;)V"⟩
theorem d_Poly_copyFrom_0 : decode c_Poly_copyFrom 0 = .ok (.aload_n 1, 1) := by decide +kernel
theorem d_Poly_copyFrom_1 : decode c_Poly_copyFrom 1 = .ok (.getfield 9, 3) := by decide +kernel
theorem d_Poly_copyFrom_4 : decode c_Poly_copyFrom 4 = .ok (.iconst 0, 1) := by decide +kernel
theorem d_Poly_copyFrom_5 : decode c_Poly_copyFrom 5 = .ok (.aload_n 0, 1) := by decide +kernel
theorem d_Poly_copyFrom_6 : decode c_Poly_copyFrom 6 = .ok (.getfield 9, 3) := by decide +kernel
theorem d_Poly_copyFrom_9 : decode c_Poly_copyFrom 9 = .ok (.iconst 0, 1) := by decide +kernel
theorem d_Poly_copyFrom_10 : decode c_Poly_copyFrom 10 = .ok (.bipush 13, 2) := by decide +kernel
theorem d_Poly_copyFrom_12 : decode c_Poly_copyFrom 12 = .ok (.invokestatic 19, 3) := by decide +kernel
theorem d_Poly_copyFrom_15 : decode c_Poly_copyFrom 15 = .ok (.aload_n 0, 1) := by decide +kernel
theorem d_Poly_copyFrom_16 : decode c_Poly_copyFrom 16 = .ok (.aload_n 1, 1) := by decide +kernel
theorem d_Poly_copyFrom_17 : decode c_Poly_copyFrom 17 = .ok (.getfield 15, 3) := by decide +kernel
theorem d_Poly_copyFrom_20 : decode c_Poly_copyFrom 20 = .ok (.putfield 15, 3) := by decide +kernel
theorem d_Poly_copyFrom_23 : decode c_Poly_copyFrom 23 = .ok (.return_, 1) := by decide +kernel
abbrev c_Poly_takeOutX : ByteArray := prog_7_method_9_code
abbrev y_Poly_takeOutX : MethodName := ⟨"FactorDesk$Poly", "takeOutX", "()I"⟩
theorem d_Poly_takeOutX_0 : decode c_Poly_takeOutX 0 = .ok (.iconst 0, 1) := by decide +kernel
theorem d_Poly_takeOutX_1 : decode c_Poly_takeOutX 1 = .ok (.istore_n 1, 1) := by decide +kernel
theorem d_Poly_takeOutX_2 : decode c_Poly_takeOutX 2 = .ok (.iload_n 1, 1) := by decide +kernel
theorem d_Poly_takeOutX_3 : decode c_Poly_takeOutX 3 = .ok (.aload_n 0, 1) := by decide +kernel
theorem d_Poly_takeOutX_4 : decode c_Poly_takeOutX 4 = .ok (.getfield 15, 3) := by decide +kernel
theorem d_Poly_takeOutX_7 : decode c_Poly_takeOutX 7 = .ok (.if_icmp .ge 20, 3) := by decide +kernel
theorem d_Poly_takeOutX_10 : decode c_Poly_takeOutX 10 = .ok (.aload_n 0, 1) := by decide +kernel
theorem d_Poly_takeOutX_11 : decode c_Poly_takeOutX 11 = .ok (.getfield 9, 3) := by decide +kernel
theorem d_Poly_takeOutX_14 : decode c_Poly_takeOutX 14 = .ok (.iload_n 1, 1) := by decide +kernel
theorem d_Poly_takeOutX_15 : decode c_Poly_takeOutX 15 = .ok (.laload, 1) := by decide +kernel
theorem d_Poly_takeOutX_16 : decode c_Poly_takeOutX 16 = .ok (.lconst 0, 1) := by decide +kernel
theorem d_Poly_takeOutX_17 : decode c_Poly_takeOutX 17 = .ok (.lcmp, 1) := by decide +kernel
theorem d_Poly_takeOutX_18 : decode c_Poly_takeOutX 18 = .ok (.ifCond .ne 9, 3) := by decide +kernel
theorem d_Poly_takeOutX_21 : decode c_Poly_takeOutX 21 = .ok (.iinc 1 1, 3) := by decide +kernel
theorem d_Poly_takeOutX_24 : decode c_Poly_takeOutX 24 = .ok (.goto (-22), 3) := by decide +kernel
theorem d_Poly_takeOutX_27 : decode c_Poly_takeOutX 27 = .ok (.iconst 0, 1) := by decide +kernel
theorem d_Poly_takeOutX_28 : decode c_Poly_takeOutX 28 = .ok (.istore_n 2, 1) := by decide +kernel
theorem d_Poly_takeOutX_29 : decode c_Poly_takeOutX 29 = .ok (.iload_n 2, 1) := by decide +kernel
theorem d_Poly_takeOutX_30 : decode c_Poly_takeOutX 30 = .ok (.bipush 12, 2) := by decide +kernel
theorem d_Poly_takeOutX_32 : decode c_Poly_takeOutX 32 = .ok (.if_icmp .gt 35, 3) := by decide +kernel
theorem d_Poly_takeOutX_35 : decode c_Poly_takeOutX 35 = .ok (.aload_n 0, 1) := by decide +kernel
theorem d_Poly_takeOutX_36 : decode c_Poly_takeOutX 36 = .ok (.getfield 9, 3) := by decide +kernel
theorem d_Poly_takeOutX_39 : decode c_Poly_takeOutX 39 = .ok (.iload_n 2, 1) := by decide +kernel
theorem d_Poly_takeOutX_40 : decode c_Poly_takeOutX 40 = .ok (.iload_n 2, 1) := by decide +kernel
theorem d_Poly_takeOutX_41 : decode c_Poly_takeOutX 41 = .ok (.iload_n 1, 1) := by decide +kernel
theorem d_Poly_takeOutX_42 : decode c_Poly_takeOutX 42 = .ok (.iadd, 1) := by decide +kernel
theorem d_Poly_takeOutX_43 : decode c_Poly_takeOutX 43 = .ok (.bipush 12, 2) := by decide +kernel
theorem d_Poly_takeOutX_45 : decode c_Poly_takeOutX 45 = .ok (.if_icmp .gt 14, 3) := by decide +kernel
theorem d_Poly_takeOutX_48 : decode c_Poly_takeOutX 48 = .ok (.aload_n 0, 1) := by decide +kernel
theorem d_Poly_takeOutX_49 : decode c_Poly_takeOutX 49 = .ok (.getfield 9, 3) := by decide +kernel
theorem d_Poly_takeOutX_52 : decode c_Poly_takeOutX 52 = .ok (.iload_n 2, 1) := by decide +kernel
theorem d_Poly_takeOutX_53 : decode c_Poly_takeOutX 53 = .ok (.iload_n 1, 1) := by decide +kernel
theorem d_Poly_takeOutX_54 : decode c_Poly_takeOutX 54 = .ok (.iadd, 1) := by decide +kernel
theorem d_Poly_takeOutX_55 : decode c_Poly_takeOutX 55 = .ok (.laload, 1) := by decide +kernel
theorem d_Poly_takeOutX_56 : decode c_Poly_takeOutX 56 = .ok (.goto 4, 3) := by decide +kernel
theorem d_Poly_takeOutX_59 : decode c_Poly_takeOutX 59 = .ok (.lconst 0, 1) := by decide +kernel
theorem d_Poly_takeOutX_60 : decode c_Poly_takeOutX 60 = .ok (.lastore, 1) := by decide +kernel
theorem d_Poly_takeOutX_61 : decode c_Poly_takeOutX 61 = .ok (.iinc 2 1, 3) := by decide +kernel
theorem d_Poly_takeOutX_64 : decode c_Poly_takeOutX 64 = .ok (.goto (-35), 3) := by decide +kernel
theorem d_Poly_takeOutX_67 : decode c_Poly_takeOutX 67 = .ok (.aload_n 0, 1) := by decide +kernel
theorem d_Poly_takeOutX_68 : decode c_Poly_takeOutX 68 = .ok (.dup, 1) := by decide +kernel
theorem d_Poly_takeOutX_69 : decode c_Poly_takeOutX 69 = .ok (.getfield 15, 3) := by decide +kernel
theorem d_Poly_takeOutX_72 : decode c_Poly_takeOutX 72 = .ok (.iload_n 1, 1) := by decide +kernel
theorem d_Poly_takeOutX_73 : decode c_Poly_takeOutX 73 = .ok (.isub, 1) := by decide +kernel
theorem d_Poly_takeOutX_74 : decode c_Poly_takeOutX 74 = .ok (.putfield 15, 3) := by decide +kernel
theorem d_Poly_takeOutX_77 : decode c_Poly_takeOutX 77 = .ok (.iload_n 1, 1) := by decide +kernel
theorem d_Poly_takeOutX_78 : decode c_Poly_takeOutX 78 = .ok (.ireturn, 1) := by decide +kernel
abbrev c_Splt_split : ByteArray := prog_9_method_3_code
abbrev y_Splt_split : MethodName := ⟨"FactorDesk$Splitter", "split", "(LFactorDesk$Poly;)V"⟩
theorem d_Splt_split_0 : decode c_Splt_split 0 = .ok (.aload_n 0, 1) := by decide +kernel
theorem d_Splt_split_1 : decode c_Splt_split 1 = .ok (.getfield 30, 3) := by decide +kernel
theorem d_Splt_split_4 : decode c_Splt_split 4 = .ok (.ifCond .eq 4, 3) := by decide +kernel
theorem d_Splt_split_7 : decode c_Splt_split 7 = .ok (.return_, 1) := by decide +kernel
theorem d_Splt_split_8 : decode c_Splt_split 8 = .ok (.aload_n 0, 1) := by decide +kernel
theorem d_Splt_split_9 : decode c_Splt_split 9 = .ok (.iconst 1, 1) := by decide +kernel
theorem d_Splt_split_10 : decode c_Splt_split 10 = .ok (.putfield 30, 3) := by decide +kernel
theorem d_Splt_split_13 : decode c_Splt_split 13 = .ok (.aload_n 0, 1) := by decide +kernel
theorem d_Splt_split_14 : decode c_Splt_split 14 = .ok (.getfield 12, 3) := by decide +kernel
theorem d_Splt_split_17 : decode c_Splt_split 17 = .ok (.iconst 0, 1) := by decide +kernel
theorem d_Splt_split_18 : decode c_Splt_split 18 = .ok (.putfield 61, 3) := by decide +kernel
theorem d_Splt_split_21 : decode c_Splt_split 21 = .ok (.aload_n 0, 1) := by decide +kernel
theorem d_Splt_split_22 : decode c_Splt_split 22 = .ok (.getfield 51, 3) := by decide +kernel
theorem d_Splt_split_25 : decode c_Splt_split 25 = .ok (.aload_n 1, 1) := by decide +kernel
theorem d_Splt_split_26 : decode c_Splt_split 26 = .ok (.invokevirtual 65, 3) := by decide +kernel
theorem d_Splt_split_29 : decode c_Splt_split 29 = .ok (.aload_n 0, 1) := by decide +kernel
theorem d_Splt_split_30 : decode c_Splt_split 30 = .ok (.getfield 51, 3) := by decide +kernel
theorem d_Splt_split_33 : decode c_Splt_split 33 = .ok (.invokevirtual 69, 3) := by decide +kernel
theorem d_Splt_split_36 : decode c_Splt_split 36 = .ok (.aload_n 0, 1) := by decide +kernel
theorem d_Splt_split_37 : decode c_Splt_split 37 = .ok (.getfield 51, 3) := by decide +kernel
theorem d_Splt_split_40 : decode c_Splt_split 40 = .ok (.invokevirtual 72, 3) := by decide +kernel
theorem d_Splt_split_43 : decode c_Splt_split 43 = .ok (.istore_n 2, 1) := by decide +kernel
theorem d_Splt_split_44 : decode c_Splt_split 44 = .ok (.aload_n 0, 1) := by decide +kernel
theorem d_Splt_split_45 : decode c_Splt_split 45 = .ok (.getfield 51, 3) := by decide +kernel
theorem d_Splt_split_48 : decode c_Splt_split 48 = .ok (.getfield 76, 3) := by decide +kernel
theorem d_Splt_split_51 : decode c_Splt_split 51 = .ok (.ifCond .le 104, 3) := by decide +kernel
theorem d_Splt_split_54 : decode c_Splt_split 54 = .ok (.aload_n 0, 1) := by decide +kernel
theorem d_Splt_split_55 : decode c_Splt_split 55 = .ok (.getfield 58, 3) := by decide +kernel
theorem d_Splt_split_58 : decode c_Splt_split 58 = .ok (.aload_n 0, 1) := by decide +kernel
theorem d_Splt_split_59 : decode c_Splt_split 59 = .ok (.getfield 51, 3) := by decide +kernel
theorem d_Splt_split_62 : decode c_Splt_split 62 = .ok (.invokevirtual 79, 3) := by decide +kernel
theorem d_Splt_split_65 : decode c_Splt_split 65 = .ok (.aload_n 0, 1) := by decide +kernel
theorem d_Splt_split_66 : decode c_Splt_split 66 = .ok (.getfield 21, 3) := by decide +kernel
theorem d_Splt_split_69 : decode c_Splt_split 69 = .ok (.aload_n 0, 1) := by decide +kernel
theorem d_Splt_split_70 : decode c_Splt_split 70 = .ok (.getfield 51, 3) := by decide +kernel
theorem d_Splt_split_73 : decode c_Splt_split 73 = .ok (.aload_n 0, 1) := by decide +kernel
theorem d_Splt_split_74 : decode c_Splt_split 74 = .ok (.getfield 58, 3) := by decide +kernel
theorem d_Splt_split_77 : decode c_Splt_split 77 = .ok (.invokevirtual 82, 3) := by decide +kernel
theorem d_Splt_split_80 : decode c_Splt_split 80 = .ok (.aload_n 0, 1) := by decide +kernel
theorem d_Splt_split_81 : decode c_Splt_split 81 = .ok (.invokevirtual 86, 3) := by decide +kernel
theorem d_Splt_split_84 : decode c_Splt_split 84 = .ok (.aload_n 0, 1) := by decide +kernel
theorem d_Splt_split_85 : decode c_Splt_split 85 = .ok (.getfield 55, 3) := by decide +kernel
theorem d_Splt_split_88 : decode c_Splt_split 88 = .ok (.getfield 76, 3) := by decide +kernel
theorem d_Splt_split_91 : decode c_Splt_split 91 = .ok (.iconst 1, 1) := by decide +kernel
theorem d_Splt_split_92 : decode c_Splt_split 92 = .ok (.if_icmp .le 47, 3) := by decide +kernel
theorem d_Splt_split_95 : decode c_Splt_split 95 = .ok (.aload_n 0, 1) := by decide +kernel
theorem d_Splt_split_96 : decode c_Splt_split 96 = .ok (.getfield 45, 3) := by decide +kernel
theorem d_Splt_split_99 : decode c_Splt_split 99 = .ok (.aload_n 0, 1) := by decide +kernel
theorem d_Splt_split_100 : decode c_Splt_split 100 = .ok (.getfield 55, 3) := by decide +kernel
theorem d_Splt_split_103 : decode c_Splt_split 103 = .ok (.invokevirtual 89, 3) := by decide +kernel
theorem d_Splt_split_106 : decode c_Splt_split 106 = .ok (.ifCond .eq 33, 3) := by decide +kernel
theorem d_Splt_split_109 : decode c_Splt_split 109 = .ok (.aload_n 0, 1) := by decide +kernel
theorem d_Splt_split_110 : decode c_Splt_split 110 = .ok (.getfield 45, 3) := by decide +kernel
theorem d_Splt_split_113 : decode c_Splt_split 113 = .ok (.invokevirtual 95, 3) := by decide +kernel
theorem d_Splt_split_116 : decode c_Splt_split 116 = .ok (.aload_n 0, 1) := by decide +kernel
theorem d_Splt_split_117 : decode c_Splt_split 117 = .ok (.getfield 37, 3) := by decide +kernel
theorem d_Splt_split_120 : decode c_Splt_split 120 = .ok (.aload_n 0, 1) := by decide +kernel
theorem d_Splt_split_121 : decode c_Splt_split 121 = .ok (.getfield 55, 3) := by decide +kernel
theorem d_Splt_split_124 : decode c_Splt_split 124 = .ok (.ldc2_w 98, 3) := by decide +kernel
theorem d_Splt_split_127 : decode c_Splt_split 127 = .ok (.aload_n 0, 1) := by decide +kernel
theorem d_Splt_split_128 : decode c_Splt_split 128 = .ok (.invokevirtual 100, 3) := by decide +kernel
theorem d_Splt_split_131 : decode c_Splt_split 131 = .ok (.lmul, 1) := by decide +kernel
theorem d_Splt_split_132 : decode c_Splt_split 132 = .ok (.invokevirtual 104, 3) := by decide +kernel
theorem d_Splt_split_135 : decode c_Splt_split 135 = .ok (.aload_n 0, 1) := by decide +kernel
theorem d_Splt_split_136 : decode c_Splt_split 136 = .ok (.invokevirtual 108, 3) := by decide +kernel
theorem d_Splt_split_139 : decode c_Splt_split 139 = .ok (.aload_n 0, 1) := by decide +kernel
theorem d_Splt_split_140 : decode c_Splt_split 140 = .ok (.getfield 12, 3) := by decide +kernel
theorem d_Splt_split_143 : decode c_Splt_split 143 = .ok (.aload_n 0, 1) := by decide +kernel
theorem d_Splt_split_144 : decode c_Splt_split 144 = .ok (.getfield 55, 3) := by decide +kernel
theorem d_Splt_split_147 : decode c_Splt_split 147 = .ok (.iconst 1, 1) := by decide +kernel
theorem d_Splt_split_148 : decode c_Splt_split 148 = .ok (.invokevirtual 111, 3) := by decide +kernel
theorem d_Splt_split_151 : decode c_Splt_split 151 = .ok (.aload_n 0, 1) := by decide +kernel
theorem d_Splt_split_152 : decode c_Splt_split 152 = .ok (.invokevirtual 115, 3) := by decide +kernel
theorem d_Splt_split_155 : decode c_Splt_split 155 = .ok (.iload_n 2, 1) := by decide +kernel
theorem d_Splt_split_156 : decode c_Splt_split 156 = .ok (.ifCond .le 41, 3) := by decide +kernel
theorem d_Splt_split_159 : decode c_Splt_split 159 = .ok (.aload_n 0, 1) := by decide +kernel
theorem d_Splt_split_160 : decode c_Splt_split 160 = .ok (.getfield 58, 3) := by decide +kernel
theorem d_Splt_split_163 : decode c_Splt_split 163 = .ok (.lconst 0, 1) := by decide +kernel
theorem d_Splt_split_164 : decode c_Splt_split 164 = .ok (.invokevirtual 118, 3) := by decide +kernel
theorem d_Splt_split_167 : decode c_Splt_split 167 = .ok (.aload_n 0, 1) := by decide +kernel
theorem d_Splt_split_168 : decode c_Splt_split 168 = .ok (.getfield 58, 3) := by decide +kernel
theorem d_Splt_split_171 : decode c_Splt_split 171 = .ok (.getfield 122, 3) := by decide +kernel
theorem d_Splt_split_174 : decode c_Splt_split 174 = .ok (.iconst 1, 1) := by decide +kernel
theorem d_Splt_split_175 : decode c_Splt_split 175 = .ok (.lconst 1, 1) := by decide +kernel
theorem d_Splt_split_176 : decode c_Splt_split 176 = .ok (.lastore, 1) := by decide +kernel
theorem d_Splt_split_177 : decode c_Splt_split 177 = .ok (.aload_n 0, 1) := by decide +kernel
theorem d_Splt_split_178 : decode c_Splt_split 178 = .ok (.getfield 58, 3) := by decide +kernel
theorem d_Splt_split_181 : decode c_Splt_split 181 = .ok (.iconst 1, 1) := by decide +kernel
theorem d_Splt_split_182 : decode c_Splt_split 182 = .ok (.putfield 76, 3) := by decide +kernel
theorem d_Splt_split_185 : decode c_Splt_split 185 = .ok (.aload_n 0, 1) := by decide +kernel
theorem d_Splt_split_186 : decode c_Splt_split 186 = .ok (.getfield 12, 3) := by decide +kernel
theorem d_Splt_split_189 : decode c_Splt_split 189 = .ok (.aload_n 0, 1) := by decide +kernel
theorem d_Splt_split_190 : decode c_Splt_split 190 = .ok (.getfield 58, 3) := by decide +kernel
theorem d_Splt_split_193 : decode c_Splt_split 193 = .ok (.iload_n 2, 1) := by decide +kernel
theorem d_Splt_split_194 : decode c_Splt_split 194 = .ok (.invokevirtual 111, 3) := by decide +kernel
theorem d_Splt_split_197 : decode c_Splt_split 197 = .ok (.return_, 1) := by decide +kernel
theorem g_370 : jG (Jvm.Cond.methodLink "FactorDesk$Poly" (19 : Nat) ({ cls := "java/lang/System", name := "arraycopy", desc := "(Ljava/lang/Object;ILjava/lang/Object;II)V" } : Jvm.MethodName)) := jG_of 435 (by decide +kernel) (by decide +kernel)
theorem g_372 : jG (Jvm.Cond.native ({ cls := "java/lang/System", name := "arraycopy", desc := "(Ljava/lang/Object;ILjava/lang/Object;II)V" } : Jvm.MethodName)) := jG_of 437 (by decide +kernel) (by decide +kernel)
theorem g_371 : jG (Jvm.Cond.static ({ cls := "java/lang/System", name := "arraycopy", desc := "(Ljava/lang/Object;ILjava/lang/Object;II)V" } : Jvm.MethodName)) := jG_of 436 (by decide +kernel) (by decide +kernel)
theorem g_16 : jG (Jvm.Cond.initialized "java/lang/System") := jG_of 81 (by decide +kernel) (by decide +kernel)
theorem g_77 : jG (Jvm.Cond.fieldLink "FactorDesk$Splitter" (61 : Nat) "FactorDesk$FactorList" "count" "I") := jG_of 142 (by decide +kernel) (by decide +kernel)
theorem g_366 : jG (Jvm.Cond.methodLink "FactorDesk$Splitter" (65 : Nat) ({ cls := "FactorDesk$Poly", name := "copyFrom", desc := "(LFactorDesk$Poly;)V" } : Jvm.MethodName)) := jG_of 431 (by decide +kernel) (by decide +kernel)
theorem g_369 : jG (Jvm.Cond.code ({ cls := "FactorDesk$Poly", name := "copyFrom", desc := "(LFactorDesk$Poly;)V" } : Jvm.MethodName) prog_7_method_2_code (2 : Nat) (Option.none : Option Jvm.ClassFile.FieldType)) := jG_of 434 (by decide +kernel) (by decide +kernel)
theorem g_367 : jG (Jvm.Cond.instanceMethod ({ cls := "FactorDesk$Poly", name := "copyFrom", desc := "(LFactorDesk$Poly;)V" } : Jvm.MethodName)) := jG_of 432 (by decide +kernel) (by decide +kernel)
theorem g_368 : jG (Jvm.Cond.selects "FactorDesk$Poly" ({ cls := "FactorDesk$Poly", name := "copyFrom", desc := "(LFactorDesk$Poly;)V" } : Jvm.MethodName) ({ cls := "FactorDesk$Poly", name := "copyFrom", desc := "(LFactorDesk$Poly;)V" } : Jvm.MethodName)) := jG_of 433 (by decide +kernel) (by decide +kernel)
theorem g_373 : jG (Jvm.Cond.methodLink "FactorDesk$Splitter" (69 : Nat) ({ cls := "FactorDesk$Poly", name := "makePrimitive", desc := "()V" } : Jvm.MethodName)) := jG_of 438 (by decide +kernel) (by decide +kernel)
theorem g_376 : jG (Jvm.Cond.code ({ cls := "FactorDesk$Poly", name := "makePrimitive", desc := "()V" } : Jvm.MethodName) prog_7_method_7_code (4 : Nat) (Option.none : Option Jvm.ClassFile.FieldType)) := jG_of 441 (by decide +kernel) (by decide +kernel)
theorem g_374 : jG (Jvm.Cond.instanceMethod ({ cls := "FactorDesk$Poly", name := "makePrimitive", desc := "()V" } : Jvm.MethodName)) := jG_of 439 (by decide +kernel) (by decide +kernel)
theorem g_375 : jG (Jvm.Cond.selects "FactorDesk$Poly" ({ cls := "FactorDesk$Poly", name := "makePrimitive", desc := "()V" } : Jvm.MethodName) ({ cls := "FactorDesk$Poly", name := "makePrimitive", desc := "()V" } : Jvm.MethodName)) := jG_of 440 (by decide +kernel) (by decide +kernel)
theorem g_379 : jG (Jvm.Cond.methodLink "FactorDesk$Splitter" (72 : Nat) ({ cls := "FactorDesk$Poly", name := "takeOutX", desc := "()I" } : Jvm.MethodName)) := jG_of 444 (by decide +kernel) (by decide +kernel)
theorem g_382 : jG (Jvm.Cond.code ({ cls := "FactorDesk$Poly", name := "takeOutX", desc := "()I" } : Jvm.MethodName) prog_7_method_9_code (3 : Nat) (Option.some Jvm.ClassFile.FieldType.int)) := jG_of 447 (by decide +kernel) (by decide +kernel)
theorem g_380 : jG (Jvm.Cond.instanceMethod ({ cls := "FactorDesk$Poly", name := "takeOutX", desc := "()I" } : Jvm.MethodName)) := jG_of 445 (by decide +kernel) (by decide +kernel)
theorem g_381 : jG (Jvm.Cond.selects "FactorDesk$Poly" ({ cls := "FactorDesk$Poly", name := "takeOutX", desc := "()I" } : Jvm.MethodName) ({ cls := "FactorDesk$Poly", name := "takeOutX", desc := "()I" } : Jvm.MethodName)) := jG_of 446 (by decide +kernel) (by decide +kernel)
theorem g_44 : jG (Jvm.Cond.fieldLink "FactorDesk$Splitter" (76 : Nat) "FactorDesk$Poly" "degree" "I") := jG_of 109 (by decide +kernel) (by decide +kernel)
def jDesk (Y : Nat → ClassId) (h : jH) (d : Nat) : Prop := h d = some (.inr (8, [.ref (d + 1), .int 0, .ref (d + 2), .ref (d + 4), .ref (d + 6), .ref (d + 8), .ref (d + 10), .ref (d + 37), .ref (d + 65), .ref (d + 66)])) ∧ h (d + 1) = some (.inl (Y 0, 13, .inl (fun _ => 0))) ∧ h (d + 2) = some (.inr (0, [.ref (d + 3), .int 0])) ∧ h (d + 3) = some (.inl (Y 1, 13, .inr (.inl jOne))) ∧ h (d + 8) = some (.inr (0, [.ref (d + 9), .int 0])) ∧ h (d + 9) = some (.inl (Y 1, 13, .inr (.inl jOne))) ∧ h (d + 10) = some (.inr (1, [.ref (d + 11), .ref (d + 36), .int 0])) ∧ h (d + 37) = some (.inr (7, [.ref (d + 38), .ref (d + 65), .ref (d + 66), .int 0, .ref (d + 83), .ref (d + 84), .ref (d + 202), .ref (d + 204), .ref (d + 206)])) ∧ h (d + 38) = some (.inr (1, [.ref (d + 39), .ref (d + 64), .int 0])) ∧ h (d + 202) = some (.inr (0, [.ref (d + 203), .int (-1)])) ∧ h (d + 203) = some (.inl (Y 1, 13, .inr (.inl (fun _ => 0))))
theorem cpy13 : va_cpy jOne (fun _ => 0) 0 0 13 = jOne := by
  funext k; unfold va_cpy jOne vp_updL; by_cases h : k < 13 <;> simp [h] <;> omega
set_option maxHeartbeats 4000000 in
set_option maxRecDepth 100000 in
theorem k_copyOne (l : Launch) {b : Nat} {D : va_G} {Y : Nat → ClassId} {s0 : State} (Z : jS0 b D Y s0) (a q a2 q2 n : Nat) (dd : Int32) (h : jH) (hne : a ≠ q ∧ a ≠ a2 ∧ a ≠ q2 ∧ q ≠ a2 ∧ q ≠ q2) (H0 : h a = some (.inr (0, [.ref q, .int dd]))) (H1 : h q = some (.inl (Y 1, 13, .inr (.inl (fun _ => 0))))) (H2 : h a2 = some (.inr (0, [.ref q2, .int 0]))) (H3 : h q2 = some (.inl (Y 1, 13, .inr (.inl jOne)))) : jMet l D s0 y_Poly_copyFrom c_Poly_copyFrom 2 none 2 [.ref a, .ref a2] h n 0 0 (fun r h2 n2 => r = none ∧ n = n2 ∧ h2 a = some (.inr (0, [.ref q, .int 0])) ∧ h2 q = some (.inl (Y 1, 13, .inr (.inl jOne))) ∧ ∀ x, x ≠ a → x ≠ q → h2 x = h x) := by
  refine jMet_of Z (by decide) (Nat.le_of_ble_eq_true rfl) ?_
  intro p e s m below meth c
  refine j_aload_n d_Poly_copyFrom_0 1 rfl ?_
  refine j_get iw_Poly (ci := 0) (kf := 0) rfl (by decide) g_33 d_Poly_copyFrom_1 H2 rfl ?_
  refine j_iconst d_Poly_copyFrom_4 (v := 0) (by decide) ?_
  refine j_aload_n d_Poly_copyFrom_5 0 rfl ?_
  refine j_get iw_Poly (ci := 0) (kf := 0) rfl (by decide) g_33 d_Poly_copyFrom_6 H0 rfl ?_
  refine j_iconst d_Poly_copyFrom_9 (v := 0) (by decide) ?_
  refine j_bipush d_Poly_copyFrom_10 (v := 13) (by decide) ?_
  refine j_copyl g_370 g_372 g_371 g_16 H3 H1 (by decide) (by decide) (by decide) (by decide) (by decide) (Nat.le_of_ble_eq_true rfl) (by decide +kernel) d_Poly_copyFrom_12 ?_
  refine j_aload_n d_Poly_copyFrom_15 0 rfl ?_
  refine j_aload_n d_Poly_copyFrom_16 1 rfl ?_
  refine j_get iw_Poly (ci := 0) (kf := 1) rfl (by decide) g_41 d_Poly_copyFrom_17 ((jh_up_n _ _ (by omega)).trans H2) rfl ?_
  refine j_put iw_Poly t_Poly t_Poly_ok n_Poly (ci := 0) (kf := 1) rfl (by decide) g_41 rfl (t_Poly_ok 1 (by decide)) rfl rfl d_Poly_copyFrom_20 ((jh_up_n _ _ (by omega)).trans H0) (Nat.le_of_ble_eq_true rfl) ?_
  refine j_vret rfl d_Poly_copyFrom_23 ⟨rfl, rfl, (jh_up_s _ _ _), ((jh_up_n _ _ (by omega)).trans (jh_up_s _ _ _)).trans (congrArg (fun f => some (Sum.inl (Y 1, 13, Sum.inr (Sum.inl f)))) cpy13), fun x h1 h2 => ((jh_up_n _ _ (by omega)).trans (jh_up_n _ _ (by omega)))⟩
theorem updS {f : Nat → Int64} {i : Nat} {x : Int64} (h : x = f i) : vp_updL f i x = f := by
  subst h; funext j; unfold vp_updL; split <;> simp_all
set_option maxHeartbeats 4000000 in
set_option maxRecDepth 100000 in
theorem k_takeOutX_loop (l : Launch) {b : Nat} {D : va_G} {Y : Nat → ClassId} {s0 : State} (Z : jS0 b D Y s0) {p : Program} {e : Env} {s : State} {m : MethodId} {below : List Frame} {meth : Method} {c : Code} {Q : State → Prop} (a q n : Nat) (hb : jH) (haq : a ≠ q) (hx : ∀ h2 : jH, h2 a = some (.inr (0, [.ref q, .int 0])) → h2 q = some (.inl (Y 1, 13, .inr (.inl jOne))) → (∀ x, x ≠ q → h2 x = hb x) → jW b D Y s0 p l e (jrm 1 0 0) s m [Value.ref a].toArray below meth c y_Poly_takeOutX.cls c_Poly_takeOutX 3 (some .int) y_Poly_takeOutX.name Q 67 [(2, .int 13), (1, .int 0), (0, .ref a)] [] h2 n 0 0) :
    ∀ (j i : Nat), i + j = 13 → ∀ (h : jH), h a = some (.inr (0, [.ref q, .int 0])) → h q = some (.inl (Y 1, 13, .inr (.inl jOne))) → (∀ x, x ≠ q → h x = hb x) → jW b D Y s0 p l e (jrm 1 0 0) s m [Value.ref a].toArray below meth c y_Poly_takeOutX.cls c_Poly_takeOutX 3 (some .int) y_Poly_takeOutX.name Q 29 [(2, .int (nI i)), (1, .int 0), (0, .ref a)] [] h n 0 0 := by
  intro j
  induction j with
  | zero =>
    intro i hi h H0 H1 HF
    obtain rfl : i = 13 := by omega
    refine j_iload_n d_Poly_takeOutX_29 0 rfl ?_
    refine j_bipush d_Poly_takeOutX_30 (v := 12) (by decide) ?_
    refine j_icmp_gt_t (tgt := 67) d_Poly_takeOutX_32 (by decide) (by decide) ?_
    exact hx h H0 H1 HF
  | succ j ih =>
    intro i hi h H0 H1 HF
    have hi13 : i < 13 := by omega
    refine j_iload_n d_Poly_takeOutX_29 0 rfl ?_
    refine j_bipush d_Poly_takeOutX_30 (v := 12) (by decide) ?_
    refine j_icmp_gt_f (tgt := 67) d_Poly_takeOutX_32 (by decide) (nI_nlt (a := 12) (by omega) (by decide)) ?_
    refine j_aload_n d_Poly_takeOutX_35 2 rfl ?_
    refine j_get iw_Poly (ci := 0) (kf := 0) rfl (by decide) g_33 d_Poly_takeOutX_36 H0 rfl ?_
    refine j_iload_n d_Poly_takeOutX_39 0 rfl ?_
    refine j_iload_n d_Poly_takeOutX_40 0 rfl ?_
    refine j_iload_n d_Poly_takeOutX_41 1 rfl ?_
    refine j_iadd d_Poly_takeOutX_42 ?_
    refine j_bipush d_Poly_takeOutX_43 (v := 12) (by decide) ?_
    refine j_icmp_gt_f (tgt := 59) d_Poly_takeOutX_45 (by decide) (by rw [Int32.add_zero]; exact nI_nlt (a := 12) (by omega) (by decide)) ?_
    refine j_aload_n d_Poly_takeOutX_48 2 rfl ?_
    refine j_get iw_Poly (ci := 0) (kf := 0) rfl (by decide) g_33 d_Poly_takeOutX_49 H0 rfl ?_
    refine j_iload_n d_Poly_takeOutX_52 0 rfl ?_
    refine j_iload_n d_Poly_takeOutX_53 1 rfl ?_
    refine j_iadd d_Poly_takeOutX_54 ?_
    refine j_lald d_Poly_takeOutX_55 H1 (by rw [Int32.add_zero]; exact nI_in hi13 (by omega)) ?_
    refine j_goto (tgt := 60) d_Poly_takeOutX_56 (by decide) ?_
    refine j_last d_Poly_takeOutX_60 H1 (nI_in hi13 (by omega)) ?_
    refine j_iinc d_Poly_takeOutX_61 0 rfl (v := nI (i + 1)) (nI_1 i) (Nat.le_of_ble_eq_true rfl) rfl ?_
    refine j_goto (tgt := 29) d_Poly_takeOutX_64 (by decide) ?_
    exact ih (i + 1) (by omega) _ ((jh_up_n _ _ (by omega)).trans H0) ((jh_up_s _ _ _).trans (congrArg (fun f => some (Sum.inl (Y 1, 13, Sum.inr (Sum.inl f)))) (updS (by rw [Int32.add_zero])))) (fun x h1x => (jh_up_n _ _ (by omega)).trans (HF x h1x))
set_option maxHeartbeats 4000000 in
set_option maxRecDepth 100000 in
theorem k_takeOutX (l : Launch) {b : Nat} {D : va_G} {Y : Nat → ClassId} {s0 : State} (Z : jS0 b D Y s0) (a q n : Nat) (h : jH) (haq : a ≠ q) (H0 : h a = some (.inr (0, [.ref q, .int 0]))) (H1 : h q = some (.inl (Y 1, 13, .inr (.inl jOne)))) : jMet l D s0 y_Poly_takeOutX c_Poly_takeOutX 3 (some .int) 1 [.ref a] h n 0 0 (fun r h2 n2 => r = some (.int 0) ∧ n = n2 ∧ h2 a = some (.inr (0, [.ref q, .int 0])) ∧ h2 q = some (.inl (Y 1, 13, .inr (.inl jOne))) ∧ ∀ x, x ≠ a → x ≠ q → h2 x = h x) := by
  refine jMet_of Z (by decide) (Nat.le_of_ble_eq_true rfl) ?_
  intro p e s m below meth c
  refine j_iconst d_Poly_takeOutX_0 (v := 0) (by decide) ?_
  refine j_istore_n d_Poly_takeOutX_1 (Nat.le_of_ble_eq_true rfl) rfl ?_
  refine j_iload_n d_Poly_takeOutX_2 0 rfl ?_
  refine j_aload_n d_Poly_takeOutX_3 1 rfl ?_
  refine j_get iw_Poly (ci := 0) (kf := 1) rfl (by decide) g_41 d_Poly_takeOutX_4 H0 rfl ?_
  refine j_icmp_ge_t (tgt := 27) d_Poly_takeOutX_7 (by decide) (by decide) ?_
  refine j_iconst d_Poly_takeOutX_27 (v := 0) (by decide) ?_
  refine j_istore_n d_Poly_takeOutX_28 (Nat.le_of_ble_eq_true rfl) rfl ?_
  refine k_takeOutX_loop l Z a q n h haq (fun h3 A3 B3 G3 => ?_) 13 0 rfl h H0 H1 (fun x _ => rfl)
  refine j_aload_n d_Poly_takeOutX_67 2 rfl ?_
  refine j_dup d_Poly_takeOutX_68 rfl ?_
  refine j_get iw_Poly (ci := 0) (kf := 1) rfl (by decide) g_41 d_Poly_takeOutX_69 A3 rfl ?_
  refine j_iload_n d_Poly_takeOutX_72 1 rfl ?_
  refine j_isub d_Poly_takeOutX_73 ?_
  refine j_put iw_Poly t_Poly t_Poly_ok n_Poly (ci := 0) (kf := 1) rfl (by decide) g_41 rfl (t_Poly_ok 1 (by decide)) rfl rfl d_Poly_takeOutX_74 A3 (Nat.le_of_ble_eq_true rfl) ?_
  refine j_iload_n d_Poly_takeOutX_77 1 rfl ?_
  refine j_iret rfl d_Poly_takeOutX_78 ⟨rfl, rfl, (jh_up_s _ _ _), ((jh_up_n _ _ (by omega)).trans B3), fun x h1 h2 => ((jh_up_n _ _ (by omega)).trans (G3 x h2))⟩
set_option maxHeartbeats 4000000 in
set_option maxRecDepth 100000 in
theorem k_split (l : Launch) {b : Nat} {D : va_G} {Y : Nat → ClassId} {s0 : State} (Z : jS0 b D Y s0) (d n : Nat) (h : jH) (HD : jDesk Y h d) : jMet l D s0 y_Splt_split c_Splt_split 3 none 4 [.ref (d + 37), .ref (d + 2)] h n 0 0 (fun r h2 n2 => r = none ∧ n = n2 ∧ h2 (d + 37) = some (.inr (7, [.ref (d + 38), .ref (d + 65), .ref (d + 66), .int 1, .ref (d + 83), .ref (d + 84), .ref (d + 202), .ref (d + 204), .ref (d + 206)])) ∧ h2 (d + 38) = some (.inr (1, [.ref (d + 39), .ref (d + 64), .int 0])) ∧ ∀ x, x ≠ d + 37 → x ≠ d + 38 → x ≠ d + 202 → x ≠ d + 203 → h2 x = h x) := by
  refine jMet_of Z (by decide) (Nat.le_of_ble_eq_true rfl) ?_
  intro p e s m below meth c
  obtain ⟨D0, D1, D2, D3, D8, D9, D10, D37, D38, D202, D203⟩ := HD
  refine j_aload_n d_Splt_split_0 0 rfl ?_
  refine j_get iw_Splt (ci := 7) (kf := 3) rfl (by decide) g_279 d_Splt_split_1 D37 rfl ?_
  refine j_if_eq_t (tgt := 8) d_Splt_split_4 (by decide) (by decide) ?_
  refine j_aload_n d_Splt_split_8 0 rfl ?_
  refine j_iconst d_Splt_split_9 (v := 1) (by decide) ?_
  refine j_put iw_Splt t_Splt t_Splt_ok n_Splt (ci := 7) (kf := 3) rfl (by decide) g_279 rfl (t_Splt_ok 3 (by decide)) rfl rfl d_Splt_split_10 D37 (Nat.le_of_ble_eq_true rfl) ?_
  refine j_aload_n d_Splt_split_13 0 rfl ?_
  refine j_get iw_Splt (ci := 7) (kf := 0) rfl (by decide) g_273 d_Splt_split_14 (jh_up_s _ _ _) rfl ?_
  refine j_iconst d_Splt_split_17 (v := 0) (by decide) ?_
  refine j_put iw_FList t_FList t_FList_ok n_FList (ci := 1) (kf := 2) rfl (by decide) g_77 rfl (t_FList_ok 2 (by decide)) rfl rfl d_Splt_split_18 ((jh_up_n _ _ (by omega)).trans D38) (Nat.le_of_ble_eq_true rfl) ?_
  refine j_aload_n d_Splt_split_21 0 rfl ?_
  refine j_get iw_Splt (ci := 7) (kf := 6) rfl (by decide) g_282 d_Splt_split_22 ((jh_up_n _ _ (by omega)).trans (jh_up_s _ _ _)) rfl ?_
  refine j_aload_n d_Splt_split_25 1 rfl ?_
  refine j_callV (k_copyOne l Z (d + 202) (d + 203) (d + 2) (d + 3) n _ _ (by omega) ((jh_up_n _ _ (by omega)).trans ((jh_up_n _ _ (by omega)).trans D202)) ((jh_up_n _ _ (by omega)).trans ((jh_up_n _ _ (by omega)).trans D203)) ((jh_up_n _ _ (by omega)).trans ((jh_up_n _ _ (by omega)).trans D2)) ((jh_up_n _ _ (by omega)).trans ((jh_up_n _ _ (by omega)).trans D3))) ⟨⟨Nat.le_of_ble_eq_true rfl, Nat.le_of_ble_eq_true rfl⟩, g_366, g_369, g_2, (by decide +kernel), (by decide +kernel), (show _ = some 1 from by decide +kernel)⟩ g_367 g_368 (ci := 0) rfl ((jh_up_n _ _ (by omega)).trans ((jh_up_n _ _ (by omega)).trans D202)) ⟨(by first | exact Nat.le_of_ble_eq_true rfl | (simp only [jrm]; omega)), (by first | exact Nat.le_of_ble_eq_true rfl | (simp only [jrm]; omega))⟩ (Nat.le_of_ble_eq_true rfl) d_Splt_split_26 (fun r0 h0 n0 P0 => ?_)
  obtain ⟨rfl, rfl, O0, A0, F0⟩ := P0
  have E0_0 := (F0 d (by omega) (by omega)).trans ((jh_up_n _ _ (by omega)).trans ((jh_up_n _ _ (by omega)).trans D0))
  have E0_1 := (F0 (d + 1) (by omega) (by omega)).trans ((jh_up_n _ _ (by omega)).trans ((jh_up_n _ _ (by omega)).trans D1))
  have E0_2 := (F0 (d + 2) (by omega) (by omega)).trans ((jh_up_n _ _ (by omega)).trans ((jh_up_n _ _ (by omega)).trans D2))
  have E0_3 := (F0 (d + 3) (by omega) (by omega)).trans ((jh_up_n _ _ (by omega)).trans ((jh_up_n _ _ (by omega)).trans D3))
  have E0_4 := (F0 (d + 8) (by omega) (by omega)).trans ((jh_up_n _ _ (by omega)).trans ((jh_up_n _ _ (by omega)).trans D8))
  have E0_5 := (F0 (d + 9) (by omega) (by omega)).trans ((jh_up_n _ _ (by omega)).trans ((jh_up_n _ _ (by omega)).trans D9))
  have E0_6 := (F0 (d + 10) (by omega) (by omega)).trans ((jh_up_n _ _ (by omega)).trans ((jh_up_n _ _ (by omega)).trans D10))
  have E0_7 := (F0 (d + 37) (by omega) (by omega)).trans ((jh_up_n _ _ (by omega)).trans (jh_up_s _ _ _))
  have E0_8 := (F0 (d + 38) (by omega) (by omega)).trans (jh_up_s _ _ _)
  refine j_aload_n d_Splt_split_29 0 rfl ?_
  refine j_get iw_Splt (ci := 7) (kf := 6) rfl (by decide) g_282 d_Splt_split_30 E0_7 rfl ?_
  refine j_callV (k_makePrimitive l Z (d + 202) (d + 203) _ _ O0 A0) ⟨⟨Nat.le_of_ble_eq_true rfl, Nat.le_of_ble_eq_true rfl⟩, g_373, g_376, g_2, by decide +kernel⟩ g_374 g_375 (ci := 0) rfl O0 ⟨(by first | exact Nat.le_of_ble_eq_true rfl | (simp only [jrm]; omega)), (by first | exact Nat.le_of_ble_eq_true rfl | (simp only [jrm]; omega))⟩ (Nat.le_of_ble_eq_true rfl) d_Splt_split_33 (fun r1 h1 n1 P1 => ?_)
  obtain ⟨rfl, rfl, rfl⟩ := P1
  refine j_aload_n d_Splt_split_36 0 rfl ?_
  refine j_get iw_Splt (ci := 7) (kf := 6) rfl (by decide) g_282 d_Splt_split_37 E0_7 rfl ?_
  refine j_callV (k_takeOutX l Z (d + 202) (d + 203) _ _ (by omega) O0 A0) ⟨⟨Nat.le_of_ble_eq_true rfl, Nat.le_of_ble_eq_true rfl⟩, g_379, g_382, g_2, by decide +kernel⟩ g_380 g_381 (ci := 0) rfl O0 ⟨(by first | exact Nat.le_of_ble_eq_true rfl | (simp only [jrm]; omega)), (by first | exact Nat.le_of_ble_eq_true rfl | (simp only [jrm]; omega))⟩ (Nat.le_of_ble_eq_true rfl) d_Splt_split_40 (fun r2 h2 n2 P2 => ?_)
  obtain ⟨rfl, rfl, O2, A2, F2⟩ := P2
  have E2_0 := (F2 d (by omega) (by omega)).trans E0_0
  have E2_1 := (F2 (d + 1) (by omega) (by omega)).trans E0_1
  have E2_2 := (F2 (d + 2) (by omega) (by omega)).trans E0_2
  have E2_3 := (F2 (d + 3) (by omega) (by omega)).trans E0_3
  have E2_4 := (F2 (d + 8) (by omega) (by omega)).trans E0_4
  have E2_5 := (F2 (d + 9) (by omega) (by omega)).trans E0_5
  have E2_6 := (F2 (d + 10) (by omega) (by omega)).trans E0_6
  have E2_7 := (F2 (d + 37) (by omega) (by omega)).trans E0_7
  have E2_8 := (F2 (d + 38) (by omega) (by omega)).trans E0_8
  refine j_istore_n d_Splt_split_43 (Nat.le_of_ble_eq_true rfl) rfl ?_
  refine j_aload_n d_Splt_split_44 1 rfl ?_
  refine j_get iw_Splt (ci := 7) (kf := 6) rfl (by decide) g_282 d_Splt_split_45 E2_7 rfl ?_
  refine j_get iw_Poly (ci := 0) (kf := 1) rfl (by decide) g_44 d_Splt_split_48 O2 rfl ?_
  refine j_if_le_t (tgt := 155) d_Splt_split_51 (by decide) (by decide) ?_
  refine j_iload_n d_Splt_split_155 0 rfl ?_
  refine j_if_le_t (tgt := 197) d_Splt_split_156 (by decide) (by decide) ?_
  refine j_vret rfl d_Splt_split_197 ⟨rfl, rfl, E2_7, E2_8, fun x h1 h2 h3 h4 => ((F2 x (by omega) (by omega)).trans ((F0 x (by omega) (by omega)).trans ((jh_up_n _ _ (by omega)).trans (jh_up_n _ _ (by omega)))))⟩
end
section
def jWx (own : String) (ic : Nat) (X : String) : List Cond := Bundle.throwableAtoms ++ (Bundle.throwableSAtoms ++ [.methodLink own ic (Bundle.initS X), .instantiable X 6, .castable X X, .selects X Bundle.tFill0 Bundle.tFill0, .selects X Bundle.tFill Bundle.tFill, .lays X Bundle.tN "cause" "Ljava/lang/Throwable;", .lays X Bundle.tN "stackTrace" Bundle.steD, .lays X Bundle.tN "suppressedExceptions" Bundle.listD, .lays X Bundle.tN "detailMessage" "Ljava/lang/String;", .isRef (.static Bundle.tN "UNASSIGNED_STACK" Bundle.steD), .isRef (.static Bundle.tN "SUPPRESSED_SENTINEL" Bundle.listD), .fieldLink Bundle.tN 198 Bundle.tN "backtrace" "Ljava/lang/Object;", .lays Bundle.tN Bundle.tN "backtrace" "Ljava/lang/Object;", .lays X Bundle.tN "backtrace" "Ljava/lang/Object;"])
def jOwnX (own : String) (ic : Nat) (X : String) (ix : Nat) (rx : ByteArray) (Yn : String) (rn : List String) : List Cond := jWx own ic X ++ (Bundle.passSAtoms X Yn ix rx ++ Bundle.chainSAtoms Yn rn)
set_option maxHeartbeats 1000000 in
theorem jx_ctor {p : Program} {l : Launch} {e : Env} {R : Room} {s : State} {m₀ : MethodId} {args : Array Value} {below : List Frame} {meth : Method} {c : Code} {W : State} {locs : List Loc} {k1 k2 : Nat} (X : Stand p l e R s m₀ args below meth c W locs k1 k2) (hx : p.tables.exec = Jvm.exec) (hoff : e.platform.stackTraces = false)
    {ix : Nat} {rx : ByteArray} (x0 : decode rx 0 = .ok (.aload_n 0, 1)) (x1 : decode rx 1 = .ok (.aload_n 1, 1)) (x2 : decode rx 2 = .ok (.invokespecial ix, 3)) (x5 : decode rx 5 = .ok (.return_, 1)) {own cls : String} {Yn : String} {rn : List String} {ic : Nat}
    (hown : s.vm.findClass own = some m₀.cls) (hc : Bundle.fit cls = true) (hn : ∀ n ∈ Yn :: rn, Bundle.fit n = true) (h : ∀ w ∈ jOwnX own ic cls ix rx Yn rn, w.before args s = true)
    (hlocs : ∀ x ∈ locs, ∀ cell, s.heap[x.base]? = some cell → cell.vm.isStatics = false)
    {a : Addr} {cX : ClassId} {kX : Class} (f1 : s.vm.findClass cls = some cX) (f2 : s.vm.classes[cX]? = some kX) (hcell : W.heap[a]? = some (freshCell cX kX)) (hnew : s.heap.size ≤ a) {msg : Value} (hmsg : msg.isRef = true)
    {g : JFrame} (hg : g.method = m₀) (hsize : g.locals.size = c.maxLocals) (hl1 : g.locked = none) (hl2 : g.entered = []) {rest : List Value} (hstack : g.stack = msg :: .ref a :: .ref a :: rest)
    (d6 : decode c.code g.pc = .ok (.invokespecial ic, 3)) (d9 : decode c.code (g.pc + 3) = .ok (.athrow, 1)) (hout : ∀ x ∈ c.exceptionTable.toList, covers x (g.pc + 3) = false)
    (r1 : (Yn :: rn).length + 3 < R.frames) (r2 : 2 * g.monitorRoom + ((Value.ref a :: rest).map fun v => v.category).sum + (13 * ((Yn :: rn).length + 1) + 42) ≤ R.locals) (hlk : meth.locks = false) :
    ∃ U : State, Steps p.tables e below (W.setTop g) U ∧ U.status = .running ∧ Ended U below (.threw a) ∧ s.WarmedH U.vm ∧ s.sameButNew ({ U with vm := s.vm } : State) locs k1 k2 ∧ ∃ ce, U.heap[a]? = some ce ∧ s.vm.findClass cls = some ce.cls ∧ ce.vm = .none := by
  have pm : e.platform.magicAccessors = ({} : Platform).magicAccessors := by rw [X.admits.platform]
  have ok : ∀ {w : Cond}, w ∈ jOwnX own ic cls ix rx Yn rn → w.before args s = true := fun hw => h _ hw
  obtain ⟨T, Z0, L, L0, Y⟩ := ThrowableC.of_atoms (args := args) (by rw [X.admits.platform]) (by rw [X.admits.platform]) pm (fun w hw => ok (by simp [jOwnX, jWx, hw]))
  obtain ⟨Z, M, LZ, LM, hZ⟩ := Init0T.ofS_atoms (args := args) pm L Y (fun w hw => ok (by simp [jOwnX, jWx, hw]))
  obtain ⟨P1, L1, hm, hsu⟩ := PassC.ofS_atoms (args := args) (s := s) pm (X := cls) (Y := Yn) (Bundle.fit_spec hc).1 (Bundle.fit_spec (hn Yn List.mem_cons_self)).2 x0 x1 x2 x5 (fun w hw => ok (by simp [jOwnX, jWx, hw]))
  obtain ⟨P2, Ps2, hlen2, L2, hL2, hm2, hs3, hs4⟩ := Bundle.chainS (args := args) pm hZ rn Yn (hn Yn List.mem_cons_self) (fun n h9 => hn n (List.mem_cons_of_mem _ h9)) (fun w hw => ok (by simp [jOwnX, jWx, hw]))
  obtain ⟨Ps, hPs⟩ : ∃ Ps : List PassC, Ps = P2 :: Ps2 := ⟨_, rfl⟩
  have hlen : Ps.length = (Yn :: rn).length := by rw [hPs]; simp [hlen2]
  have hL : ∀ P, P ∈ Ps → P.LinksS e.platform s := by
    rw [hPs]; intro P hP
    rcases List.mem_cons.mp hP with rfl | hP
    · exact L2
    · exact hL2 P hP
  have hs1 : P1.sup = firstOf (Z.m T.toThrowableT) (Ps.map (·.toPassT)) := by rw [hPs]; exact Option.some.inj (hsu.symm.trans hm2)
  have hs2 : PassesOn (Z.m T.toThrowableT) (Ps.map (·.toPassT)) := by rw [hPs]; exact ⟨hs3, hs4⟩
  have hf : s.vm.findClass cls = some P1.m.cls := findClass_of_methodNamed hm
  cases Option.some.inj (f1.symm.trans hf)
  obtain ⟨c1, k1', q1, hk, hord, -⟩ := Cond.instantiable_spec (ok (w := .instantiable cls 6) (by simp [jOwnX, jWx]))
  cases Option.some.inj (q1.symm.trans hf)
  cases Option.some.inj (f2.symm.trans hk)
  have sel : ∀ {y : MethodName} {t : MethodId}, (Cond.selects cls y y).before args s = true → s.methodNamed? y = some t → s.methodFound? y.cls y.name y.desc = some t → selectMethod e.platform s.vm P1.m.cls t = .method t := by
    intro y t hw h1 h2
    obtain ⟨c2, r2, m2, q1, q2, q3, q4, -⟩ := Cond.selects_spec hw
    cases Option.some.inj (q1.symm.trans hf)
    cases Option.some.inj (q2.symm.trans h2)
    cases Option.some.inj (q3.symm.trans h1)
    rw [Launch.admits_selectMethod X.admits]; exact q4
  have s0 := sel (ok (by simp [jOwnX, jWx])) Y.fill0 (State.methodFound?_of_named Y.fill0 (by decide))
  have s1 := sel (ok (by simp [jOwnX, jWx])) Y.fill (State.methodFound?_of_named Y.fill (by decide))
  obtain ⟨cS, hS, hst⟩ := Y.statics
  obtain ⟨u0, hu⟩ := Cond.staticRefV Y.unassigned L.unassignedStatic L.statics hS hst (ok (by simp [jOwnX, jWx]))
  obtain ⟨v0, hv⟩ := Cond.staticRefV Y.sentinel L.sentinelStatic L.statics hS hst (ok (by simp [jOwnX, jWx]))
  obtain ⟨b1, b2, fB, g1, g2, g3, g4, -, nB, tB, fB2⟩ := Cond.ownField (t := .object "java/lang/Object") Y.found L.cls (by decide +kernel) (ok (w := .fieldLink Bundle.tN 198 Bundle.tN "backtrace" "Ljava/lang/Object;") (by simp [jOwnX, jWx])) (ok (w := .lays Bundle.tN Bundle.tN "backtrace" "Ljava/lang/Object;") (by simp [jOwnX, jWx])) e.platform pm
  obtain ⟨cW, hcW, heW, -, hkeep⟩ := X.same.2.2.2.2.2 T.aS cS hS
  have hcW : W.heap[T.aS]? = some cW := hcW
  have hnot : ∀ i, (⟨T.aS, i⟩ : Loc) ∉ locs := fun i hi => by
    have := hlocs _ hi cS hS
    rw [hst] at this; cases this
  have hknown : cW.vm ≠ .unknown := by
    rw [heW]; intro hu9
    rw [show cS.vm = .unknown from hu9] at hst
    cases hst
  have hne : T.aS ≠ a := Nat.ne_of_lt (Nat.lt_of_lt_of_le (Array.getElem?_eq_some_iff.mp hS).1 hnew)
  obtain ⟨iM, fM⟩ := Y.msg
  obtain ⟨tyC, dC, hC, nC⟩ := Cond.laysAt hf hk Y.cause (ok (by simp [jOwnX, jWx]))
  obtain ⟨tyS, dS, hS2, nS⟩ := Cond.laysAt hf hk Y.stack (ok (by simp [jOwnX, jWx]))
  obtain ⟨tyP, dP, hP, nP⟩ := Cond.laysAt hf hk Y.supp (ok (by simp [jOwnX, jWx]))
  obtain ⟨tyM, -⟩ := Cond.laysAt hf hk fM (ok (by simp [jOwnX, jWx]))
  obtain ⟨tyB, dB, hB, nB2⟩ := Cond.laysAt hf hk fB2 (ok (by simp [jOwnX, jWx]))
  have e1 := Cond.laysApart hB hC nB2 nC (by rw [nB, Y.causeName]; decide)
  have e2 := Cond.laysApart hB hS2 nB2 nS (by rw [nB, Y.stackName]; decide)
  have e3 := Cond.laysApart hB hP nB2 nP (by rw [nB, Y.suppName]; decide)
  have hskip : SkipFacts T e.platform s (fun u => u) u0 ((preparedCellV T.toThrowableT (freshCell P1.m.cls kX) a u0 v0).withEntry W.cur) := by
    refine ⟨{ ci198 := b1, i198 := b2, fBack := fB }, ⟨g1, g2, g3, g4⟩, ?_, fun _ _ => rfl⟩
    have h9 := fresh_default (c := P1.m.cls) tyB
    rw [tB] at h9
    simpa [preparedCellV, Cell.setSlot, Cell.withEntry, Array.getElem?_setIfInBounds, e1, e2, e3, e1.symm, e2.symm, e3.symm, defaultValue] using h9
  obtain ⟨tm, -, -, -, vm1, htm, -, -, -, -, -, -, -, hW1, go1⟩ := Steps.initColdS (tb := p.tables) (e := e) (below := below) (s := s) (U := W) X.here hx X.warmed pm hown (t := Bundle.initS cls) rfl rfl (Bundle.fit_spec hc).2
    (ok (w := .methodLink own ic (Bundle.initS cls)) (by simp [jOwnX, jWx])) (ok (w := .instanceMethod (Bundle.initS cls)) (by simp [jOwnX, jWx, Bundle.passSAtoms])) (bytes := rx) (maxL := 2) (ok (w := .code (Bundle.initS cls) rx 2 none) (by simp [jOwnX, jWx, Bundle.passSAtoms])) (f := g) hg (a := a) (msg := msg) (rest := .ref a :: rest) hstack d6
  cases Option.some.inj (htm.symm.trans hm)
  obtain ⟨vm2, X2, go2⟩ := (X.noted hW1).ctorMessageOffV hx (g := { g with stack := .ref a :: rest }) hg hsize T L Z LZ M LM (P1 :: Ps)
    (fun P hP => by rcases List.mem_cons.mp hP with rfl | hP; exact L1; exact hL P hP) ⟨hs1, hs2⟩ (u0 := u0) (sen := v0) (self := a) hmsg (cell := freshCell P1.m.cls kX) (cellS := cW)
    hcell (fun _ => by simp) (by simp) rfl rfl s0 s1 hcW hne hknown (by rw [hkeep _ (hnot _)]; exact hu) (by rw [hkeep _ (hnot _)]; exact hv)
    (Takes.of_laid hk hord tyC (by rw [Y.causeType]; rfl)) (Takes.of_laid hk hord tyS (by rw [Y.stackType]; exact fits_refV_array _ u0)) (Takes.of_laid hk hord tyP (by rw [Y.suppType]; exact fits_refV_object _ v0))
    (Takes.of_laid hk hord tyM (by rw [Y.msgType]; exact fits_refV_object _ ⟨msg, hmsg⟩)) Y.objLocals hskip hoff [] d6 (by simp only [List.length_cons, hlen]; omega) (by simp only [List.length_cons, hlen]; exact r2)
  obtain ⟨w1, w2, w3, w4, w5⟩ := X2.athrowLeaves hx (g := { g with stack := .ref a :: rest, pc := g.pc + 3 }) hg hl1 hl2 hout (a := a) (rest := rest) rfl d9
  have hlt : a < ((W.setVm vm1).setVm vm2).heap.size := (Array.getElem?_eq_some_iff.mp hcell).1
  refine ⟨_, go1 _ (fun acts => by rw [doInvoke_state]; exact go2 _ w1), w2, w3, w4, w5.weaken (fun y hy hy2 => ?_) (Nat.le_refl _) (Nat.le_refl _), _, heapAt_setCell_self (s := (W.setVm vm1).setVm vm2) (plainBareV T.toThrowableT (freshCell P1.m.cls kX) a u0 v0 msg) hlt, hf, rfl⟩
  rcases List.mem_append.mp hy with h1 | h1
  · exact h1
  · exfalso
    have hb : y.base = a := by
      simp only [List.mem_cons, List.not_mem_nil, or_false] at h1
      rcases h1 with rfl | rfl | rfl | rfl | rfl <;> rfl
    rw [hb] at hy2
    exact Nat.not_lt.mpr hnew hy2
section JX4
variable {b : Nat} {D : va_G} {Y : Nat → ClassId} {s0 : State} {p : Program} {l : Launch} {e : Env} {R : Room} {s : State} {m : MethodId} {args : Array Value} {below : List Frame} {meth : Method} {c : Code} {own : String} {cc : ByteArray} {nL : Nat} {ret : Option FieldType} {nm : String} {Q : State → Prop} {pc : Nat} {lv : List (Nat × Value)} {st : List Value} {h : jH} {n k sl : Nat}
theorem j_throwX {ik is ic ix : Nat} {rx : ByteArray} (x0 : decode rx 0 = .ok (.aload_n 0, 1)) (x1 : decode rx 1 = .ok (.aload_n 1, 1)) (x2 : decode rx 2 = .ok (.invokespecial ix, 3)) (x5 : decode rx 5 = .ok (.return_, 1)) {E tx : String} {Yn : String} {rn : List String} {Post : jH → Nat → Prop} (hlt : l.stackTraces = false) (hnl : c.exceptionTable.toList = []) (hat : ∀ w ∈ jOwnX own ic E ix rx Yn rn, jG w ∨ w ∈ jBad E (Yn :: rn)) (hX : Cond.castable E E ∈ lw_tbl) (hdc : ∀ n ∈ (Yn :: rn) ++ [Bundle.tN], Cond.declares (Bundle.initS n) ∈ lw_tbl)
    (hE : Bundle.fit E = true) (hnm : ∀ n ∈ (Yn :: rn), Bundle.fit n = true) (hw1 : jG (.classLink own ik E)) (hw2 : jG (.instantiable E 6)) (hw3 : jG (.initialized E)) (hsr : Cond.stringRef own is tx ∈ lw_tbl) (hsx : Cond.exactly (.string own is) "java/lang/String" ∈ flatC (Jvm.Cond.and given_1 narrow_1))
    (d0 : decode cc pc = .ok (.new ik, 3)) (d3 : decode cc (pc + 3) = .ok (.dup, 1)) (d4 : decode cc (pc + 4) = .ok (.ldc is, 2)) (d6 : decode cc (pc + 6) = .ok (.invokespecial ic, 3)) (d9 : decode cc (pc + 9) = .ok (.athrow, 1))
    (hfr : (Yn :: rn).length + 3 < R.frames) (hlo : (st.map fun v => v.category).sum + 1 + (13 * ((Yn :: rn).length + 1) + 42) ≤ R.locals) (hk : k + 1 ≤ R.cells) (hs : sl + 6 ≤ R.slots) (hp : Post h (n + 1)) :
    jW b D Y s0 p l e R s m args below meth c own cc nL ret nm (jXM below D s0 E Post args s (k + 1) (sl + 6)) pc lv st h n k sl := by
  intro C H locs ls hR hS hl T hT X
  have XB := jBase_stand X hk hs
  have hVB : jV s0 (jBase s T m args below) := by
    refine ⟨C.v.1, ?_, fun q hq => ?_, ?_⟩
    · show s0.heap.size ≤ T.heap.size
      rw [hT]; exact Nat.le_trans C.v.2.1 hS.1
    · show T.heap[q]? = _
      rw [hT, hS.2.1 q (Nat.lt_of_lt_of_le hq C.v.2.1) (Nat.not_le.mpr hq)]; exact C.v.2.2.1 q hq
    · show jN s0 T.heap
      rw [hT]; exact hR.2.2
  obtain ⟨q, hq⟩ := hVB.str C.z hsr hsx
  have hw : ∀ {w : Cond}, jG w → w.before args (jBase s T m args below) = true := fun g => hVB.word C.z g
  have hBv : (jBase s T m args below).vm = s.vm := rfl
  have hBh : (jBase s T m args below).heap = T.heap := rfl
  have K : W p l e { R with cells := 1, slots := 6 } (jBase s T m args below) m args below meth c H [] 0 0 (jXM below D s0 E Post args (jBase s T m args below) 1 6) (F0 m pc ls st) := by
    generalize jBase s T m args below = B at hVB hq hw hBv hBh
    obtain ⟨R2, hR2⟩ : ∃ R2 : Room, R2 = { R with cells := 1, slots := 6 } := ⟨_, rfl⟩
    rw [← hR2]
    have c1 : R2.cells = 1 := by rw [hR2]
    have c2 : R2.slots = 6 := by rw [hR2]
    have c3 : R2.frames = R.frames := by rw [hR2]
    have c4 : R2.locals = R.locals := by rw [hR2]
    have hown : B.vm.findClass own = some m.cls := by rw [hBv]; exact C.ow
    refine W.newc C.ex C.by hown (hw hw1) (hw hw2) (hw hw3) rfl d0 (by rw [c1]; exact Nat.le_refl 1) (by rw [c2]; exact Nat.le_refl 6) fun cX kX f1 f2 f3 f4 => ?_
    refine lv_dup C.ex C.by d3 rfl ?_
    refine va_ldcS C.ex C.by hown hq d4 ?_
    intro T2 hT2 X2
    have htr : e.platform.stackTraces = false := by
      have h9 := X.admits.platform
      rw [h9]; exact hlt
    have hcell : T2.heap[H.size]? = some (freshCell cX kX) := by rw [hT2]; simp
    have hge : B.heap.size ≤ H.size := by rw [hBh, hT]; exact Nat.le_refl _
    obtain ⟨U, st1, hrun, hend, hW, hsm, ce, hce, OCc, OCv⟩ := jx_ctor X2 C.ex htr x0 x1 x2 x5 (own := own) (cls := E) (Yn := Yn) (rn := rn) (ic := ic) hown hE hnm (fun w hw2 => (hat w hw2).elim (fun g => hw g) (fun g => hVB.bad C.z hX hdc w g))
      (fun x hx => by cases hx) f1 f2 hcell hge (msg := .ref q) rfl (g := F0 m (pc + 6) ls (.ref q :: .ref H.size :: .ref H.size :: st)) rfl (by rw [C.ml]; exact hl.1) rfl rfl (rest := st) rfl (by rw [C.by]; exact d6) (by rw [C.by]; exact d9) (by rw [hnl]; exact fun x hx => by cases hx) (by rw [c3]; exact hfr)
      (by rw [List.map_cons, List.sum_cons, c4]; show 2 * 0 + (1 + _) + _ ≤ R.locals; omega) C.lk
    obtain ⟨-, z2, z3, -, -, z6⟩ := id hsm
    have hold : ∀ (a : Nat), a < H.size → U.heap[a]? = H[a]? := by
      intro a ha
      have hca : H[a]? = some H[a] := Array.getElem?_eq_getElem ha
      obtain ⟨c2, g1, g2, g3, g4⟩ := z6 a H[a] (by rw [hBh, hT]; exact hca)
      have g1 : U.heap[a]? = some c2 := g1
      rw [g1, hca]
      have hsl : c2.slots = H[a].slots := by
        apply Array.ext_getElem?
        intro i
        exact g4 i (by simp)
      rw [g2, hsl]
    have hz : U.heap.size = n + 1 := by
      have h1 : U.heap.size ≤ B.heap.size + (0 + 1) := z3
      have h2 := (Array.getElem?_eq_some_iff.mp hce).1
      rw [hBh, hT, hR.1] at h1
      rw [hR.1] at h2
      omega
    refine ⟨U, st1, .threw H.size, hrun, hend, H.size, ce, h, n + 1, [], rfl, hce, OCv, OCc, hp, ⟨hz, fun a x hx => ?_, fun a x ha hx => ?_⟩, ⟨z2, fun a ha _ => ?_⟩, hW, hsm, fun _ h => by cases h⟩
    · exact ⟨(hR.2.1 a x hx).1.kept (hold a (hR.2.1 a x hx).1.lt), (hR.2.1 a x hx).2⟩
    · by_cases e9 : a = H.size
      · subst e9
        rw [hce] at hx
        cases hx
        rw [OCv]; rfl
      · have h2 := (Array.getElem?_eq_some_iff.mp hx).1
        rw [hz, ← hR.1] at h2
        rw [hold a (by omega)] at hx
        exact hR.2.2 a x ha hx
    · rw [hBh, hT] at ha
      rw [hBh, hT]; exact hold a ha
  obtain ⟨U, st1, o, hrun, hend, q1, ce, h2, n2, L, ho, hce, hv, hcl, hp2, hR2, hF2, hW2, hsm2, hL2⟩ := K T hT XB
  have hTz : s.heap.size ≤ T.heap.size := by rw [hT]; exact hS.1
  refine ⟨U, st1, o, hrun, hend, q1, ce, h2, n2, locs ++ L, ho, hce, hv, hcl, hp2, hR2, ⟨Nat.le_trans hTz hF2.1, fun a ha hA => ?_⟩, hW2, ?_, fun z hz => ?_⟩
  · have h5 : U.heap[a]? = T.heap[a]? := hF2.2 a (Nat.lt_of_lt_of_le ha hTz) hA
    rw [h5, hT]; exact hS.2.1 a ha hA
  · have h6 : (T.setVm s.vm).sameButNew ({ U with vm := s.vm } : State) L 1 6 := by
      obtain ⟨z1, z2⟩ := hsm2
      refine ⟨?_, z2⟩
      have z1 : ({ U with vm := s.vm } : State) = { ((T.setVm s.vm).setFrames (.invoking m args :: below)).setFrames U.frames with heap := U.heap, slotsUsed := U.slotsUsed } := z1
      rw [State.setFrames_setFrames] at z1
      exact z1
    exact X.same.trans h6
  · rcases List.mem_append.mp hz with h1 | h1
    · exact hS.2.2 z h1
    · exact hL2 z h1
end JX4
end
section
abbrev c_Desk_put : ByteArray := prog_1_method_2_code
abbrev y_Desk_put : MethodName := ⟨"FactorDesk", "put", "(I)I"⟩
theorem d_Desk_put_0 : decode c_Desk_put 0 = .ok (.aload_n 0, 1) := by decide +kernel
theorem d_Desk_put_1 : decode c_Desk_put 1 = .ok (.getfield 13, 3) := by decide +kernel
theorem d_Desk_put_4 : decode c_Desk_put 4 = .ok (.bipush 13, 2) := by decide +kernel
theorem d_Desk_put_6 : decode c_Desk_put 6 = .ok (.if_icmp .lt 13, 3) := by decide +kernel
theorem d_Desk_put_9 : decode c_Desk_put 9 = .ok (.new 61, 3) := by decide +kernel
theorem d_Desk_put_12 : decode c_Desk_put 12 = .ok (.dup, 1) := by decide +kernel
theorem d_Desk_put_13 : decode c_Desk_put 13 = .ok (.ldc 63, 2) := by decide +kernel
theorem d_Desk_put_15 : decode c_Desk_put 15 = .ok (.invokespecial 65, 3) := by decide +kernel
theorem d_Desk_put_18 : decode c_Desk_put 18 = .ok (.athrow, 1) := by decide +kernel
theorem d_Desk_put_19 : decode c_Desk_put 19 = .ok (.aload_n 0, 1) := by decide +kernel
theorem d_Desk_put_20 : decode c_Desk_put 20 = .ok (.getfield 9, 3) := by decide +kernel
theorem d_Desk_put_23 : decode c_Desk_put 23 = .ok (.aload_n 0, 1) := by decide +kernel
theorem d_Desk_put_24 : decode c_Desk_put 24 = .ok (.getfield 13, 3) := by decide +kernel
theorem d_Desk_put_27 : decode c_Desk_put 27 = .ok (.iload_n 1, 1) := by decide +kernel
theorem d_Desk_put_28 : decode c_Desk_put 28 = .ok (.iastore, 1) := by decide +kernel
theorem d_Desk_put_29 : decode c_Desk_put 29 = .ok (.aload_n 0, 1) := by decide +kernel
theorem d_Desk_put_30 : decode c_Desk_put 30 = .ok (.dup, 1) := by decide +kernel
theorem d_Desk_put_31 : decode c_Desk_put 31 = .ok (.getfield 13, 3) := by decide +kernel
theorem d_Desk_put_34 : decode c_Desk_put 34 = .ok (.iconst 1, 1) := by decide +kernel
theorem d_Desk_put_35 : decode c_Desk_put 35 = .ok (.iadd, 1) := by decide +kernel
theorem d_Desk_put_36 : decode c_Desk_put 36 = .ok (.putfield 13, 3) := by decide +kernel
theorem d_Desk_put_39 : decode c_Desk_put 39 = .ok (.aload_n 0, 1) := by decide +kernel
theorem d_Desk_put_40 : decode c_Desk_put 40 = .ok (.getfield 13, 3) := by decide +kernel
theorem d_Desk_put_43 : decode c_Desk_put 43 = .ok (.ireturn, 1) := by decide +kernel
abbrev c_Desk_clear : ByteArray := prog_1_method_3_code
abbrev y_Desk_clear : MethodName := ⟨"FactorDesk", "clear", "()I"⟩
theorem d_Desk_clear_0 : decode c_Desk_clear 0 = .ok (.aload_n 0, 1) := by decide +kernel
theorem d_Desk_clear_1 : decode c_Desk_clear 1 = .ok (.getfield 13, 3) := by decide +kernel
theorem d_Desk_clear_4 : decode c_Desk_clear 4 = .ok (.istore_n 1, 1) := by decide +kernel
theorem d_Desk_clear_5 : decode c_Desk_clear 5 = .ok (.aload_n 0, 1) := by decide +kernel
theorem d_Desk_clear_6 : decode c_Desk_clear 6 = .ok (.iconst 0, 1) := by decide +kernel
theorem d_Desk_clear_7 : decode c_Desk_clear 7 = .ok (.putfield 13, 3) := by decide +kernel
theorem d_Desk_clear_10 : decode c_Desk_clear 10 = .ok (.iload_n 1, 1) := by decide +kernel
theorem d_Desk_clear_11 : decode c_Desk_clear 11 = .ok (.ireturn, 1) := by decide +kernel
abbrev c_Desk_tapeTop : ByteArray := prog_1_method_18_code
abbrev y_Desk_tapeTop : MethodName := ⟨"FactorDesk", "tapeTop", "()I"⟩
theorem d_Desk_tapeTop_0 : decode c_Desk_tapeTop 0 = .ok (.aload_n 0, 1) := by decide +kernel
theorem d_Desk_tapeTop_1 : decode c_Desk_tapeTop 1 = .ok (.getfield 13, 3) := by decide +kernel
theorem d_Desk_tapeTop_4 : decode c_Desk_tapeTop 4 = .ok (.iconst 1, 1) := by decide +kernel
theorem d_Desk_tapeTop_5 : decode c_Desk_tapeTop 5 = .ok (.isub, 1) := by decide +kernel
theorem d_Desk_tapeTop_6 : decode c_Desk_tapeTop 6 = .ok (.istore_n 1, 1) := by decide +kernel
theorem d_Desk_tapeTop_7 : decode c_Desk_tapeTop 7 = .ok (.iload_n 1, 1) := by decide +kernel
theorem d_Desk_tapeTop_8 : decode c_Desk_tapeTop 8 = .ok (.ifCond .lt 18, 3) := by decide +kernel
theorem d_Desk_tapeTop_11 : decode c_Desk_tapeTop 11 = .ok (.aload_n 0, 1) := by decide +kernel
theorem d_Desk_tapeTop_12 : decode c_Desk_tapeTop 12 = .ok (.getfield 9, 3) := by decide +kernel
theorem d_Desk_tapeTop_15 : decode c_Desk_tapeTop 15 = .ok (.iload_n 1, 1) := by decide +kernel
theorem d_Desk_tapeTop_16 : decode c_Desk_tapeTop 16 = .ok (.iaload, 1) := by decide +kernel
theorem d_Desk_tapeTop_17 : decode c_Desk_tapeTop 17 = .ok (.ifCond .ne 9, 3) := by decide +kernel
theorem d_Desk_tapeTop_20 : decode c_Desk_tapeTop 20 = .ok (.iinc 1 (-1), 3) := by decide +kernel
theorem d_Desk_tapeTop_23 : decode c_Desk_tapeTop 23 = .ok (.goto (-16), 3) := by decide +kernel
theorem d_Desk_tapeTop_26 : decode c_Desk_tapeTop 26 = .ok (.iload_n 1, 1) := by decide +kernel
theorem d_Desk_tapeTop_27 : decode c_Desk_tapeTop 27 = .ok (.ireturn, 1) := by decide +kernel
abbrev c_Desk_take : ByteArray := prog_1_method_4_code
abbrev y_Desk_take : MethodName := ⟨"FactorDesk", "take", "()I"⟩
theorem d_Desk_take_0 : decode c_Desk_take 0 = .ok (.aload_n 0, 1) := by decide +kernel
theorem d_Desk_take_1 : decode c_Desk_take 1 = .ok (.invokevirtual 68, 3) := by decide +kernel
theorem d_Desk_take_4 : decode c_Desk_take 4 = .ok (.istore_n 1, 1) := by decide +kernel
theorem d_Desk_take_5 : decode c_Desk_take 5 = .ok (.iload_n 1, 1) := by decide +kernel
theorem d_Desk_take_6 : decode c_Desk_take 6 = .ok (.ifCond .ge 13, 3) := by decide +kernel
theorem d_Desk_take_9 : decode c_Desk_take 9 = .ok (.new 72, 3) := by decide +kernel
theorem d_Desk_take_12 : decode c_Desk_take 12 = .ok (.dup, 1) := by decide +kernel
theorem d_Desk_take_13 : decode c_Desk_take 13 = .ok (.ldc 74, 2) := by decide +kernel
theorem d_Desk_take_15 : decode c_Desk_take 15 = .ok (.invokespecial 76, 3) := by decide +kernel
theorem d_Desk_take_18 : decode c_Desk_take 18 = .ok (.athrow, 1) := by decide +kernel
theorem d_Desk_take_19 : decode c_Desk_take 19 = .ok (.aload_n 0, 1) := by decide +kernel
theorem d_Desk_take_20 : decode c_Desk_take 20 = .ok (.aload_n 0, 1) := by decide +kernel
theorem d_Desk_take_21 : decode c_Desk_take 21 = .ok (.getfield 20, 3) := by decide +kernel
theorem d_Desk_take_24 : decode c_Desk_take 24 = .ok (.iload_n 1, 1) := by decide +kernel
theorem d_Desk_take_25 : decode c_Desk_take 25 = .ok (.invokevirtual 77, 3) := by decide +kernel
theorem d_Desk_take_28 : decode c_Desk_take 28 = .ok (.aload_n 0, 1) := by decide +kernel
theorem d_Desk_take_29 : decode c_Desk_take 29 = .ok (.getfield 47, 3) := by decide +kernel
theorem d_Desk_take_32 : decode c_Desk_take 32 = .ok (.invokevirtual 81, 3) := by decide +kernel
theorem d_Desk_take_35 : decode c_Desk_take 35 = .ok (.aload_n 0, 1) := by decide +kernel
theorem d_Desk_take_36 : decode c_Desk_take 36 = .ok (.getfield 20, 3) := by decide +kernel
theorem d_Desk_take_39 : decode c_Desk_take 39 = .ok (.getfield 84, 3) := by decide +kernel
theorem d_Desk_take_42 : decode c_Desk_take 42 = .ok (.ireturn, 1) := by decide +kernel
abbrev c_Desk_times : ByteArray := prog_1_method_5_code
abbrev y_Desk_times : MethodName := ⟨"FactorDesk", "times", "()I"⟩
theorem d_Desk_times_0 : decode c_Desk_times 0 = .ok (.aload_n 0, 1) := by decide +kernel
theorem d_Desk_times_1 : decode c_Desk_times 1 = .ok (.invokevirtual 68, 3) := by decide +kernel
theorem d_Desk_times_4 : decode c_Desk_times 4 = .ok (.istore_n 1, 1) := by decide +kernel
theorem d_Desk_times_5 : decode c_Desk_times 5 = .ok (.iload_n 1, 1) := by decide +kernel
theorem d_Desk_times_6 : decode c_Desk_times 6 = .ok (.ifCond .ge 13, 3) := by decide +kernel
theorem d_Desk_times_9 : decode c_Desk_times 9 = .ok (.new 72, 3) := by decide +kernel
theorem d_Desk_times_12 : decode c_Desk_times 12 = .ok (.dup, 1) := by decide +kernel
theorem d_Desk_times_13 : decode c_Desk_times 13 = .ok (.ldc 74, 2) := by decide +kernel
theorem d_Desk_times_15 : decode c_Desk_times 15 = .ok (.invokespecial 76, 3) := by decide +kernel
theorem d_Desk_times_18 : decode c_Desk_times 18 = .ok (.athrow, 1) := by decide +kernel
theorem d_Desk_times_19 : decode c_Desk_times 19 = .ok (.iload_n 1, 1) := by decide +kernel
theorem d_Desk_times_20 : decode c_Desk_times 20 = .ok (.aload_n 0, 1) := by decide +kernel
theorem d_Desk_times_21 : decode c_Desk_times 21 = .ok (.getfield 20, 3) := by decide +kernel
theorem d_Desk_times_24 : decode c_Desk_times 24 = .ok (.getfield 84, 3) := by decide +kernel
theorem d_Desk_times_27 : decode c_Desk_times 27 = .ok (.iadd, 1) := by decide +kernel
theorem d_Desk_times_28 : decode c_Desk_times 28 = .ok (.bipush 12, 2) := by decide +kernel
theorem d_Desk_times_30 : decode c_Desk_times 30 = .ok (.if_icmp .le 13, 3) := by decide +kernel
theorem d_Desk_times_33 : decode c_Desk_times 33 = .ok (.new 61, 3) := by decide +kernel
theorem d_Desk_times_36 : decode c_Desk_times 36 = .ok (.dup, 1) := by decide +kernel
theorem d_Desk_times_37 : decode c_Desk_times 37 = .ok (.ldc 87, 2) := by decide +kernel
theorem d_Desk_times_39 : decode c_Desk_times 39 = .ok (.invokespecial 65, 3) := by decide +kernel
theorem d_Desk_times_42 : decode c_Desk_times 42 = .ok (.athrow, 1) := by decide +kernel
theorem d_Desk_times_43 : decode c_Desk_times 43 = .ok (.aload_n 0, 1) := by decide +kernel
theorem d_Desk_times_44 : decode c_Desk_times 44 = .ok (.iload_n 1, 1) := by decide +kernel
theorem d_Desk_times_45 : decode c_Desk_times 45 = .ok (.invokevirtual 89, 3) := by decide +kernel
theorem d_Desk_times_48 : decode c_Desk_times 48 = .ok (.ifCond .ne 13, 3) := by decide +kernel
theorem d_Desk_times_51 : decode c_Desk_times 51 = .ok (.new 61, 3) := by decide +kernel
theorem d_Desk_times_54 : decode c_Desk_times 54 = .ok (.dup, 1) := by decide +kernel
theorem d_Desk_times_55 : decode c_Desk_times 55 = .ok (.ldc 93, 2) := by decide +kernel
theorem d_Desk_times_57 : decode c_Desk_times 57 = .ok (.invokespecial 65, 3) := by decide +kernel
theorem d_Desk_times_60 : decode c_Desk_times 60 = .ok (.athrow, 1) := by decide +kernel
theorem d_Desk_times_61 : decode c_Desk_times 61 = .ok (.aload_n 0, 1) := by decide +kernel
theorem d_Desk_times_62 : decode c_Desk_times 62 = .ok (.getfield 20, 3) := by decide +kernel
theorem d_Desk_times_65 : decode c_Desk_times 65 = .ok (.aload_n 0, 1) := by decide +kernel
theorem d_Desk_times_66 : decode c_Desk_times 66 = .ok (.getfield 28, 3) := by decide +kernel
theorem d_Desk_times_69 : decode c_Desk_times 69 = .ok (.invokevirtual 95, 3) := by decide +kernel
theorem d_Desk_times_72 : decode c_Desk_times 72 = .ok (.aload_n 0, 1) := by decide +kernel
theorem d_Desk_times_73 : decode c_Desk_times 73 = .ok (.iconst 0, 1) := by decide +kernel
theorem d_Desk_times_74 : decode c_Desk_times 74 = .ok (.putfield 13, 3) := by decide +kernel
theorem d_Desk_times_77 : decode c_Desk_times 77 = .ok (.aload_n 0, 1) := by decide +kernel
theorem d_Desk_times_78 : decode c_Desk_times 78 = .ok (.getfield 47, 3) := by decide +kernel
theorem d_Desk_times_81 : decode c_Desk_times 81 = .ok (.invokevirtual 81, 3) := by decide +kernel
theorem d_Desk_times_84 : decode c_Desk_times 84 = .ok (.aload_n 0, 1) := by decide +kernel
theorem d_Desk_times_85 : decode c_Desk_times 85 = .ok (.getfield 20, 3) := by decide +kernel
theorem d_Desk_times_88 : decode c_Desk_times 88 = .ok (.getfield 84, 3) := by decide +kernel
theorem d_Desk_times_91 : decode c_Desk_times 91 = .ok (.ireturn, 1) := by decide +kernel
abbrev c_Desk_common : ByteArray := prog_1_method_14_code
abbrev y_Desk_common : MethodName := ⟨"FactorDesk", "common", "()I"⟩
theorem d_Desk_common_0 : decode c_Desk_common 0 = .ok (.aload_n 0, 1) := by decide +kernel
theorem d_Desk_common_1 : decode c_Desk_common 1 = .ok (.invokevirtual 68, 3) := by decide +kernel
theorem d_Desk_common_4 : decode c_Desk_common 4 = .ok (.istore_n 1, 1) := by decide +kernel
theorem d_Desk_common_5 : decode c_Desk_common 5 = .ok (.iload_n 1, 1) := by decide +kernel
theorem d_Desk_common_6 : decode c_Desk_common 6 = .ok (.ifCond .ge 13, 3) := by decide +kernel
theorem d_Desk_common_9 : decode c_Desk_common 9 = .ok (.new 72, 3) := by decide +kernel
theorem d_Desk_common_12 : decode c_Desk_common 12 = .ok (.dup, 1) := by decide +kernel
theorem d_Desk_common_13 : decode c_Desk_common 13 = .ok (.ldc 74, 2) := by decide +kernel
theorem d_Desk_common_15 : decode c_Desk_common 15 = .ok (.invokespecial 76, 3) := by decide +kernel
theorem d_Desk_common_18 : decode c_Desk_common 18 = .ok (.athrow, 1) := by decide +kernel
theorem d_Desk_common_19 : decode c_Desk_common 19 = .ok (.aload_n 0, 1) := by decide +kernel
theorem d_Desk_common_20 : decode c_Desk_common 20 = .ok (.aload_n 0, 1) := by decide +kernel
theorem d_Desk_common_21 : decode c_Desk_common 21 = .ok (.getfield 31, 3) := by decide +kernel
theorem d_Desk_common_24 : decode c_Desk_common 24 = .ok (.iload_n 1, 1) := by decide +kernel
theorem d_Desk_common_25 : decode c_Desk_common 25 = .ok (.invokevirtual 77, 3) := by decide +kernel
theorem d_Desk_common_28 : decode c_Desk_common 28 = .ok (.aload_n 0, 1) := by decide +kernel
theorem d_Desk_common_29 : decode c_Desk_common 29 = .ok (.getfield 55, 3) := by decide +kernel
theorem d_Desk_common_32 : decode c_Desk_common 32 = .ok (.aload_n 0, 1) := by decide +kernel
theorem d_Desk_common_33 : decode c_Desk_common 33 = .ok (.getfield 20, 3) := by decide +kernel
theorem d_Desk_common_36 : decode c_Desk_common 36 = .ok (.aload_n 0, 1) := by decide +kernel
theorem d_Desk_common_37 : decode c_Desk_common 37 = .ok (.getfield 31, 3) := by decide +kernel
theorem d_Desk_common_40 : decode c_Desk_common 40 = .ok (.invokevirtual 147, 3) := by decide +kernel
theorem d_Desk_common_43 : decode c_Desk_common 43 = .ok (.aload_n 0, 1) := by decide +kernel
theorem d_Desk_common_44 : decode c_Desk_common 44 = .ok (.getfield 34, 3) := by decide +kernel
theorem d_Desk_common_47 : decode c_Desk_common 47 = .ok (.aload_n 0, 1) := by decide +kernel
theorem d_Desk_common_48 : decode c_Desk_common 48 = .ok (.getfield 55, 3) := by decide +kernel
theorem d_Desk_common_51 : decode c_Desk_common 51 = .ok (.getfield 153, 3) := by decide +kernel
theorem d_Desk_common_54 : decode c_Desk_common 54 = .ok (.invokevirtual 95, 3) := by decide +kernel
theorem d_Desk_common_57 : decode c_Desk_common 57 = .ok (.aload_n 0, 1) := by decide +kernel
theorem d_Desk_common_58 : decode c_Desk_common 58 = .ok (.getfield 34, 3) := by decide +kernel
theorem d_Desk_common_61 : decode c_Desk_common 61 = .ok (.getfield 84, 3) := by decide +kernel
theorem d_Desk_common_64 : decode c_Desk_common 64 = .ok (.ireturn, 1) := by decide +kernel
abbrev c_Desk_divides : ByteArray := prog_1_method_16_code
abbrev y_Desk_divides : MethodName := ⟨"FactorDesk", "divides", "()Z"⟩
theorem d_Desk_divides_0 : decode c_Desk_divides 0 = .ok (.aload_n 0, 1) := by decide +kernel
theorem d_Desk_divides_1 : decode c_Desk_divides 1 = .ok (.invokevirtual 68, 3) := by decide +kernel
theorem d_Desk_divides_4 : decode c_Desk_divides 4 = .ok (.istore_n 1, 1) := by decide +kernel
theorem d_Desk_divides_5 : decode c_Desk_divides 5 = .ok (.iload_n 1, 1) := by decide +kernel
theorem d_Desk_divides_6 : decode c_Desk_divides 6 = .ok (.ifCond .ge 13, 3) := by decide +kernel
theorem d_Desk_divides_9 : decode c_Desk_divides 9 = .ok (.new 72, 3) := by decide +kernel
theorem d_Desk_divides_12 : decode c_Desk_divides 12 = .ok (.dup, 1) := by decide +kernel
theorem d_Desk_divides_13 : decode c_Desk_divides 13 = .ok (.ldc 74, 2) := by decide +kernel
theorem d_Desk_divides_15 : decode c_Desk_divides 15 = .ok (.invokespecial 76, 3) := by decide +kernel
theorem d_Desk_divides_18 : decode c_Desk_divides 18 = .ok (.athrow, 1) := by decide +kernel
theorem d_Desk_divides_19 : decode c_Desk_divides 19 = .ok (.aload_n 0, 1) := by decide +kernel
theorem d_Desk_divides_20 : decode c_Desk_divides 20 = .ok (.aload_n 0, 1) := by decide +kernel
theorem d_Desk_divides_21 : decode c_Desk_divides 21 = .ok (.getfield 31, 3) := by decide +kernel
theorem d_Desk_divides_24 : decode c_Desk_divides 24 = .ok (.iload_n 1, 1) := by decide +kernel
theorem d_Desk_divides_25 : decode c_Desk_divides 25 = .ok (.invokevirtual 77, 3) := by decide +kernel
theorem d_Desk_divides_28 : decode c_Desk_divides 28 = .ok (.aload_n 0, 1) := by decide +kernel
theorem d_Desk_divides_29 : decode c_Desk_divides 29 = .ok (.getfield 31, 3) := by decide +kernel
theorem d_Desk_divides_32 : decode c_Desk_divides 32 = .ok (.invokevirtual 158, 3) := by decide +kernel
theorem d_Desk_divides_35 : decode c_Desk_divides 35 = .ok (.aload_n 0, 1) := by decide +kernel
theorem d_Desk_divides_36 : decode c_Desk_divides 36 = .ok (.getfield 60, 3) := by decide +kernel
theorem d_Desk_divides_39 : decode c_Desk_divides 39 = .ok (.aload_n 0, 1) := by decide +kernel
theorem d_Desk_divides_40 : decode c_Desk_divides 40 = .ok (.getfield 20, 3) := by decide +kernel
theorem d_Desk_divides_43 : decode c_Desk_divides 43 = .ok (.aload_n 0, 1) := by decide +kernel
theorem d_Desk_divides_44 : decode c_Desk_divides 44 = .ok (.getfield 31, 3) := by decide +kernel
theorem d_Desk_divides_47 : decode c_Desk_divides 47 = .ok (.invokevirtual 161, 3) := by decide +kernel
theorem d_Desk_divides_50 : decode c_Desk_divides 50 = .ok (.ireturn, 1) := by decide +kernel
abbrev c_Desk_degree : ByteArray := prog_1_method_7_code
abbrev y_Desk_degree : MethodName := ⟨"FactorDesk", "degree", "()I"⟩
theorem d_Desk_degree_0 : decode c_Desk_degree 0 = .ok (.aload_n 0, 1) := by decide +kernel
theorem d_Desk_degree_1 : decode c_Desk_degree 1 = .ok (.getfield 20, 3) := by decide +kernel
theorem d_Desk_degree_4 : decode c_Desk_degree 4 = .ok (.getfield 84, 3) := by decide +kernel
theorem d_Desk_degree_7 : decode c_Desk_degree 7 = .ok (.ireturn, 1) := by decide +kernel
abbrev c_Desk_content : ByteArray := prog_1_method_8_code
abbrev y_Desk_content : MethodName := ⟨"FactorDesk", "content", "()J"⟩
theorem d_Desk_content_0 : decode c_Desk_content 0 = .ok (.aload_n 0, 1) := by decide +kernel
theorem d_Desk_content_1 : decode c_Desk_content 1 = .ok (.getfield 20, 3) := by decide +kernel
theorem d_Desk_content_4 : decode c_Desk_content 4 = .ok (.invokevirtual 105, 3) := by decide +kernel
theorem d_Desk_content_7 : decode c_Desk_content 7 = .ok (.lstore_n 1, 1) := by decide +kernel
theorem d_Desk_content_8 : decode c_Desk_content 8 = .ok (.aload_n 0, 1) := by decide +kernel
theorem d_Desk_content_9 : decode c_Desk_content 9 = .ok (.getfield 20, 3) := by decide +kernel
theorem d_Desk_content_12 : decode c_Desk_content 12 = .ok (.invokevirtual 109, 3) := by decide +kernel
theorem d_Desk_content_15 : decode c_Desk_content 15 = .ok (.lconst 0, 1) := by decide +kernel
theorem d_Desk_content_16 : decode c_Desk_content 16 = .ok (.lcmp, 1) := by decide +kernel
theorem d_Desk_content_17 : decode c_Desk_content 17 = .ok (.ifCond .ge 8, 3) := by decide +kernel
theorem d_Desk_content_20 : decode c_Desk_content 20 = .ok (.lload_n 1, 1) := by decide +kernel
theorem d_Desk_content_21 : decode c_Desk_content 21 = .ok (.lneg, 1) := by decide +kernel
theorem d_Desk_content_22 : decode c_Desk_content 22 = .ok (.goto 4, 3) := by decide +kernel
theorem d_Desk_content_25 : decode c_Desk_content 25 = .ok (.lload_n 1, 1) := by decide +kernel
theorem d_Desk_content_26 : decode c_Desk_content 26 = .ok (.lreturn, 1) := by decide +kernel
abbrev c_Desk_at : ByteArray := prog_1_method_6_code
abbrev y_Desk_at : MethodName := ⟨"FactorDesk", "at", "(I)I"⟩
theorem d_Desk_at_0 : decode c_Desk_at 0 = .ok (.iload_n 1, 1) := by decide +kernel
theorem d_Desk_at_1 : decode c_Desk_at 1 = .ok (.ifCond .lt 9, 3) := by decide +kernel
theorem d_Desk_at_4 : decode c_Desk_at 4 = .ok (.iload_n 1, 1) := by decide +kernel
theorem d_Desk_at_5 : decode c_Desk_at 5 = .ok (.bipush 12, 2) := by decide +kernel
theorem d_Desk_at_7 : decode c_Desk_at 7 = .ok (.if_icmp .le 13, 3) := by decide +kernel
theorem d_Desk_at_10 : decode c_Desk_at 10 = .ok (.new 72, 3) := by decide +kernel
theorem d_Desk_at_13 : decode c_Desk_at 13 = .ok (.dup, 1) := by decide +kernel
theorem d_Desk_at_14 : decode c_Desk_at 14 = .ok (.ldc 99, 2) := by decide +kernel
theorem d_Desk_at_16 : decode c_Desk_at 16 = .ok (.invokespecial 76, 3) := by decide +kernel
theorem d_Desk_at_19 : decode c_Desk_at 19 = .ok (.athrow, 1) := by decide +kernel
theorem d_Desk_at_20 : decode c_Desk_at 20 = .ok (.aload_n 0, 1) := by decide +kernel
theorem d_Desk_at_21 : decode c_Desk_at 21 = .ok (.getfield 20, 3) := by decide +kernel
theorem d_Desk_at_24 : decode c_Desk_at 24 = .ok (.getfield 101, 3) := by decide +kernel
theorem d_Desk_at_27 : decode c_Desk_at 27 = .ok (.iload_n 1, 1) := by decide +kernel
theorem d_Desk_at_28 : decode c_Desk_at 28 = .ok (.laload, 1) := by decide +kernel
theorem d_Desk_at_29 : decode c_Desk_at 29 = .ok (.l2i, 1) := by decide +kernel
theorem d_Desk_at_30 : decode c_Desk_at 30 = .ok (.ireturn, 1) := by decide +kernel
abbrev c_Desk_factor : ByteArray := prog_1_method_10_code
abbrev y_Desk_factor : MethodName := ⟨"FactorDesk", "factor", "(II)I"⟩
theorem d_Desk_factor_0 : decode c_Desk_factor 0 = .ok (.iload_n 1, 1) := by decide +kernel
theorem d_Desk_factor_1 : decode c_Desk_factor 1 = .ok (.ifCond .lt 23, 3) := by decide +kernel
theorem d_Desk_factor_4 : decode c_Desk_factor 4 = .ok (.iload_n 1, 1) := by decide +kernel
theorem d_Desk_factor_5 : decode c_Desk_factor 5 = .ok (.aload_n 0, 1) := by decide +kernel
theorem d_Desk_factor_6 : decode c_Desk_factor 6 = .ok (.getfield 40, 3) := by decide +kernel
theorem d_Desk_factor_9 : decode c_Desk_factor 9 = .ok (.getfield 121, 3) := by decide +kernel
theorem d_Desk_factor_12 : decode c_Desk_factor 12 = .ok (.if_icmp .ge 12, 3) := by decide +kernel
theorem d_Desk_factor_15 : decode c_Desk_factor 15 = .ok (.iload_n 2, 1) := by decide +kernel
theorem d_Desk_factor_16 : decode c_Desk_factor 16 = .ok (.ifCond .lt 8, 3) := by decide +kernel
theorem d_Desk_factor_19 : decode c_Desk_factor 19 = .ok (.iload_n 2, 1) := by decide +kernel
theorem d_Desk_factor_20 : decode c_Desk_factor 20 = .ok (.iconst 1, 1) := by decide +kernel
theorem d_Desk_factor_21 : decode c_Desk_factor 21 = .ok (.if_icmp .le 13, 3) := by decide +kernel
theorem d_Desk_factor_24 : decode c_Desk_factor 24 = .ok (.new 124, 3) := by decide +kernel
theorem d_Desk_factor_27 : decode c_Desk_factor 27 = .ok (.dup, 1) := by decide +kernel
theorem d_Desk_factor_28 : decode c_Desk_factor 28 = .ok (.ldc 126, 2) := by decide +kernel
theorem d_Desk_factor_30 : decode c_Desk_factor 30 = .ok (.invokespecial 128, 3) := by decide +kernel
theorem d_Desk_factor_33 : decode c_Desk_factor 33 = .ok (.athrow, 1) := by decide +kernel
theorem d_Desk_factor_34 : decode c_Desk_factor 34 = .ok (.iload_n 2, 1) := by decide +kernel
theorem d_Desk_factor_35 : decode c_Desk_factor 35 = .ok (.ifCond .ne 18, 3) := by decide +kernel
theorem d_Desk_factor_38 : decode c_Desk_factor 38 = .ok (.aload_n 0, 1) := by decide +kernel
theorem d_Desk_factor_39 : decode c_Desk_factor 39 = .ok (.getfield 40, 3) := by decide +kernel
theorem d_Desk_factor_42 : decode c_Desk_factor 42 = .ok (.getfield 129, 3) := by decide +kernel
theorem d_Desk_factor_45 : decode c_Desk_factor 45 = .ok (.iload_n 1, 1) := by decide +kernel
theorem d_Desk_factor_46 : decode c_Desk_factor 46 = .ok (.aaload, 1) := by decide +kernel
theorem d_Desk_factor_47 : decode c_Desk_factor 47 = .ok (.getfield 84, 3) := by decide +kernel
theorem d_Desk_factor_50 : decode c_Desk_factor 50 = .ok (.goto 12, 3) := by decide +kernel
theorem d_Desk_factor_53 : decode c_Desk_factor 53 = .ok (.aload_n 0, 1) := by decide +kernel
theorem d_Desk_factor_54 : decode c_Desk_factor 54 = .ok (.getfield 40, 3) := by decide +kernel
theorem d_Desk_factor_57 : decode c_Desk_factor 57 = .ok (.getfield 133, 3) := by decide +kernel
theorem d_Desk_factor_60 : decode c_Desk_factor 60 = .ok (.iload_n 1, 1) := by decide +kernel
theorem d_Desk_factor_61 : decode c_Desk_factor 61 = .ok (.iaload, 1) := by decide +kernel
theorem d_Desk_factor_62 : decode c_Desk_factor 62 = .ok (.ireturn, 1) := by decide +kernel
abbrev c_Desk_part : ByteArray := prog_1_method_11_code
abbrev y_Desk_part : MethodName := ⟨"FactorDesk", "part", "(II)J"⟩
theorem d_Desk_part_0 : decode c_Desk_part 0 = .ok (.iload_n 1, 1) := by decide +kernel
theorem d_Desk_part_1 : decode c_Desk_part 1 = .ok (.ifCond .lt 34, 3) := by decide +kernel
theorem d_Desk_part_4 : decode c_Desk_part 4 = .ok (.iload_n 1, 1) := by decide +kernel
theorem d_Desk_part_5 : decode c_Desk_part 5 = .ok (.aload_n 0, 1) := by decide +kernel
theorem d_Desk_part_6 : decode c_Desk_part 6 = .ok (.getfield 40, 3) := by decide +kernel
theorem d_Desk_part_9 : decode c_Desk_part 9 = .ok (.getfield 121, 3) := by decide +kernel
theorem d_Desk_part_12 : decode c_Desk_part 12 = .ok (.if_icmp .ge 23, 3) := by decide +kernel
theorem d_Desk_part_15 : decode c_Desk_part 15 = .ok (.iload_n 2, 1) := by decide +kernel
theorem d_Desk_part_16 : decode c_Desk_part 16 = .ok (.ifCond .lt 19, 3) := by decide +kernel
theorem d_Desk_part_19 : decode c_Desk_part 19 = .ok (.iload_n 2, 1) := by decide +kernel
theorem d_Desk_part_20 : decode c_Desk_part 20 = .ok (.aload_n 0, 1) := by decide +kernel
theorem d_Desk_part_21 : decode c_Desk_part 21 = .ok (.getfield 40, 3) := by decide +kernel
theorem d_Desk_part_24 : decode c_Desk_part 24 = .ok (.getfield 129, 3) := by decide +kernel
theorem d_Desk_part_27 : decode c_Desk_part 27 = .ok (.iload_n 1, 1) := by decide +kernel
theorem d_Desk_part_28 : decode c_Desk_part 28 = .ok (.aaload, 1) := by decide +kernel
theorem d_Desk_part_29 : decode c_Desk_part 29 = .ok (.getfield 84, 3) := by decide +kernel
theorem d_Desk_part_32 : decode c_Desk_part 32 = .ok (.if_icmp .le 13, 3) := by decide +kernel
theorem d_Desk_part_35 : decode c_Desk_part 35 = .ok (.new 124, 3) := by decide +kernel
theorem d_Desk_part_38 : decode c_Desk_part 38 = .ok (.dup, 1) := by decide +kernel
theorem d_Desk_part_39 : decode c_Desk_part 39 = .ok (.ldc 136, 2) := by decide +kernel
theorem d_Desk_part_41 : decode c_Desk_part 41 = .ok (.invokespecial 128, 3) := by decide +kernel
theorem d_Desk_part_44 : decode c_Desk_part 44 = .ok (.athrow, 1) := by decide +kernel
theorem d_Desk_part_45 : decode c_Desk_part 45 = .ok (.aload_n 0, 1) := by decide +kernel
theorem d_Desk_part_46 : decode c_Desk_part 46 = .ok (.getfield 40, 3) := by decide +kernel
theorem d_Desk_part_49 : decode c_Desk_part 49 = .ok (.getfield 129, 3) := by decide +kernel
theorem d_Desk_part_52 : decode c_Desk_part 52 = .ok (.iload_n 1, 1) := by decide +kernel
theorem d_Desk_part_53 : decode c_Desk_part 53 = .ok (.aaload, 1) := by decide +kernel
theorem d_Desk_part_54 : decode c_Desk_part 54 = .ok (.getfield 101, 3) := by decide +kernel
theorem d_Desk_part_57 : decode c_Desk_part 57 = .ok (.iload_n 2, 1) := by decide +kernel
theorem d_Desk_part_58 : decode c_Desk_part 58 = .ok (.laload, 1) := by decide +kernel
theorem d_Desk_part_59 : decode c_Desk_part 59 = .ok (.lreturn, 1) := by decide +kernel
abbrev c_Desk_divisor : ByteArray := prog_1_method_15_code
abbrev y_Desk_divisor : MethodName := ⟨"FactorDesk", "divisor", "(I)J"⟩
theorem d_Desk_divisor_0 : decode c_Desk_divisor 0 = .ok (.iload_n 1, 1) := by decide +kernel
theorem d_Desk_divisor_1 : decode c_Desk_divisor 1 = .ok (.ifCond .lt 14, 3) := by decide +kernel
theorem d_Desk_divisor_4 : decode c_Desk_divisor 4 = .ok (.iload_n 1, 1) := by decide +kernel
theorem d_Desk_divisor_5 : decode c_Desk_divisor 5 = .ok (.aload_n 0, 1) := by decide +kernel
theorem d_Desk_divisor_6 : decode c_Desk_divisor 6 = .ok (.getfield 34, 3) := by decide +kernel
theorem d_Desk_divisor_9 : decode c_Desk_divisor 9 = .ok (.getfield 84, 3) := by decide +kernel
theorem d_Desk_divisor_12 : decode c_Desk_divisor 12 = .ok (.if_icmp .le 13, 3) := by decide +kernel
theorem d_Desk_divisor_15 : decode c_Desk_divisor 15 = .ok (.new 124, 3) := by decide +kernel
theorem d_Desk_divisor_18 : decode c_Desk_divisor 18 = .ok (.dup, 1) := by decide +kernel
theorem d_Desk_divisor_19 : decode c_Desk_divisor 19 = .ok (.ldc 156, 2) := by decide +kernel
theorem d_Desk_divisor_21 : decode c_Desk_divisor 21 = .ok (.invokespecial 128, 3) := by decide +kernel
theorem d_Desk_divisor_24 : decode c_Desk_divisor 24 = .ok (.athrow, 1) := by decide +kernel
theorem d_Desk_divisor_25 : decode c_Desk_divisor 25 = .ok (.aload_n 0, 1) := by decide +kernel
theorem d_Desk_divisor_26 : decode c_Desk_divisor 26 = .ok (.getfield 34, 3) := by decide +kernel
theorem d_Desk_divisor_29 : decode c_Desk_divisor 29 = .ok (.getfield 101, 3) := by decide +kernel
theorem d_Desk_divisor_32 : decode c_Desk_divisor 32 = .ok (.iload_n 1, 1) := by decide +kernel
theorem d_Desk_divisor_33 : decode c_Desk_divisor 33 = .ok (.laload, 1) := by decide +kernel
theorem d_Desk_divisor_34 : decode c_Desk_divisor 34 = .ok (.lreturn, 1) := by decide +kernel
theorem g_717 : jG (Jvm.Cond.methodLink "FactorDesk" (68 : Nat) ({ cls := "FactorDesk", name := "tapeTop", desc := "()I" } : Jvm.MethodName)) := jG_of 782 (by decide +kernel) (by decide +kernel)
theorem g_720 : jG (Jvm.Cond.code ({ cls := "FactorDesk", name := "tapeTop", desc := "()I" } : Jvm.MethodName) prog_1_method_18_code (2 : Nat) (Option.some Jvm.ClassFile.FieldType.int)) := jG_of 785 (by decide +kernel) (by decide +kernel)
theorem g_719 : jG (Jvm.Cond.instanceMethod ({ cls := "FactorDesk", name := "tapeTop", desc := "()I" } : Jvm.MethodName)) := jG_of 784 (by decide +kernel) (by decide +kernel)
theorem gp_20 : jG (Jvm.Cond.selects "FactorDesk" ({ cls := "FactorDesk", name := "tapeTop", desc := "()I" } : Jvm.MethodName) ({ cls := "FactorDesk", name := "tapeTop", desc := "()I" } : Jvm.MethodName)) := jG_of 20 (by decide +kernel) (by decide +kernel)
theorem g_721 : jG (Jvm.Cond.classLink "FactorDesk" (72 : Nat) "java/lang/IllegalArgumentException") := jG_of 786 (by decide +kernel) (by decide +kernel)
theorem g_722 : jG (Jvm.Cond.instantiable "java/lang/IllegalArgumentException" (6 : Nat)) := jG_of 787 (by decide +kernel) (by decide +kernel)
theorem g_15 : jG (Jvm.Cond.initialized "java/lang/IllegalArgumentException") := jG_of 80 (by decide +kernel) (by decide +kernel)
theorem g_48 : jG (Jvm.Cond.fieldLink "FactorDesk" (84 : Nat) "FactorDesk$Poly" "degree" "I") := jG_of 113 (by decide +kernel) (by decide +kernel)
theorem g_347 : jG (Jvm.Cond.methodLink "FactorDesk" (105 : Nat) ({ cls := "FactorDesk$Poly", name := "greatestNumber", desc := "()J" } : Jvm.MethodName)) := jG_of 412 (by decide +kernel) (by decide +kernel)
theorem g_354 : jG (Jvm.Cond.methodLink "FactorDesk" (109 : Nat) ({ cls := "FactorDesk$Poly", name := "leading", desc := "()J" } : Jvm.MethodName)) := jG_of 419 (by decide +kernel) (by decide +kernel)
theorem g_39 : jG (Jvm.Cond.fieldLink "FactorDesk" (101 : Nat) "FactorDesk$Poly" "c" "[J") := jG_of 104 (by decide +kernel) (by decide +kernel)
theorem g_779 : jG (Jvm.Cond.classLink "FactorDesk" (124 : Nat) "java/util/NoSuchElementException") := jG_of 844 (by decide +kernel) (by decide +kernel)
theorem g_780 : jG (Jvm.Cond.instantiable "java/util/NoSuchElementException" (6 : Nat)) := jG_of 845 (by decide +kernel) (by decide +kernel)
theorem g_18 : jG (Jvm.Cond.initialized "java/util/NoSuchElementException") := jG_of 83 (by decide +kernel) (by decide +kernel)
theorem g_78 : jG (Jvm.Cond.fieldLink "FactorDesk" (121 : Nat) "FactorDesk$FactorList" "count" "I") := jG_of 143 (by decide +kernel) (by decide +kernel)
abbrev jNm : List String := ["java/lang/RuntimeException", "java/lang/Exception"]
theorem hat_IAE : ∀ w ∈ Bundle.ownAtoms "FactorDesk" 76 "java/lang/IllegalArgumentException" jNm, jG w ∨ w ∈ jBad "java/lang/IllegalArgumentException" jNm := by unfold jG; decide +kernel
theorem hat_NSE : ∀ w ∈ jOwnX "FactorDesk" 128 "java/util/NoSuchElementException" 13 prog_20_method_4_code "java/lang/RuntimeException" ["java/lang/Exception"], jG w ∨ w ∈ jBad "java/util/NoSuchElementException" jNm := by unfold jG; decide +kernel
theorem hca_IAE : Cond.castable "java/lang/IllegalArgumentException" "java/lang/IllegalArgumentException" ∈ lw_tbl := by decide +kernel
theorem hdc_IAE : ∀ n ∈ jNm ++ [Bundle.tN], Cond.declares (Bundle.initS n) ∈ lw_tbl := by decide +kernel
theorem hca_NSE : Cond.castable "java/util/NoSuchElementException" "java/util/NoSuchElementException" ∈ lw_tbl := by decide +kernel
theorem hdc_NSE : ∀ n ∈ jNm ++ [Bundle.tN], Cond.declares (Bundle.initS n) ∈ lw_tbl := by decide +kernel
theorem dn_0 : decode prog_20_method_4_code 0 = .ok (.aload_n 0, 1) := by decide +kernel
theorem dn_1 : decode prog_20_method_4_code 1 = .ok (.aload_n 1, 1) := by decide +kernel
theorem dn_2 : decode prog_20_method_4_code 2 = .ok (.invokespecial 13, 3) := by decide +kernel
theorem dn_5 : decode prog_20_method_4_code 5 = .ok (.return_, 1) := by decide +kernel
theorem jNm_fit : ∀ n ∈ jNm, Bundle.fit n = true := by decide +kernel
theorem hsr_74 : Cond.stringRef "FactorDesk" 74 "the tape holds no polynomial" ∈ lw_tbl := by decide +kernel
theorem hsx_74 : Cond.exactly (.string "FactorDesk" 74) "java/lang/String" ∈ flatC (Jvm.Cond.and given_1 narrow_1) := by decide +kernel
theorem hsr_99 : Cond.stringRef "FactorDesk" 99 "there is no such coefficient" ∈ lw_tbl := by decide +kernel
theorem hsx_99 : Cond.exactly (.string "FactorDesk" 99) "java/lang/String" ∈ flatC (Jvm.Cond.and given_1 narrow_1) := by decide +kernel
theorem hsr_126 : Cond.stringRef "FactorDesk" 126 "there is no such factor, or nothing of that kind to tell" ∈ lw_tbl := by decide +kernel
theorem hsx_126 : Cond.exactly (.string "FactorDesk" 126) "java/lang/String" ∈ flatC (Jvm.Cond.and given_1 narrow_1) := by decide +kernel
theorem hsr_136 : Cond.stringRef "FactorDesk" 136 "there is no such factor or coefficient" ∈ lw_tbl := by decide +kernel
theorem hsx_136 : Cond.exactly (.string "FactorDesk" 136) "java/lang/String" ∈ flatC (Jvm.Cond.and given_1 narrow_1) := by decide +kernel
theorem hsr_141 : Cond.stringRef "FactorDesk" 141 "no factor has such a degree" ∈ lw_tbl := by decide +kernel
theorem hsx_141 : Cond.exactly (.string "FactorDesk" 141) "java/lang/String" ∈ flatC (Jvm.Cond.and given_1 narrow_1) := by decide +kernel
theorem hsr_156 : Cond.stringRef "FactorDesk" 156 "the divisor has no such coefficient" ∈ lw_tbl := by decide +kernel
theorem hsx_156 : Cond.exactly (.string "FactorDesk" 156) "java/lang/String" ∈ flatC (Jvm.Cond.and given_1 narrow_1) := by decide +kernel
theorem hsr_167 : Cond.stringRef "FactorDesk" 167 "the modulus is below 1" ∈ lw_tbl := by decide +kernel
theorem hsx_167 : Cond.exactly (.string "FactorDesk" 167) "java/lang/String" ∈ flatC (Jvm.Cond.and given_1 narrow_1) := by decide +kernel
set_option maxHeartbeats 4000000 in
set_option maxRecDepth 100000 in
theorem k_put (l : Launch) {b : Nat} {D : va_G} {Y : Nat → ClassId} {s0 : State} (Z : jS0 b D Y s0) (d n : Nat) (h : jH) (HD : jDesk Y h d) (x0 : Int32) : jMet l D s0 y_Desk_put c_Desk_put 2 (some .int) 6 [.ref d, .int x0] h n 0 0 (fun r h2 n2 => r = some (.int 1) ∧ n = n2 ∧ ∀ x, (x < d ∨ d + 208 ≤ x) → h2 x = h x) := by
  refine jMet_of Z (by decide) (Nat.le_of_ble_eq_true rfl) ?_
  intro p e s m below meth c
  obtain ⟨D0, D1, D2, D3, D8, D9, D10, D37, D38, D202, D203⟩ := HD
  refine j_aload_n d_Desk_put_0 0 rfl ?_
  refine j_get iw_Desk (ci := 8) (kf := 1) rfl (by decide) g_305 d_Desk_put_1 D0 rfl ?_
  refine j_bipush d_Desk_put_4 (v := 13) (by decide) ?_
  refine j_icmp_lt_t (tgt := 19) d_Desk_put_6 (by decide) (by decide) ?_
  refine j_aload_n d_Desk_put_19 0 rfl ?_
  refine j_get iw_Desk (ci := 8) (kf := 0) rfl (by decide) g_304 d_Desk_put_20 D0 rfl ?_
  refine j_aload_n d_Desk_put_23 0 rfl ?_
  refine j_get iw_Desk (ci := 8) (kf := 1) rfl (by decide) g_305 d_Desk_put_24 D0 rfl ?_
  refine j_iload_n d_Desk_put_27 1 rfl ?_
  refine j_iast d_Desk_put_28 D1 (by unfold vp_in; decide) ?_
  refine j_aload_n d_Desk_put_29 0 rfl ?_
  refine j_dup d_Desk_put_30 rfl ?_
  refine j_get iw_Desk (ci := 8) (kf := 1) rfl (by decide) g_305 d_Desk_put_31 ((jh_up_n _ _ (by omega)).trans D0) rfl ?_
  refine j_iconst d_Desk_put_34 (v := 1) (by decide) ?_
  refine j_iadd d_Desk_put_35 ?_
  refine j_put iw_Desk t_Desk t_Desk_ok n_Desk (ci := 8) (kf := 1) rfl (by decide) g_305 rfl (t_Desk_ok 1 (by decide)) rfl rfl d_Desk_put_36 ((jh_up_n _ _ (by omega)).trans D0) (Nat.le_of_ble_eq_true rfl) ?_
  refine j_aload_n d_Desk_put_39 0 rfl ?_
  refine j_get iw_Desk (ci := 8) (kf := 1) rfl (by decide) g_305 d_Desk_put_40 (jh_up_s _ _ _) rfl ?_
  refine j_iret rfl d_Desk_put_43 ⟨rfl, rfl, fun x hx => ?_⟩
  exact ((jh_up_n _ _ (by omega)).trans (jh_up_n _ _ (by omega)))
set_option maxHeartbeats 4000000 in
set_option maxRecDepth 100000 in
theorem k_clear (l : Launch) {b : Nat} {D : va_G} {Y : Nat → ClassId} {s0 : State} (Z : jS0 b D Y s0) (d n : Nat) (h : jH) (HD : jDesk Y h d) : jMet l D s0 y_Desk_clear c_Desk_clear 2 (some .int) 6 [.ref d] h n 0 0 (fun r h2 n2 => r = some (.int 0) ∧ n = n2 ∧ ∀ x, (x < d ∨ d + 208 ≤ x) → h2 x = h x) := by
  refine jMet_of Z (by decide) (Nat.le_of_ble_eq_true rfl) ?_
  intro p e s m below meth c
  obtain ⟨D0, D1, D2, D3, D8, D9, D10, D37, D38, D202, D203⟩ := HD
  refine j_aload_n d_Desk_clear_0 0 rfl ?_
  refine j_get iw_Desk (ci := 8) (kf := 1) rfl (by decide) g_305 d_Desk_clear_1 D0 rfl ?_
  refine j_istore_n d_Desk_clear_4 (Nat.le_of_ble_eq_true rfl) rfl ?_
  refine j_aload_n d_Desk_clear_5 1 rfl ?_
  refine j_iconst d_Desk_clear_6 (v := 0) (by decide) ?_
  refine j_put iw_Desk t_Desk t_Desk_ok n_Desk (ci := 8) (kf := 1) rfl (by decide) g_305 rfl (t_Desk_ok 1 (by decide)) rfl rfl d_Desk_clear_7 D0 (Nat.le_of_ble_eq_true rfl) ?_
  refine j_iload_n d_Desk_clear_10 0 rfl ?_
  refine j_iret rfl d_Desk_clear_11 ⟨rfl, rfl, fun x hx => ?_⟩
  exact (jh_up_n _ _ (by omega))
set_option maxHeartbeats 4000000 in
set_option maxRecDepth 100000 in
theorem k_tapeTop (l : Launch) {b : Nat} {D : va_G} {Y : Nat → ClassId} {s0 : State} (Z : jS0 b D Y s0) (d n : Nat) (h : jH) (HD : jDesk Y h d) : jMet l D s0 y_Desk_tapeTop c_Desk_tapeTop 2 (some .int) 1 [.ref d] h n 0 0 (fun r h2 n2 => r = some (.int (-1)) ∧ h = h2 ∧ n = n2) := by
  refine jMet_of Z (by decide) (Nat.le_of_ble_eq_true rfl) ?_
  intro p e s m below meth c
  obtain ⟨D0, D1, D2, D3, D8, D9, D10, D37, D38, D202, D203⟩ := HD
  refine j_aload_n d_Desk_tapeTop_0 0 rfl ?_
  refine j_get iw_Desk (ci := 8) (kf := 1) rfl (by decide) g_305 d_Desk_tapeTop_1 D0 rfl ?_
  refine j_iconst d_Desk_tapeTop_4 (v := 1) (by decide) ?_
  refine j_isub d_Desk_tapeTop_5 ?_
  refine j_istore_n d_Desk_tapeTop_6 (Nat.le_of_ble_eq_true rfl) rfl ?_
  refine j_iload_n d_Desk_tapeTop_7 0 rfl ?_
  refine j_if_lt_t (tgt := 26) d_Desk_tapeTop_8 (by decide) (by decide) ?_
  refine j_iload_n d_Desk_tapeTop_26 0 rfl ?_
  exact j_iret rfl d_Desk_tapeTop_27 ⟨rfl, rfl, rfl⟩
set_option maxHeartbeats 4000000 in
set_option maxRecDepth 100000 in
theorem x_take (l : Launch) {b : Nat} {D : va_G} {Y : Nat → ClassId} {s0 : State} (Z : jS0 b D Y s0) (hlt : l.stackTraces = false) (d n : Nat) (h : jH) (HD : jDesk Y h d) : jMetX l D s0 y_Desk_take c_Desk_take 2 (some .int) 6 [.ref d] h n 1 6 "java/lang/IllegalArgumentException" (fun h2 n2 => h2 = h ∧ n2 = n + 1) := by
  refine jMetX_of Z (by decide) (Nat.le_of_ble_eq_true rfl) ?_
  intro p e s m below meth c hnl
  obtain ⟨D0, D1, D2, D3, D8, D9, D10, D37, D38, D202, D203⟩ := HD
  refine j_aload_n d_Desk_take_0 0 rfl ?_
  refine j_callV (k_tapeTop l Z d _ _ ⟨D0, D1, D2, D3, D8, D9, D10, D37, D38, D202, D203⟩) ⟨⟨Nat.le_of_ble_eq_true rfl, Nat.le_of_ble_eq_true rfl⟩, g_717, g_720, g_1, by decide +kernel⟩ g_719 gp_20 (ci := 8) rfl D0 ⟨(by first | exact Nat.le_of_ble_eq_true rfl | (simp only [jrm]; omega)), (by first | exact Nat.le_of_ble_eq_true rfl | (simp only [jrm]; omega))⟩ (Nat.le_of_ble_eq_true rfl) d_Desk_take_1 (fun r0 h0 n0 P0 => ?_)
  obtain ⟨rfl, rfl, rfl⟩ := P0
  refine j_istore_n d_Desk_take_4 (Nat.le_of_ble_eq_true rfl) rfl ?_
  refine j_iload_n d_Desk_take_5 0 rfl ?_
  refine j_if_ge_f (tgt := 19) d_Desk_take_6 (by decide) (by decide) ?_
  exact j_throwS hlt hnl hat_IAE hca_IAE hdc_IAE (by decide +kernel) jNm_fit g_721 g_722 g_15 hsr_74 hsx_74 d_Desk_take_9 d_Desk_take_12 d_Desk_take_13 d_Desk_take_15 d_Desk_take_18 (Nat.le_of_ble_eq_true rfl) (Nat.le_of_ble_eq_true rfl) (Nat.le_of_ble_eq_true rfl) (Nat.le_of_ble_eq_true rfl) ⟨rfl, rfl⟩
set_option maxHeartbeats 4000000 in
set_option maxRecDepth 100000 in
theorem x_times (l : Launch) {b : Nat} {D : va_G} {Y : Nat → ClassId} {s0 : State} (Z : jS0 b D Y s0) (hlt : l.stackTraces = false) (d n : Nat) (h : jH) (HD : jDesk Y h d) : jMetX l D s0 y_Desk_times c_Desk_times 2 (some .int) 6 [.ref d] h n 1 6 "java/lang/IllegalArgumentException" (fun h2 n2 => h2 = h ∧ n2 = n + 1) := by
  refine jMetX_of Z (by decide) (Nat.le_of_ble_eq_true rfl) ?_
  intro p e s m below meth c hnl
  obtain ⟨D0, D1, D2, D3, D8, D9, D10, D37, D38, D202, D203⟩ := HD
  refine j_aload_n d_Desk_times_0 0 rfl ?_
  refine j_callV (k_tapeTop l Z d _ _ ⟨D0, D1, D2, D3, D8, D9, D10, D37, D38, D202, D203⟩) ⟨⟨Nat.le_of_ble_eq_true rfl, Nat.le_of_ble_eq_true rfl⟩, g_717, g_720, g_1, by decide +kernel⟩ g_719 gp_20 (ci := 8) rfl D0 ⟨(by first | exact Nat.le_of_ble_eq_true rfl | (simp only [jrm]; omega)), (by first | exact Nat.le_of_ble_eq_true rfl | (simp only [jrm]; omega))⟩ (Nat.le_of_ble_eq_true rfl) d_Desk_times_1 (fun r0 h0 n0 P0 => ?_)
  obtain ⟨rfl, rfl, rfl⟩ := P0
  refine j_istore_n d_Desk_times_4 (Nat.le_of_ble_eq_true rfl) rfl ?_
  refine j_iload_n d_Desk_times_5 0 rfl ?_
  refine j_if_ge_f (tgt := 19) d_Desk_times_6 (by decide) (by decide) ?_
  exact j_throwS hlt hnl hat_IAE hca_IAE hdc_IAE (by decide +kernel) jNm_fit g_721 g_722 g_15 hsr_74 hsx_74 d_Desk_times_9 d_Desk_times_12 d_Desk_times_13 d_Desk_times_15 d_Desk_times_18 (Nat.le_of_ble_eq_true rfl) (Nat.le_of_ble_eq_true rfl) (Nat.le_of_ble_eq_true rfl) (Nat.le_of_ble_eq_true rfl) ⟨rfl, rfl⟩
set_option maxHeartbeats 4000000 in
set_option maxRecDepth 100000 in
theorem x_common (l : Launch) {b : Nat} {D : va_G} {Y : Nat → ClassId} {s0 : State} (Z : jS0 b D Y s0) (hlt : l.stackTraces = false) (d n : Nat) (h : jH) (HD : jDesk Y h d) : jMetX l D s0 y_Desk_common c_Desk_common 2 (some .int) 6 [.ref d] h n 1 6 "java/lang/IllegalArgumentException" (fun h2 n2 => h2 = h ∧ n2 = n + 1) := by
  refine jMetX_of Z (by decide) (Nat.le_of_ble_eq_true rfl) ?_
  intro p e s m below meth c hnl
  obtain ⟨D0, D1, D2, D3, D8, D9, D10, D37, D38, D202, D203⟩ := HD
  refine j_aload_n d_Desk_common_0 0 rfl ?_
  refine j_callV (k_tapeTop l Z d _ _ ⟨D0, D1, D2, D3, D8, D9, D10, D37, D38, D202, D203⟩) ⟨⟨Nat.le_of_ble_eq_true rfl, Nat.le_of_ble_eq_true rfl⟩, g_717, g_720, g_1, by decide +kernel⟩ g_719 gp_20 (ci := 8) rfl D0 ⟨(by first | exact Nat.le_of_ble_eq_true rfl | (simp only [jrm]; omega)), (by first | exact Nat.le_of_ble_eq_true rfl | (simp only [jrm]; omega))⟩ (Nat.le_of_ble_eq_true rfl) d_Desk_common_1 (fun r0 h0 n0 P0 => ?_)
  obtain ⟨rfl, rfl, rfl⟩ := P0
  refine j_istore_n d_Desk_common_4 (Nat.le_of_ble_eq_true rfl) rfl ?_
  refine j_iload_n d_Desk_common_5 0 rfl ?_
  refine j_if_ge_f (tgt := 19) d_Desk_common_6 (by decide) (by decide) ?_
  exact j_throwS hlt hnl hat_IAE hca_IAE hdc_IAE (by decide +kernel) jNm_fit g_721 g_722 g_15 hsr_74 hsx_74 d_Desk_common_9 d_Desk_common_12 d_Desk_common_13 d_Desk_common_15 d_Desk_common_18 (Nat.le_of_ble_eq_true rfl) (Nat.le_of_ble_eq_true rfl) (Nat.le_of_ble_eq_true rfl) (Nat.le_of_ble_eq_true rfl) ⟨rfl, rfl⟩
set_option maxHeartbeats 4000000 in
set_option maxRecDepth 100000 in
theorem x_divides (l : Launch) {b : Nat} {D : va_G} {Y : Nat → ClassId} {s0 : State} (Z : jS0 b D Y s0) (hlt : l.stackTraces = false) (d n : Nat) (h : jH) (HD : jDesk Y h d) : jMetX l D s0 y_Desk_divides c_Desk_divides 2 (some .boolean) 6 [.ref d] h n 1 6 "java/lang/IllegalArgumentException" (fun h2 n2 => h2 = h ∧ n2 = n + 1) := by
  refine jMetX_of Z (by decide) (Nat.le_of_ble_eq_true rfl) ?_
  intro p e s m below meth c hnl
  obtain ⟨D0, D1, D2, D3, D8, D9, D10, D37, D38, D202, D203⟩ := HD
  refine j_aload_n d_Desk_divides_0 0 rfl ?_
  refine j_callV (k_tapeTop l Z d _ _ ⟨D0, D1, D2, D3, D8, D9, D10, D37, D38, D202, D203⟩) ⟨⟨Nat.le_of_ble_eq_true rfl, Nat.le_of_ble_eq_true rfl⟩, g_717, g_720, g_1, by decide +kernel⟩ g_719 gp_20 (ci := 8) rfl D0 ⟨(by first | exact Nat.le_of_ble_eq_true rfl | (simp only [jrm]; omega)), (by first | exact Nat.le_of_ble_eq_true rfl | (simp only [jrm]; omega))⟩ (Nat.le_of_ble_eq_true rfl) d_Desk_divides_1 (fun r0 h0 n0 P0 => ?_)
  obtain ⟨rfl, rfl, rfl⟩ := P0
  refine j_istore_n d_Desk_divides_4 (Nat.le_of_ble_eq_true rfl) rfl ?_
  refine j_iload_n d_Desk_divides_5 0 rfl ?_
  refine j_if_ge_f (tgt := 19) d_Desk_divides_6 (by decide) (by decide) ?_
  exact j_throwS hlt hnl hat_IAE hca_IAE hdc_IAE (by decide +kernel) jNm_fit g_721 g_722 g_15 hsr_74 hsx_74 d_Desk_divides_9 d_Desk_divides_12 d_Desk_divides_13 d_Desk_divides_15 d_Desk_divides_18 (Nat.le_of_ble_eq_true rfl) (Nat.le_of_ble_eq_true rfl) (Nat.le_of_ble_eq_true rfl) (Nat.le_of_ble_eq_true rfl) ⟨rfl, rfl⟩
set_option maxHeartbeats 4000000 in
set_option maxRecDepth 100000 in
theorem k_degree (l : Launch) {b : Nat} {D : va_G} {Y : Nat → ClassId} {s0 : State} (Z : jS0 b D Y s0) (d n : Nat) (h : jH) (HD : jDesk Y h d) : jMet l D s0 y_Desk_degree c_Desk_degree 1 (some .int) 6 [.ref d] h n 0 0 (fun r h2 n2 => r = some (.int 0) ∧ n = n2 ∧ ∀ x, (x < d ∨ d + 208 ≤ x) → h2 x = h x) := by
  refine jMet_of Z (by decide) (Nat.le_of_ble_eq_true rfl) ?_
  intro p e s m below meth c
  obtain ⟨D0, D1, D2, D3, D8, D9, D10, D37, D38, D202, D203⟩ := HD
  refine j_aload_n d_Desk_degree_0 0 rfl ?_
  refine j_get iw_Desk (ci := 8) (kf := 2) rfl (by decide) g_306 d_Desk_degree_1 D0 rfl ?_
  refine j_get iw_Poly (ci := 0) (kf := 1) rfl (by decide) g_48 d_Desk_degree_4 D2 rfl ?_
  exact j_iret rfl d_Desk_degree_7 ⟨rfl, rfl, fun x hx => rfl⟩
set_option maxHeartbeats 4000000 in
set_option maxRecDepth 100000 in
theorem k_content (l : Launch) {b : Nat} {D : va_G} {Y : Nat → ClassId} {s0 : State} (Z : jS0 b D Y s0) (d n : Nat) (h : jH) (HD : jDesk Y h d) : jMet l D s0 y_Desk_content c_Desk_content 3 (some .long) 3 [.ref d] h n 0 0 (fun r h2 n2 => r = some (.long 1) ∧ h = h2 ∧ n = n2) := by
  refine jMet_of Z (by decide) (Nat.le_of_ble_eq_true rfl) ?_
  intro p e s m below meth c
  obtain ⟨D0, D1, D2, D3, D8, D9, D10, D37, D38, D202, D203⟩ := HD
  refine j_aload_n d_Desk_content_0 0 rfl ?_
  refine j_get iw_Desk (ci := 8) (kf := 2) rfl (by decide) g_306 d_Desk_content_1 D0 rfl ?_
  refine j_callV (k_greatestNumber l Z (d + 2) (d + 3) _ _ D2 D3) ⟨⟨Nat.le_of_ble_eq_true rfl, Nat.le_of_ble_eq_true rfl⟩, g_347, g_350, g_2, by decide +kernel⟩ g_348 g_349 (ci := 0) rfl D2 ⟨(by first | exact Nat.le_of_ble_eq_true rfl | (simp only [jrm]; omega)), (by first | exact Nat.le_of_ble_eq_true rfl | (simp only [jrm]; omega))⟩ (Nat.le_of_ble_eq_true rfl) d_Desk_content_4 (fun r0 h0 n0 P0 => ?_)
  obtain ⟨rfl, rfl, rfl⟩ := P0
  refine j_lstore_n d_Desk_content_7 (Nat.le_of_ble_eq_true rfl) rfl ?_
  refine j_aload_n d_Desk_content_8 1 rfl ?_
  refine j_get iw_Desk (ci := 8) (kf := 2) rfl (by decide) g_306 d_Desk_content_9 D0 rfl ?_
  refine j_callV (k_leading l Z (d + 2) (d + 3) _ _ D2 D3) ⟨⟨Nat.le_of_ble_eq_true rfl, Nat.le_of_ble_eq_true rfl⟩, g_354, g_357, g_2, by decide +kernel⟩ g_355 g_356 (ci := 0) rfl D2 ⟨(by first | exact Nat.le_of_ble_eq_true rfl | (simp only [jrm]; omega)), (by first | exact Nat.le_of_ble_eq_true rfl | (simp only [jrm]; omega))⟩ (Nat.le_of_ble_eq_true rfl) d_Desk_content_12 (fun r1 h1 n1 P1 => ?_)
  obtain ⟨rfl, rfl, rfl⟩ := P1
  refine j_lconst d_Desk_content_15 (v := 0) (by decide) ?_
  refine j_lcmp d_Desk_content_16 ?_
  refine j_if_ge_t (tgt := 25) d_Desk_content_17 (by decide) (by decide) ?_
  refine j_lload_n d_Desk_content_25 0 rfl ?_
  exact j_lret rfl d_Desk_content_26 ⟨rfl, rfl, rfl⟩
set_option maxHeartbeats 4000000 in
set_option maxRecDepth 100000 in
theorem k_at (l : Launch) {b : Nat} {D : va_G} {Y : Nat → ClassId} {s0 : State} (Z : jS0 b D Y s0) (d n : Nat) (h : jH) (HD : jDesk Y h d) (x0 : Int32) (h1 : ¬ x0 < 0) (h2 : x0 ≤ 12) : jMet l D s0 y_Desk_at c_Desk_at 2 (some .int) 6 [.ref d, .int x0] h n 0 0 (fun r h2 n2 => r = some (.int (jOne x0.toNatClampNeg).toInt32) ∧ n = n2 ∧ ∀ x, (x < d ∨ d + 208 ≤ x) → h2 x = h x) := by
  refine jMet_of Z (by decide) (Nat.le_of_ble_eq_true rfl) ?_
  intro p e s m below meth c
  obtain ⟨D0, D1, D2, D3, D8, D9, D10, D37, D38, D202, D203⟩ := HD
  refine j_iload_n d_Desk_at_0 1 rfl ?_
  refine j_if_lt_f (tgt := 10) d_Desk_at_1 (by decide) h1 ?_
  refine j_iload_n d_Desk_at_4 1 rfl ?_
  refine j_bipush d_Desk_at_5 (v := 12) (by decide) ?_
  refine j_icmp_le_t (tgt := 20) d_Desk_at_7 (by decide) h2 ?_
  refine j_aload_n d_Desk_at_20 0 rfl ?_
  refine j_get iw_Desk (ci := 8) (kf := 2) rfl (by decide) g_306 d_Desk_at_21 D0 rfl ?_
  refine j_get iw_Poly (ci := 0) (kf := 0) rfl (by decide) g_39 d_Desk_at_24 D2 rfl ?_
  refine j_iload_n d_Desk_at_27 1 rfl ?_
  refine j_lald d_Desk_at_28 D3 (by
    obtain ⟨j, hj, rfl⟩ := nI_of2 (M := 12) (n := 12) rfl h1 h2
    exact nI_in (by omega) (by decide)) ?_
  refine j_l2i d_Desk_at_29 rfl ?_
  exact j_iret rfl d_Desk_at_30 ⟨rfl, rfl, fun x hx => rfl⟩
set_option maxHeartbeats 4000000 in
set_option maxRecDepth 100000 in
theorem x_at (l : Launch) {b : Nat} {D : va_G} {Y : Nat → ClassId} {s0 : State} (Z : jS0 b D Y s0) (hlt : l.stackTraces = false) (d n : Nat) (h : jH) (HD : jDesk Y h d) (x0 : Int32) (h1 : x0 < 0 ∨ ¬ x0 ≤ 12) : jMetX l D s0 y_Desk_at c_Desk_at 2 (some .int) 6 [.ref d, .int x0] h n 1 6 "java/lang/IllegalArgumentException" (fun h2 n2 => h2 = h ∧ n2 = n + 1) := by
  refine jMetX_of Z (by decide) (Nat.le_of_ble_eq_true rfl) ?_
  intro p e s m below meth c hnl
  obtain ⟨D0, D1, D2, D3, D8, D9, D10, D37, D38, D202, D203⟩ := HD
  by_cases h0 : x0 < 0
  · refine j_iload_n d_Desk_at_0 1 rfl ?_
    refine j_if_lt_t (tgt := 10) d_Desk_at_1 (by decide) h0 ?_
    exact j_throwS hlt hnl hat_IAE hca_IAE hdc_IAE (by decide +kernel) jNm_fit g_721 g_722 g_15 hsr_99 hsx_99 d_Desk_at_10 d_Desk_at_13 d_Desk_at_14 d_Desk_at_16 d_Desk_at_19 (Nat.le_of_ble_eq_true rfl) (Nat.le_of_ble_eq_true rfl) (Nat.le_of_ble_eq_true rfl) (Nat.le_of_ble_eq_true rfl) ⟨rfl, rfl⟩
  · refine j_iload_n d_Desk_at_0 1 rfl ?_
    refine j_if_lt_f (tgt := 10) d_Desk_at_1 (by decide) h0 ?_
    refine j_iload_n d_Desk_at_4 1 rfl ?_
    refine j_bipush d_Desk_at_5 (v := 12) (by decide) ?_
    refine j_icmp_le_f (tgt := 20) d_Desk_at_7 (by decide) (h1.resolve_left h0) ?_
    exact j_throwS hlt hnl hat_IAE hca_IAE hdc_IAE (by decide +kernel) jNm_fit g_721 g_722 g_15 hsr_99 hsx_99 d_Desk_at_10 d_Desk_at_13 d_Desk_at_14 d_Desk_at_16 d_Desk_at_19 (Nat.le_of_ble_eq_true rfl) (Nat.le_of_ble_eq_true rfl) (Nat.le_of_ble_eq_true rfl) (Nat.le_of_ble_eq_true rfl) ⟨rfl, rfl⟩
set_option maxHeartbeats 4000000 in
set_option maxRecDepth 100000 in
theorem x_factor (l : Launch) {b : Nat} {D : va_G} {Y : Nat → ClassId} {s0 : State} (Z : jS0 b D Y s0) (hlt : l.stackTraces = false) (d n : Nat) (h : jH) (HD : jDesk Y h d) (x0 x1 : Int32) : jMetX l D s0 y_Desk_factor c_Desk_factor 3 (some .int) 6 [.ref d, .int x0, .int x1] h n 1 6 "java/util/NoSuchElementException" (fun h2 n2 => h2 = h ∧ n2 = n + 1) := by
  refine jMetX_of Z (by decide) (Nat.le_of_ble_eq_true rfl) ?_
  intro p e s m below meth c hnl
  obtain ⟨D0, D1, D2, D3, D8, D9, D10, D37, D38, D202, D203⟩ := HD
  by_cases h0 : x0 < 0
  · refine j_iload_n d_Desk_factor_0 1 rfl ?_
    refine j_if_lt_t (tgt := 24) d_Desk_factor_1 (by decide) h0 ?_
    exact j_throwX dn_0 dn_1 dn_2 dn_5 hlt hnl hat_NSE hca_NSE hdc_NSE (by decide +kernel) jNm_fit g_779 g_780 g_18 hsr_126 hsx_126 d_Desk_factor_24 d_Desk_factor_27 d_Desk_factor_28 d_Desk_factor_30 d_Desk_factor_33 (Nat.le_of_ble_eq_true rfl) (Nat.le_of_ble_eq_true rfl) (Nat.le_of_ble_eq_true rfl) (Nat.le_of_ble_eq_true rfl) ⟨rfl, rfl⟩
  · refine j_iload_n d_Desk_factor_0 1 rfl ?_
    refine j_if_lt_f (tgt := 24) d_Desk_factor_1 (by decide) h0 ?_
    refine j_iload_n d_Desk_factor_4 1 rfl ?_
    refine j_aload_n d_Desk_factor_5 0 rfl ?_
    refine j_get iw_Desk (ci := 8) (kf := 6) rfl (by decide) g_310 d_Desk_factor_6 D0 rfl ?_
    refine j_get iw_FList (ci := 1) (kf := 2) rfl (by decide) g_78 d_Desk_factor_9 D10 rfl ?_
    refine j_icmp_ge_t (tgt := 24) d_Desk_factor_12 (by decide) (Int32.not_lt.mp h0) ?_
    exact j_throwX dn_0 dn_1 dn_2 dn_5 hlt hnl hat_NSE hca_NSE hdc_NSE (by decide +kernel) jNm_fit g_779 g_780 g_18 hsr_126 hsx_126 d_Desk_factor_24 d_Desk_factor_27 d_Desk_factor_28 d_Desk_factor_30 d_Desk_factor_33 (Nat.le_of_ble_eq_true rfl) (Nat.le_of_ble_eq_true rfl) (Nat.le_of_ble_eq_true rfl) (Nat.le_of_ble_eq_true rfl) ⟨rfl, rfl⟩
set_option maxHeartbeats 4000000 in
set_option maxRecDepth 100000 in
theorem x_part (l : Launch) {b : Nat} {D : va_G} {Y : Nat → ClassId} {s0 : State} (Z : jS0 b D Y s0) (hlt : l.stackTraces = false) (d n : Nat) (h : jH) (HD : jDesk Y h d) (x0 x1 : Int32) : jMetX l D s0 y_Desk_part c_Desk_part 3 (some .long) 6 [.ref d, .int x0, .int x1] h n 1 6 "java/util/NoSuchElementException" (fun h2 n2 => h2 = h ∧ n2 = n + 1) := by
  refine jMetX_of Z (by decide) (Nat.le_of_ble_eq_true rfl) ?_
  intro p e s m below meth c hnl
  obtain ⟨D0, D1, D2, D3, D8, D9, D10, D37, D38, D202, D203⟩ := HD
  by_cases h0 : x0 < 0
  · refine j_iload_n d_Desk_part_0 1 rfl ?_
    refine j_if_lt_t (tgt := 35) d_Desk_part_1 (by decide) h0 ?_
    exact j_throwX dn_0 dn_1 dn_2 dn_5 hlt hnl hat_NSE hca_NSE hdc_NSE (by decide +kernel) jNm_fit g_779 g_780 g_18 hsr_136 hsx_136 d_Desk_part_35 d_Desk_part_38 d_Desk_part_39 d_Desk_part_41 d_Desk_part_44 (Nat.le_of_ble_eq_true rfl) (Nat.le_of_ble_eq_true rfl) (Nat.le_of_ble_eq_true rfl) (Nat.le_of_ble_eq_true rfl) ⟨rfl, rfl⟩
  · refine j_iload_n d_Desk_part_0 1 rfl ?_
    refine j_if_lt_f (tgt := 35) d_Desk_part_1 (by decide) h0 ?_
    refine j_iload_n d_Desk_part_4 1 rfl ?_
    refine j_aload_n d_Desk_part_5 0 rfl ?_
    refine j_get iw_Desk (ci := 8) (kf := 6) rfl (by decide) g_310 d_Desk_part_6 D0 rfl ?_
    refine j_get iw_FList (ci := 1) (kf := 2) rfl (by decide) g_78 d_Desk_part_9 D10 rfl ?_
    refine j_icmp_ge_t (tgt := 35) d_Desk_part_12 (by decide) (Int32.not_lt.mp h0) ?_
    exact j_throwX dn_0 dn_1 dn_2 dn_5 hlt hnl hat_NSE hca_NSE hdc_NSE (by decide +kernel) jNm_fit g_779 g_780 g_18 hsr_136 hsx_136 d_Desk_part_35 d_Desk_part_38 d_Desk_part_39 d_Desk_part_41 d_Desk_part_44 (Nat.le_of_ble_eq_true rfl) (Nat.le_of_ble_eq_true rfl) (Nat.le_of_ble_eq_true rfl) (Nat.le_of_ble_eq_true rfl) ⟨rfl, rfl⟩
set_option maxHeartbeats 4000000 in
set_option maxRecDepth 100000 in
theorem k_divisor (l : Launch) {b : Nat} {D : va_G} {Y : Nat → ClassId} {s0 : State} (Z : jS0 b D Y s0) (d n : Nat) (h : jH) (HD : jDesk Y h d) : jMet l D s0 y_Desk_divisor c_Desk_divisor 2 (some .long) 6 [.ref d, .int 0] h n 0 0 (fun r h2 n2 => r = some (.long 1) ∧ n = n2 ∧ ∀ x, (x < d ∨ d + 208 ≤ x) → h2 x = h x) := by
  refine jMet_of Z (by decide) (Nat.le_of_ble_eq_true rfl) ?_
  intro p e s m below meth c
  obtain ⟨D0, D1, D2, D3, D8, D9, D10, D37, D38, D202, D203⟩ := HD
  refine j_iload_n d_Desk_divisor_0 1 rfl ?_
  refine j_if_lt_f (tgt := 15) d_Desk_divisor_1 (by decide) (by decide) ?_
  refine j_iload_n d_Desk_divisor_4 1 rfl ?_
  refine j_aload_n d_Desk_divisor_5 0 rfl ?_
  refine j_get iw_Desk (ci := 8) (kf := 5) rfl (by decide) g_309 d_Desk_divisor_6 D0 rfl ?_
  refine j_get iw_Poly (ci := 0) (kf := 1) rfl (by decide) g_48 d_Desk_divisor_9 D8 rfl ?_
  refine j_icmp_le_t (tgt := 25) d_Desk_divisor_12 (by decide) (by decide) ?_
  refine j_aload_n d_Desk_divisor_25 0 rfl ?_
  refine j_get iw_Desk (ci := 8) (kf := 5) rfl (by decide) g_309 d_Desk_divisor_26 D0 rfl ?_
  refine j_get iw_Poly (ci := 0) (kf := 0) rfl (by decide) g_39 d_Desk_divisor_29 D8 rfl ?_
  refine j_iload_n d_Desk_divisor_32 1 rfl ?_
  refine j_lald d_Desk_divisor_33 D9 (by unfold vp_in; decide) ?_
  exact j_lret rfl d_Desk_divisor_34 ⟨rfl, rfl, fun x hx => rfl⟩
set_option maxHeartbeats 4000000 in
set_option maxRecDepth 100000 in
theorem x_divisor (l : Launch) {b : Nat} {D : va_G} {Y : Nat → ClassId} {s0 : State} (Z : jS0 b D Y s0) (hlt : l.stackTraces = false) (d n : Nat) (h : jH) (HD : jDesk Y h d) (x0 : Int32) (h1 : ¬ x0 = 0) : jMetX l D s0 y_Desk_divisor c_Desk_divisor 2 (some .long) 6 [.ref d, .int x0] h n 1 6 "java/util/NoSuchElementException" (fun h2 n2 => h2 = h ∧ n2 = n + 1) := by
  refine jMetX_of Z (by decide) (Nat.le_of_ble_eq_true rfl) ?_
  intro p e s m below meth c hnl
  obtain ⟨D0, D1, D2, D3, D8, D9, D10, D37, D38, D202, D203⟩ := HD
  by_cases h0 : x0 < 0
  · refine j_iload_n d_Desk_divisor_0 1 rfl ?_
    refine j_if_lt_t (tgt := 15) d_Desk_divisor_1 (by decide) h0 ?_
    exact j_throwX dn_0 dn_1 dn_2 dn_5 hlt hnl hat_NSE hca_NSE hdc_NSE (by decide +kernel) jNm_fit g_779 g_780 g_18 hsr_156 hsx_156 d_Desk_divisor_15 d_Desk_divisor_18 d_Desk_divisor_19 d_Desk_divisor_21 d_Desk_divisor_24 (Nat.le_of_ble_eq_true rfl) (Nat.le_of_ble_eq_true rfl) (Nat.le_of_ble_eq_true rfl) (Nat.le_of_ble_eq_true rfl) ⟨rfl, rfl⟩
  · refine j_iload_n d_Desk_divisor_0 1 rfl ?_
    refine j_if_lt_f (tgt := 15) d_Desk_divisor_1 (by decide) h0 ?_
    refine j_iload_n d_Desk_divisor_4 1 rfl ?_
    refine j_aload_n d_Desk_divisor_5 0 rfl ?_
    refine j_get iw_Desk (ci := 8) (kf := 5) rfl (by decide) g_309 d_Desk_divisor_6 D0 rfl ?_
    refine j_get iw_Poly (ci := 0) (kf := 1) rfl (by decide) g_48 d_Desk_divisor_9 D8 rfl ?_
    refine j_icmp_le_f (tgt := 25) d_Desk_divisor_12 (by decide) (fun h2 => h1 (Int32.le_antisymm h2 (Int32.not_lt.mp h0))) ?_
    exact j_throwX dn_0 dn_1 dn_2 dn_5 hlt hnl hat_NSE hca_NSE hdc_NSE (by decide +kernel) jNm_fit g_779 g_780 g_18 hsr_156 hsx_156 d_Desk_divisor_15 d_Desk_divisor_18 d_Desk_divisor_19 d_Desk_divisor_21 d_Desk_divisor_24 (Nat.le_of_ble_eq_true rfl) (Nat.le_of_ble_eq_true rfl) (Nat.le_of_ble_eq_true rfl) (Nat.le_of_ble_eq_true rfl) ⟨rfl, rfl⟩
end
section
abbrev c_FList_copyFrom : ByteArray := prog_4_method_2_code
abbrev y_FList_copyFrom : MethodName := ⟨"FactorDesk$FactorList", "copyFrom", "(LFactorDesk$FactorList;)V"⟩
theorem d_FList_copyFrom_0 : decode c_FList_copyFrom 0 = .ok (.aload_n 0, 1) := by decide +kernel
theorem d_FList_copyFrom_1 : decode c_FList_copyFrom 1 = .ok (.aload_n 1, 1) := by decide +kernel
theorem d_FList_copyFrom_2 : decode c_FList_copyFrom 2 = .ok (.getfield 22, 3) := by decide +kernel
theorem d_FList_copyFrom_5 : decode c_FList_copyFrom 5 = .ok (.putfield 22, 3) := by decide +kernel
theorem d_FList_copyFrom_8 : decode c_FList_copyFrom 8 = .ok (.iconst 0, 1) := by decide +kernel
theorem d_FList_copyFrom_9 : decode c_FList_copyFrom 9 = .ok (.istore_n 2, 1) := by decide +kernel
theorem d_FList_copyFrom_10 : decode c_FList_copyFrom 10 = .ok (.iload_n 2, 1) := by decide +kernel
theorem d_FList_copyFrom_11 : decode c_FList_copyFrom 11 = .ok (.aload_n 0, 1) := by decide +kernel
theorem d_FList_copyFrom_12 : decode c_FList_copyFrom 12 = .ok (.getfield 22, 3) := by decide +kernel
theorem d_FList_copyFrom_15 : decode c_FList_copyFrom 15 = .ok (.if_icmp .ge 36, 3) := by decide +kernel
theorem d_FList_copyFrom_18 : decode c_FList_copyFrom 18 = .ok (.aload_n 0, 1) := by decide +kernel
theorem d_FList_copyFrom_19 : decode c_FList_copyFrom 19 = .ok (.getfield 11, 3) := by decide +kernel
theorem d_FList_copyFrom_22 : decode c_FList_copyFrom 22 = .ok (.iload_n 2, 1) := by decide +kernel
theorem d_FList_copyFrom_23 : decode c_FList_copyFrom 23 = .ok (.aaload, 1) := by decide +kernel
theorem d_FList_copyFrom_24 : decode c_FList_copyFrom 24 = .ok (.aload_n 1, 1) := by decide +kernel
theorem d_FList_copyFrom_25 : decode c_FList_copyFrom 25 = .ok (.getfield 11, 3) := by decide +kernel
theorem d_FList_copyFrom_28 : decode c_FList_copyFrom 28 = .ok (.iload_n 2, 1) := by decide +kernel
theorem d_FList_copyFrom_29 : decode c_FList_copyFrom 29 = .ok (.aaload, 1) := by decide +kernel
theorem d_FList_copyFrom_30 : decode c_FList_copyFrom 30 = .ok (.invokevirtual 26, 3) := by decide +kernel
theorem d_FList_copyFrom_33 : decode c_FList_copyFrom 33 = .ok (.aload_n 0, 1) := by decide +kernel
theorem d_FList_copyFrom_34 : decode c_FList_copyFrom 34 = .ok (.getfield 18, 3) := by decide +kernel
theorem d_FList_copyFrom_37 : decode c_FList_copyFrom 37 = .ok (.iload_n 2, 1) := by decide +kernel
theorem d_FList_copyFrom_38 : decode c_FList_copyFrom 38 = .ok (.aload_n 1, 1) := by decide +kernel
theorem d_FList_copyFrom_39 : decode c_FList_copyFrom 39 = .ok (.getfield 18, 3) := by decide +kernel
theorem d_FList_copyFrom_42 : decode c_FList_copyFrom 42 = .ok (.iload_n 2, 1) := by decide +kernel
theorem d_FList_copyFrom_43 : decode c_FList_copyFrom 43 = .ok (.iaload, 1) := by decide +kernel
theorem d_FList_copyFrom_44 : decode c_FList_copyFrom 44 = .ok (.iastore, 1) := by decide +kernel
theorem d_FList_copyFrom_45 : decode c_FList_copyFrom 45 = .ok (.iinc 2 1, 3) := by decide +kernel
theorem d_FList_copyFrom_48 : decode c_FList_copyFrom 48 = .ok (.goto (-38), 3) := by decide +kernel
theorem d_FList_copyFrom_51 : decode c_FList_copyFrom 51 = .ok (.return_, 1) := by decide +kernel
abbrev c_FList_countOfDegree : ByteArray := prog_4_method_4_code
abbrev y_FList_countOfDegree : MethodName := ⟨"FactorDesk$FactorList", "countOfDegree", "(I)I"⟩
theorem d_FList_countOfDegree_0 : decode c_FList_countOfDegree 0 = .ok (.iconst 0, 1) := by decide +kernel
theorem d_FList_countOfDegree_1 : decode c_FList_countOfDegree 1 = .ok (.istore_n 2, 1) := by decide +kernel
theorem d_FList_countOfDegree_2 : decode c_FList_countOfDegree 2 = .ok (.iconst 0, 1) := by decide +kernel
theorem d_FList_countOfDegree_3 : decode c_FList_countOfDegree 3 = .ok (.istore_n 3, 1) := by decide +kernel
theorem d_FList_countOfDegree_4 : decode c_FList_countOfDegree 4 = .ok (.iload_n 3, 1) := by decide +kernel
theorem d_FList_countOfDegree_5 : decode c_FList_countOfDegree 5 = .ok (.aload_n 0, 1) := by decide +kernel
theorem d_FList_countOfDegree_6 : decode c_FList_countOfDegree 6 = .ok (.getfield 22, 3) := by decide +kernel
theorem d_FList_countOfDegree_9 : decode c_FList_countOfDegree 9 = .ok (.if_icmp .ge 31, 3) := by decide +kernel
theorem d_FList_countOfDegree_12 : decode c_FList_countOfDegree 12 = .ok (.aload_n 0, 1) := by decide +kernel
theorem d_FList_countOfDegree_13 : decode c_FList_countOfDegree 13 = .ok (.getfield 11, 3) := by decide +kernel
theorem d_FList_countOfDegree_16 : decode c_FList_countOfDegree 16 = .ok (.iload_n 3, 1) := by decide +kernel
theorem d_FList_countOfDegree_17 : decode c_FList_countOfDegree 17 = .ok (.aaload, 1) := by decide +kernel
theorem d_FList_countOfDegree_18 : decode c_FList_countOfDegree 18 = .ok (.getfield 34, 3) := by decide +kernel
theorem d_FList_countOfDegree_21 : decode c_FList_countOfDegree 21 = .ok (.iload_n 1, 1) := by decide +kernel
theorem d_FList_countOfDegree_22 : decode c_FList_countOfDegree 22 = .ok (.if_icmp .ne 12, 3) := by decide +kernel
theorem d_FList_countOfDegree_25 : decode c_FList_countOfDegree 25 = .ok (.iload_n 2, 1) := by decide +kernel
theorem d_FList_countOfDegree_26 : decode c_FList_countOfDegree 26 = .ok (.aload_n 0, 1) := by decide +kernel
theorem d_FList_countOfDegree_27 : decode c_FList_countOfDegree 27 = .ok (.getfield 18, 3) := by decide +kernel
theorem d_FList_countOfDegree_30 : decode c_FList_countOfDegree 30 = .ok (.iload_n 3, 1) := by decide +kernel
theorem d_FList_countOfDegree_31 : decode c_FList_countOfDegree 31 = .ok (.iaload, 1) := by decide +kernel
theorem d_FList_countOfDegree_32 : decode c_FList_countOfDegree 32 = .ok (.iadd, 1) := by decide +kernel
theorem d_FList_countOfDegree_33 : decode c_FList_countOfDegree 33 = .ok (.istore_n 2, 1) := by decide +kernel
theorem d_FList_countOfDegree_34 : decode c_FList_countOfDegree 34 = .ok (.iinc 3 1, 3) := by decide +kernel
theorem d_FList_countOfDegree_37 : decode c_FList_countOfDegree 37 = .ok (.goto (-33), 3) := by decide +kernel
theorem d_FList_countOfDegree_40 : decode c_FList_countOfDegree 40 = .ok (.iload_n 2, 1) := by decide +kernel
theorem d_FList_countOfDegree_41 : decode c_FList_countOfDegree 41 = .ok (.ireturn, 1) := by decide +kernel
abbrev c_Desk_factors : ByteArray := prog_1_method_9_code
abbrev y_Desk_factors : MethodName := ⟨"FactorDesk", "factors", "()I"⟩
theorem d_Desk_factors_0 : decode c_Desk_factors 0 = .ok (.aload_n 0, 1) := by decide +kernel
theorem d_Desk_factors_1 : decode c_Desk_factors 1 = .ok (.getfield 47, 3) := by decide +kernel
theorem d_Desk_factors_4 : decode c_Desk_factors 4 = .ok (.aload_n 0, 1) := by decide +kernel
theorem d_Desk_factors_5 : decode c_Desk_factors 5 = .ok (.getfield 20, 3) := by decide +kernel
theorem d_Desk_factors_8 : decode c_Desk_factors 8 = .ok (.invokevirtual 112, 3) := by decide +kernel
theorem d_Desk_factors_11 : decode c_Desk_factors 11 = .ok (.aload_n 0, 1) := by decide +kernel
theorem d_Desk_factors_12 : decode c_Desk_factors 12 = .ok (.getfield 40, 3) := by decide +kernel
theorem d_Desk_factors_15 : decode c_Desk_factors 15 = .ok (.aload_n 0, 1) := by decide +kernel
theorem d_Desk_factors_16 : decode c_Desk_factors 16 = .ok (.getfield 47, 3) := by decide +kernel
theorem d_Desk_factors_19 : decode c_Desk_factors 19 = .ok (.getfield 115, 3) := by decide +kernel
theorem d_Desk_factors_22 : decode c_Desk_factors 22 = .ok (.invokevirtual 118, 3) := by decide +kernel
theorem d_Desk_factors_25 : decode c_Desk_factors 25 = .ok (.aload_n 0, 1) := by decide +kernel
theorem d_Desk_factors_26 : decode c_Desk_factors 26 = .ok (.getfield 40, 3) := by decide +kernel
theorem d_Desk_factors_29 : decode c_Desk_factors 29 = .ok (.getfield 121, 3) := by decide +kernel
theorem d_Desk_factors_32 : decode c_Desk_factors 32 = .ok (.ireturn, 1) := by decide +kernel
abbrev c_Desk_isIrreducible : ByteArray := prog_1_method_12_code
abbrev y_Desk_isIrreducible : MethodName := ⟨"FactorDesk", "isIrreducible", "()Z"⟩
theorem d_Desk_isIrreducible_0 : decode c_Desk_isIrreducible 0 = .ok (.aload_n 0, 1) := by decide +kernel
theorem d_Desk_isIrreducible_1 : decode c_Desk_isIrreducible 1 = .ok (.invokevirtual 138, 3) := by decide +kernel
theorem d_Desk_isIrreducible_4 : decode c_Desk_isIrreducible 4 = .ok (.lconst 1, 1) := by decide +kernel
theorem d_Desk_isIrreducible_5 : decode c_Desk_isIrreducible 5 = .ok (.lcmp, 1) := by decide +kernel
theorem d_Desk_isIrreducible_6 : decode c_Desk_isIrreducible 6 = .ok (.ifCond .eq 5, 3) := by decide +kernel
theorem d_Desk_isIrreducible_9 : decode c_Desk_isIrreducible 9 = .ok (.iconst 0, 1) := by decide +kernel
theorem d_Desk_isIrreducible_10 : decode c_Desk_isIrreducible 10 = .ok (.ireturn, 1) := by decide +kernel
theorem d_Desk_isIrreducible_11 : decode c_Desk_isIrreducible 11 = .ok (.aload_n 0, 1) := by decide +kernel
theorem d_Desk_isIrreducible_12 : decode c_Desk_isIrreducible 12 = .ok (.getfield 47, 3) := by decide +kernel
theorem d_Desk_isIrreducible_15 : decode c_Desk_isIrreducible 15 = .ok (.aload_n 0, 1) := by decide +kernel
theorem d_Desk_isIrreducible_16 : decode c_Desk_isIrreducible 16 = .ok (.getfield 20, 3) := by decide +kernel
theorem d_Desk_isIrreducible_19 : decode c_Desk_isIrreducible 19 = .ok (.invokevirtual 112, 3) := by decide +kernel
theorem d_Desk_isIrreducible_22 : decode c_Desk_isIrreducible 22 = .ok (.aload_n 0, 1) := by decide +kernel
theorem d_Desk_isIrreducible_23 : decode c_Desk_isIrreducible 23 = .ok (.getfield 47, 3) := by decide +kernel
theorem d_Desk_isIrreducible_26 : decode c_Desk_isIrreducible 26 = .ok (.getfield 115, 3) := by decide +kernel
theorem d_Desk_isIrreducible_29 : decode c_Desk_isIrreducible 29 = .ok (.getfield 121, 3) := by decide +kernel
theorem d_Desk_isIrreducible_32 : decode c_Desk_isIrreducible 32 = .ok (.iconst 1, 1) := by decide +kernel
theorem d_Desk_isIrreducible_33 : decode c_Desk_isIrreducible 33 = .ok (.if_icmp .ne 23, 3) := by decide +kernel
theorem d_Desk_isIrreducible_36 : decode c_Desk_isIrreducible 36 = .ok (.aload_n 0, 1) := by decide +kernel
theorem d_Desk_isIrreducible_37 : decode c_Desk_isIrreducible 37 = .ok (.getfield 47, 3) := by decide +kernel
theorem d_Desk_isIrreducible_40 : decode c_Desk_isIrreducible 40 = .ok (.getfield 115, 3) := by decide +kernel
theorem d_Desk_isIrreducible_43 : decode c_Desk_isIrreducible 43 = .ok (.getfield 133, 3) := by decide +kernel
theorem d_Desk_isIrreducible_46 : decode c_Desk_isIrreducible 46 = .ok (.iconst 0, 1) := by decide +kernel
theorem d_Desk_isIrreducible_47 : decode c_Desk_isIrreducible 47 = .ok (.iaload, 1) := by decide +kernel
theorem d_Desk_isIrreducible_48 : decode c_Desk_isIrreducible 48 = .ok (.iconst 1, 1) := by decide +kernel
theorem d_Desk_isIrreducible_49 : decode c_Desk_isIrreducible 49 = .ok (.if_icmp .ne 7, 3) := by decide +kernel
theorem d_Desk_isIrreducible_52 : decode c_Desk_isIrreducible 52 = .ok (.iconst 1, 1) := by decide +kernel
theorem d_Desk_isIrreducible_53 : decode c_Desk_isIrreducible 53 = .ok (.goto 4, 3) := by decide +kernel
theorem d_Desk_isIrreducible_56 : decode c_Desk_isIrreducible 56 = .ok (.iconst 0, 1) := by decide +kernel
theorem d_Desk_isIrreducible_57 : decode c_Desk_isIrreducible 57 = .ok (.ireturn, 1) := by decide +kernel
abbrev c_Desk_ofDegree : ByteArray := prog_1_method_13_code
abbrev y_Desk_ofDegree : MethodName := ⟨"FactorDesk", "ofDegree", "(I)I"⟩
theorem d_Desk_ofDegree_0 : decode c_Desk_ofDegree 0 = .ok (.iload_n 1, 1) := by decide +kernel
theorem d_Desk_ofDegree_1 : decode c_Desk_ofDegree 1 = .ok (.iconst 1, 1) := by decide +kernel
theorem d_Desk_ofDegree_2 : decode c_Desk_ofDegree 2 = .ok (.if_icmp .lt 9, 3) := by decide +kernel
theorem d_Desk_ofDegree_5 : decode c_Desk_ofDegree 5 = .ok (.iload_n 1, 1) := by decide +kernel
theorem d_Desk_ofDegree_6 : decode c_Desk_ofDegree 6 = .ok (.bipush 12, 2) := by decide +kernel
theorem d_Desk_ofDegree_8 : decode c_Desk_ofDegree 8 = .ok (.if_icmp .le 13, 3) := by decide +kernel
theorem d_Desk_ofDegree_11 : decode c_Desk_ofDegree 11 = .ok (.new 72, 3) := by decide +kernel
theorem d_Desk_ofDegree_14 : decode c_Desk_ofDegree 14 = .ok (.dup, 1) := by decide +kernel
theorem d_Desk_ofDegree_15 : decode c_Desk_ofDegree 15 = .ok (.ldc 141, 2) := by decide +kernel
theorem d_Desk_ofDegree_17 : decode c_Desk_ofDegree 17 = .ok (.invokespecial 76, 3) := by decide +kernel
theorem d_Desk_ofDegree_20 : decode c_Desk_ofDegree 20 = .ok (.athrow, 1) := by decide +kernel
theorem d_Desk_ofDegree_21 : decode c_Desk_ofDegree 21 = .ok (.aload_n 0, 1) := by decide +kernel
theorem d_Desk_ofDegree_22 : decode c_Desk_ofDegree 22 = .ok (.getfield 47, 3) := by decide +kernel
theorem d_Desk_ofDegree_25 : decode c_Desk_ofDegree 25 = .ok (.aload_n 0, 1) := by decide +kernel
theorem d_Desk_ofDegree_26 : decode c_Desk_ofDegree 26 = .ok (.getfield 20, 3) := by decide +kernel
theorem d_Desk_ofDegree_29 : decode c_Desk_ofDegree 29 = .ok (.invokevirtual 112, 3) := by decide +kernel
theorem d_Desk_ofDegree_32 : decode c_Desk_ofDegree 32 = .ok (.aload_n 0, 1) := by decide +kernel
theorem d_Desk_ofDegree_33 : decode c_Desk_ofDegree 33 = .ok (.getfield 47, 3) := by decide +kernel
theorem d_Desk_ofDegree_36 : decode c_Desk_ofDegree 36 = .ok (.getfield 115, 3) := by decide +kernel
theorem d_Desk_ofDegree_39 : decode c_Desk_ofDegree 39 = .ok (.iload_n 1, 1) := by decide +kernel
theorem d_Desk_ofDegree_40 : decode c_Desk_ofDegree 40 = .ok (.invokevirtual 143, 3) := by decide +kernel
theorem d_Desk_ofDegree_43 : decode c_Desk_ofDegree 43 = .ok (.ireturn, 1) := by decide +kernel
abbrev c_Math_floorMod : ByteArray := prog_15_method_52_code
abbrev y_Math_floorMod : MethodName := ⟨"java/lang/Math", "floorMod", "(JJ)J"⟩
theorem d_Math_floorMod_0 : decode c_Math_floorMod 0 = .ok (.lload_n 0, 1) := by decide +kernel
theorem d_Math_floorMod_1 : decode c_Math_floorMod 1 = .ok (.lload_n 2, 1) := by decide +kernel
theorem d_Math_floorMod_2 : decode c_Math_floorMod 2 = .ok (.lrem, 1) := by decide +kernel
theorem d_Math_floorMod_3 : decode c_Math_floorMod 3 = .ok (.lstore 4, 2) := by decide +kernel
theorem d_Math_floorMod_5 : decode c_Math_floorMod 5 = .ok (.lload_n 0, 1) := by decide +kernel
theorem d_Math_floorMod_6 : decode c_Math_floorMod 6 = .ok (.lload_n 2, 1) := by decide +kernel
theorem d_Math_floorMod_7 : decode c_Math_floorMod 7 = .ok (.lxor, 1) := by decide +kernel
theorem d_Math_floorMod_8 : decode c_Math_floorMod 8 = .ok (.lconst 0, 1) := by decide +kernel
theorem d_Math_floorMod_9 : decode c_Math_floorMod 9 = .ok (.lcmp, 1) := by decide +kernel
theorem d_Math_floorMod_10 : decode c_Math_floorMod 10 = .ok (.ifCond .ge 15, 3) := by decide +kernel
theorem d_Math_floorMod_13 : decode c_Math_floorMod 13 = .ok (.lload 4, 2) := by decide +kernel
theorem d_Math_floorMod_15 : decode c_Math_floorMod 15 = .ok (.lconst 0, 1) := by decide +kernel
theorem d_Math_floorMod_16 : decode c_Math_floorMod 16 = .ok (.lcmp, 1) := by decide +kernel
theorem d_Math_floorMod_17 : decode c_Math_floorMod 17 = .ok (.ifCond .eq 8, 3) := by decide +kernel
theorem d_Math_floorMod_20 : decode c_Math_floorMod 20 = .ok (.lload 4, 2) := by decide +kernel
theorem d_Math_floorMod_22 : decode c_Math_floorMod 22 = .ok (.lload_n 2, 1) := by decide +kernel
theorem d_Math_floorMod_23 : decode c_Math_floorMod 23 = .ok (.ladd, 1) := by decide +kernel
theorem d_Math_floorMod_24 : decode c_Math_floorMod 24 = .ok (.lreturn, 1) := by decide +kernel
theorem d_Math_floorMod_25 : decode c_Math_floorMod 25 = .ok (.lload 4, 2) := by decide +kernel
theorem d_Math_floorMod_27 : decode c_Math_floorMod 27 = .ok (.lreturn, 1) := by decide +kernel
abbrev c_Desk_value : ByteArray := prog_1_method_17_code
abbrev y_Desk_value : MethodName := ⟨"FactorDesk", "value", "(JI)J"⟩
theorem d_Desk_value_0 : decode c_Desk_value 0 = .ok (.iload_n 3, 1) := by decide +kernel
theorem d_Desk_value_1 : decode c_Desk_value 1 = .ok (.iconst 1, 1) := by decide +kernel
theorem d_Desk_value_2 : decode c_Desk_value 2 = .ok (.if_icmp .ge 13, 3) := by decide +kernel
theorem d_Desk_value_5 : decode c_Desk_value 5 = .ok (.new 72, 3) := by decide +kernel
theorem d_Desk_value_8 : decode c_Desk_value 8 = .ok (.dup, 1) := by decide +kernel
theorem d_Desk_value_9 : decode c_Desk_value 9 = .ok (.ldc 167, 2) := by decide +kernel
theorem d_Desk_value_11 : decode c_Desk_value 11 = .ok (.invokespecial 76, 3) := by decide +kernel
theorem d_Desk_value_14 : decode c_Desk_value 14 = .ok (.athrow, 1) := by decide +kernel
theorem d_Desk_value_15 : decode c_Desk_value 15 = .ok (.iload_n 3, 1) := by decide +kernel
theorem d_Desk_value_16 : decode c_Desk_value 16 = .ok (.i2l, 1) := by decide +kernel
theorem d_Desk_value_17 : decode c_Desk_value 17 = .ok (.lstore 4, 2) := by decide +kernel
theorem d_Desk_value_19 : decode c_Desk_value 19 = .ok (.lload_n 1, 1) := by decide +kernel
theorem d_Desk_value_20 : decode c_Desk_value 20 = .ok (.lload 4, 2) := by decide +kernel
theorem d_Desk_value_22 : decode c_Desk_value 22 = .ok (.invokestatic 169, 3) := by decide +kernel
theorem d_Desk_value_25 : decode c_Desk_value 25 = .ok (.lstore 6, 2) := by decide +kernel
theorem d_Desk_value_27 : decode c_Desk_value 27 = .ok (.lconst 0, 1) := by decide +kernel
theorem d_Desk_value_28 : decode c_Desk_value 28 = .ok (.lstore 8, 2) := by decide +kernel
theorem d_Desk_value_30 : decode c_Desk_value 30 = .ok (.aload_n 0, 1) := by decide +kernel
theorem d_Desk_value_31 : decode c_Desk_value 31 = .ok (.getfield 20, 3) := by decide +kernel
theorem d_Desk_value_34 : decode c_Desk_value 34 = .ok (.getfield 84, 3) := by decide +kernel
theorem d_Desk_value_37 : decode c_Desk_value 37 = .ok (.istore 10, 2) := by decide +kernel
theorem d_Desk_value_39 : decode c_Desk_value 39 = .ok (.iload 10, 2) := by decide +kernel
theorem d_Desk_value_41 : decode c_Desk_value 41 = .ok (.ifCond .lt 32, 3) := by decide +kernel
theorem d_Desk_value_44 : decode c_Desk_value 44 = .ok (.lload 8, 2) := by decide +kernel
theorem d_Desk_value_46 : decode c_Desk_value 46 = .ok (.lload 6, 2) := by decide +kernel
theorem d_Desk_value_48 : decode c_Desk_value 48 = .ok (.lmul, 1) := by decide +kernel
theorem d_Desk_value_49 : decode c_Desk_value 49 = .ok (.aload_n 0, 1) := by decide +kernel
theorem d_Desk_value_50 : decode c_Desk_value 50 = .ok (.getfield 20, 3) := by decide +kernel
theorem d_Desk_value_53 : decode c_Desk_value 53 = .ok (.getfield 101, 3) := by decide +kernel
theorem d_Desk_value_56 : decode c_Desk_value 56 = .ok (.iload 10, 2) := by decide +kernel
theorem d_Desk_value_58 : decode c_Desk_value 58 = .ok (.laload, 1) := by decide +kernel
theorem d_Desk_value_59 : decode c_Desk_value 59 = .ok (.ladd, 1) := by decide +kernel
theorem d_Desk_value_60 : decode c_Desk_value 60 = .ok (.lload 4, 2) := by decide +kernel
theorem d_Desk_value_62 : decode c_Desk_value 62 = .ok (.invokestatic 169, 3) := by decide +kernel
theorem d_Desk_value_65 : decode c_Desk_value 65 = .ok (.lstore 8, 2) := by decide +kernel
theorem d_Desk_value_67 : decode c_Desk_value 67 = .ok (.iinc 10 (-1), 3) := by decide +kernel
theorem d_Desk_value_70 : decode c_Desk_value 70 = .ok (.goto (-31), 3) := by decide +kernel
theorem d_Desk_value_73 : decode c_Desk_value 73 = .ok (.lload 8, 2) := by decide +kernel
theorem d_Desk_value_75 : decode c_Desk_value 75 = .ok (.lreturn, 1) := by decide +kernel
theorem g_362 : jG (Jvm.Cond.methodLink "FactorDesk" (112 : Nat) ({ cls := "FactorDesk$Splitter", name := "split", desc := "(LFactorDesk$Poly;)V" } : Jvm.MethodName)) := jG_of 427 (by decide +kernel) (by decide +kernel)
theorem g_365 : jG (Jvm.Cond.code ({ cls := "FactorDesk$Splitter", name := "split", desc := "(LFactorDesk$Poly;)V" } : Jvm.MethodName) prog_9_method_3_code (3 : Nat) (Option.none : Option Jvm.ClassFile.FieldType)) := jG_of 430 (by decide +kernel) (by decide +kernel)
theorem g_363 : jG (Jvm.Cond.instanceMethod ({ cls := "FactorDesk$Splitter", name := "split", desc := "(LFactorDesk$Poly;)V" } : Jvm.MethodName)) := jG_of 428 (by decide +kernel) (by decide +kernel)
theorem g_364 : jG (Jvm.Cond.selects "FactorDesk$Splitter" ({ cls := "FactorDesk$Splitter", name := "split", desc := "(LFactorDesk$Poly;)V" } : Jvm.MethodName) ({ cls := "FactorDesk$Splitter", name := "split", desc := "(LFactorDesk$Poly;)V" } : Jvm.MethodName)) := jG_of 429 (by decide +kernel) (by decide +kernel)
theorem g_274 : jG (Jvm.Cond.fieldLink "FactorDesk" (115 : Nat) "FactorDesk$Splitter" "found" "LFactorDesk$FactorList;") := jG_of 339 (by decide +kernel) (by decide +kernel)
theorem g_624 : jG (Jvm.Cond.methodLink "FactorDesk" (118 : Nat) ({ cls := "FactorDesk$FactorList", name := "copyFrom", desc := "(LFactorDesk$FactorList;)V" } : Jvm.MethodName)) := jG_of 689 (by decide +kernel) (by decide +kernel)
theorem g_627 : jG (Jvm.Cond.code ({ cls := "FactorDesk$FactorList", name := "copyFrom", desc := "(LFactorDesk$FactorList;)V" } : Jvm.MethodName) prog_4_method_2_code (3 : Nat) (Option.none : Option Jvm.ClassFile.FieldType)) := jG_of 692 (by decide +kernel) (by decide +kernel)
theorem g_625 : jG (Jvm.Cond.instanceMethod ({ cls := "FactorDesk$FactorList", name := "copyFrom", desc := "(LFactorDesk$FactorList;)V" } : Jvm.MethodName)) := jG_of 690 (by decide +kernel) (by decide +kernel)
theorem g_626 : jG (Jvm.Cond.selects "FactorDesk$FactorList" ({ cls := "FactorDesk$FactorList", name := "copyFrom", desc := "(LFactorDesk$FactorList;)V" } : Jvm.MethodName) ({ cls := "FactorDesk$FactorList", name := "copyFrom", desc := "(LFactorDesk$FactorList;)V" } : Jvm.MethodName)) := jG_of 691 (by decide +kernel) (by decide +kernel)
theorem g_632 : jG (Jvm.Cond.methodLink "FactorDesk" (138 : Nat) ({ cls := "FactorDesk", name := "content", desc := "()J" } : Jvm.MethodName)) := jG_of 697 (by decide +kernel) (by decide +kernel)
theorem g_346 : jG (Jvm.Cond.code ({ cls := "FactorDesk", name := "content", desc := "()J" } : Jvm.MethodName) prog_1_method_8_code (3 : Nat) (Option.some Jvm.ClassFile.FieldType.long)) := jG_of 411 (by decide +kernel) (by decide +kernel)
theorem g_344 : jG (Jvm.Cond.instanceMethod ({ cls := "FactorDesk", name := "content", desc := "()J" } : Jvm.MethodName)) := jG_of 409 (by decide +kernel) (by decide +kernel)
theorem g_345 : jG (Jvm.Cond.selects "FactorDesk" ({ cls := "FactorDesk", name := "content", desc := "()J" } : Jvm.MethodName) ({ cls := "FactorDesk", name := "content", desc := "()J" } : Jvm.MethodName)) := jG_of 410 (by decide +kernel) (by decide +kernel)
theorem g_811 : jG (Jvm.Cond.methodLink "FactorDesk" (143 : Nat) ({ cls := "FactorDesk$FactorList", name := "countOfDegree", desc := "(I)I" } : Jvm.MethodName)) := jG_of 876 (by decide +kernel) (by decide +kernel)
theorem g_814 : jG (Jvm.Cond.code ({ cls := "FactorDesk$FactorList", name := "countOfDegree", desc := "(I)I" } : Jvm.MethodName) prog_4_method_4_code (4 : Nat) (Option.some Jvm.ClassFile.FieldType.int)) := jG_of 879 (by decide +kernel) (by decide +kernel)
theorem g_812 : jG (Jvm.Cond.instanceMethod ({ cls := "FactorDesk$FactorList", name := "countOfDegree", desc := "(I)I" } : Jvm.MethodName)) := jG_of 877 (by decide +kernel) (by decide +kernel)
theorem g_813 : jG (Jvm.Cond.selects "FactorDesk$FactorList" ({ cls := "FactorDesk$FactorList", name := "countOfDegree", desc := "(I)I" } : Jvm.MethodName) ({ cls := "FactorDesk$FactorList", name := "countOfDegree", desc := "(I)I" } : Jvm.MethodName)) := jG_of 878 (by decide +kernel) (by decide +kernel)
theorem g_848 : jG (Jvm.Cond.methodLink "FactorDesk" (169 : Nat) ({ cls := "java/lang/Math", name := "floorMod", desc := "(JJ)J" } : Jvm.MethodName)) := jG_of 913 (by decide +kernel) (by decide +kernel)
theorem g_416 : jG (Jvm.Cond.code ({ cls := "java/lang/Math", name := "floorMod", desc := "(JJ)J" } : Jvm.MethodName) prog_15_method_52_code (6 : Nat) (Option.some Jvm.ClassFile.FieldType.long)) := jG_of 481 (by decide +kernel) (by decide +kernel)
theorem g_17 : jG (Jvm.Cond.initialized "java/lang/Math") := jG_of 82 (by decide +kernel) (by decide +kernel)
theorem g_415 : jG (Jvm.Cond.static ({ cls := "java/lang/Math", name := "floorMod", desc := "(JJ)J" } : Jvm.MethodName)) := jG_of 480 (by decide +kernel) (by decide +kernel)
set_option maxHeartbeats 4000000 in
set_option maxRecDepth 100000 in
theorem k_flCopy (l : Launch) {b : Nat} {D : va_G} {Y : Nat → ClassId} {s0 : State} (Z : jS0 b D Y s0) (a f n : Nat) (v0 v1 v2 v3 : Value) (h : jH) (hne : a ≠ f) (H0 : h a = some (.inr (1, [v0, v1, .int 0]))) (H1 : h f = some (.inr (1, [v2, v3, .int 0]))) : jMet l D s0 y_FList_copyFrom c_FList_copyFrom 3 none 1 [.ref a, .ref f] h n 0 0 (fun r h2 n2 => r = none ∧ n = n2 ∧ h2 a = some (.inr (1, [v0, v1, .int 0])) ∧ ∀ x, x ≠ a → h2 x = h x) := by
  refine jMet_of Z (by decide) (Nat.le_of_ble_eq_true rfl) ?_
  intro p e s m below meth c
  refine j_aload_n d_FList_copyFrom_0 0 rfl ?_
  refine j_aload_n d_FList_copyFrom_1 1 rfl ?_
  refine j_get iw_FList (ci := 1) (kf := 2) rfl (by decide) g_76 d_FList_copyFrom_2 H1 rfl ?_
  refine j_put iw_FList t_FList t_FList_ok n_FList (ci := 1) (kf := 2) rfl (by decide) g_76 rfl (t_FList_ok 2 (by decide)) rfl rfl d_FList_copyFrom_5 H0 (Nat.le_of_ble_eq_true rfl) ?_
  refine j_iconst d_FList_copyFrom_8 (v := 0) (by decide) ?_
  refine j_istore_n d_FList_copyFrom_9 (Nat.le_of_ble_eq_true rfl) rfl ?_
  refine j_iload_n d_FList_copyFrom_10 0 rfl ?_
  refine j_aload_n d_FList_copyFrom_11 1 rfl ?_
  refine j_get iw_FList (ci := 1) (kf := 2) rfl (by decide) g_76 d_FList_copyFrom_12 (jh_up_s _ _ _) rfl ?_
  refine j_icmp_ge_t (tgt := 51) d_FList_copyFrom_15 (by decide) (by decide) ?_
  exact j_vret rfl d_FList_copyFrom_51 ⟨rfl, rfl, (jh_up_s _ _ _), fun x h1 => (jh_up_n _ _ (by omega))⟩
set_option maxHeartbeats 4000000 in
set_option maxRecDepth 100000 in
theorem k_ofDeg0 (l : Launch) {b : Nat} {D : va_G} {Y : Nat → ClassId} {s0 : State} (Z : jS0 b D Y s0) (f n : Nat) (x0 : Int32) (v2 v3 : Value) (h : jH) (H1 : h f = some (.inr (1, [v2, v3, .int 0]))) : jMet l D s0 y_FList_countOfDegree c_FList_countOfDegree 4 (some .int) 1 [.ref f, .int x0] h n 0 0 (fun r h2 n2 => r = some (.int 0) ∧ h = h2 ∧ n = n2) := by
  refine jMet_of Z (by decide) (Nat.le_of_ble_eq_true rfl) ?_
  intro p e s m below meth c
  refine j_iconst d_FList_countOfDegree_0 (v := 0) (by decide) ?_
  refine j_istore_n d_FList_countOfDegree_1 (Nat.le_of_ble_eq_true rfl) rfl ?_
  refine j_iconst d_FList_countOfDegree_2 (v := 0) (by decide) ?_
  refine j_istore_n d_FList_countOfDegree_3 (Nat.le_of_ble_eq_true rfl) rfl ?_
  refine j_iload_n d_FList_countOfDegree_4 0 rfl ?_
  refine j_aload_n d_FList_countOfDegree_5 2 rfl ?_
  refine j_get iw_FList (ci := 1) (kf := 2) rfl (by decide) g_76 d_FList_countOfDegree_6 H1 rfl ?_
  refine j_icmp_ge_t (tgt := 40) d_FList_countOfDegree_9 (by decide) (by decide) ?_
  refine j_iload_n d_FList_countOfDegree_40 1 rfl ?_
  exact j_iret rfl d_FList_countOfDegree_41 ⟨rfl, rfl, rfl⟩
set_option maxHeartbeats 4000000 in
set_option maxRecDepth 100000 in
theorem k_factors (l : Launch) {b : Nat} {D : va_G} {Y : Nat → ClassId} {s0 : State} (Z : jS0 b D Y s0) (d n : Nat) (h : jH) (HD : jDesk Y h d) : jMet l D s0 y_Desk_factors c_Desk_factors 1 (some .int) 6 [.ref d] h n 0 0 (fun r h2 n2 => r = some (.int 0) ∧ n = n2 ∧ ∀ x, (x < d ∨ d + 208 ≤ x) → h2 x = h x) := by
  refine jMet_of Z (by decide) (Nat.le_of_ble_eq_true rfl) ?_
  intro p e s m below meth c
  obtain ⟨D0, D1, D2, D3, D8, D9, D10, D37, D38, D202, D203⟩ := HD
  refine j_aload_n d_Desk_factors_0 0 rfl ?_
  refine j_get iw_Desk (ci := 8) (kf := 7) rfl (by decide) g_311 d_Desk_factors_1 D0 rfl ?_
  refine j_aload_n d_Desk_factors_4 0 rfl ?_
  refine j_get iw_Desk (ci := 8) (kf := 2) rfl (by decide) g_306 d_Desk_factors_5 D0 rfl ?_
  refine j_callV (k_split l Z d _ _ ⟨D0, D1, D2, D3, D8, D9, D10, D37, D38, D202, D203⟩) ⟨⟨Nat.le_of_ble_eq_true rfl, Nat.le_of_ble_eq_true rfl⟩, g_362, g_365, g_4, (by decide +kernel), (by decide +kernel), (show _ = some 1 from by decide +kernel)⟩ g_363 g_364 (ci := 7) rfl D37 ⟨(by first | exact Nat.le_of_ble_eq_true rfl | (simp only [jrm]; omega)), (by first | exact Nat.le_of_ble_eq_true rfl | (simp only [jrm]; omega))⟩ (Nat.le_of_ble_eq_true rfl) d_Desk_factors_8 (fun r0 h0 n0 P0 => ?_)
  obtain ⟨rfl, rfl, O0, A0, F0⟩ := P0
  have S0_0 := (F0 d (by omega) (by omega) (by omega) (by omega)).trans D0
  have S0_1 := (F0 (d + 1) (by omega) (by omega) (by omega) (by omega)).trans D1
  have S0_2 := (F0 (d + 2) (by omega) (by omega) (by omega) (by omega)).trans D2
  have S0_3 := (F0 (d + 3) (by omega) (by omega) (by omega) (by omega)).trans D3
  have S0_8 := (F0 (d + 8) (by omega) (by omega) (by omega) (by omega)).trans D8
  have S0_9 := (F0 (d + 9) (by omega) (by omega) (by omega) (by omega)).trans D9
  have S0_10 := (F0 (d + 10) (by omega) (by omega) (by omega) (by omega)).trans D10
  refine j_aload_n d_Desk_factors_11 0 rfl ?_
  refine j_get iw_Desk (ci := 8) (kf := 6) rfl (by decide) g_310 d_Desk_factors_12 S0_0 rfl ?_
  refine j_aload_n d_Desk_factors_15 0 rfl ?_
  refine j_get iw_Desk (ci := 8) (kf := 7) rfl (by decide) g_311 d_Desk_factors_16 S0_0 rfl ?_
  refine j_get iw_Splt (ci := 7) (kf := 0) rfl (by decide) g_274 d_Desk_factors_19 O0 rfl ?_
  refine j_callV (k_flCopy l Z (d + 10) (d + 38) _ _ _ _ _ _ (by omega) S0_10 A0) ⟨⟨Nat.le_of_ble_eq_true rfl, Nat.le_of_ble_eq_true rfl⟩, g_624, g_627, g_3, (by decide +kernel), (by decide +kernel), (show _ = some 1 from by decide +kernel)⟩ g_625 g_626 (ci := 1) rfl S0_10 ⟨(by first | exact Nat.le_of_ble_eq_true rfl | (simp only [jrm]; omega)), (by first | exact Nat.le_of_ble_eq_true rfl | (simp only [jrm]; omega))⟩ (Nat.le_of_ble_eq_true rfl) d_Desk_factors_22 (fun r1 h1 n1 P1 => ?_)
  obtain ⟨rfl, rfl, O1, F1⟩ := P1
  have U0 := (F1 d (by omega)).trans S0_0
  refine j_aload_n d_Desk_factors_25 0 rfl ?_
  refine j_get iw_Desk (ci := 8) (kf := 6) rfl (by decide) g_310 d_Desk_factors_26 U0 rfl ?_
  refine j_get iw_FList (ci := 1) (kf := 2) rfl (by decide) g_78 d_Desk_factors_29 O1 rfl ?_
  refine j_iret rfl d_Desk_factors_32 ⟨rfl, rfl, fun x hx => ?_⟩
  exact ((F1 x (by omega)).trans (F0 x (by omega) (by omega) (by omega) (by omega)))
set_option maxHeartbeats 4000000 in
set_option maxRecDepth 100000 in
theorem k_isIrr (l : Launch) {b : Nat} {D : va_G} {Y : Nat → ClassId} {s0 : State} (Z : jS0 b D Y s0) (d n : Nat) (h : jH) (HD : jDesk Y h d) : jMet l D s0 y_Desk_isIrreducible c_Desk_isIrreducible 1 (some .boolean) 6 [.ref d] h n 0 0 (fun r h2 n2 => r = some (.int 0) ∧ n = n2 ∧ ∀ x, (x < d ∨ d + 208 ≤ x) → h2 x = h x) := by
  refine jMet_of Z (by decide) (Nat.le_of_ble_eq_true rfl) ?_
  intro p e s m below meth c
  obtain ⟨D0, D1, D2, D3, D8, D9, D10, D37, D38, D202, D203⟩ := HD
  refine j_aload_n d_Desk_isIrreducible_0 0 rfl ?_
  refine j_callV (k_content l Z d _ _ ⟨D0, D1, D2, D3, D8, D9, D10, D37, D38, D202, D203⟩) ⟨⟨Nat.le_of_ble_eq_true rfl, Nat.le_of_ble_eq_true rfl⟩, g_632, g_346, g_1, by decide +kernel⟩ g_344 g_345 (ci := 8) rfl D0 ⟨(by first | exact Nat.le_of_ble_eq_true rfl | (simp only [jrm]; omega)), (by first | exact Nat.le_of_ble_eq_true rfl | (simp only [jrm]; omega))⟩ (Nat.le_of_ble_eq_true rfl) d_Desk_isIrreducible_1 (fun r1 h1 n1 P1 => ?_)
  obtain ⟨rfl, rfl, rfl⟩ := P1
  refine j_lconst d_Desk_isIrreducible_4 (v := 1) (by decide) ?_
  refine j_lcmp d_Desk_isIrreducible_5 ?_
  refine j_if_eq_t (tgt := 11) d_Desk_isIrreducible_6 (by decide) (by decide) ?_
  refine j_aload_n d_Desk_isIrreducible_11 0 rfl ?_
  refine j_get iw_Desk (ci := 8) (kf := 7) rfl (by decide) g_311 d_Desk_isIrreducible_12 D0 rfl ?_
  refine j_aload_n d_Desk_isIrreducible_15 0 rfl ?_
  refine j_get iw_Desk (ci := 8) (kf := 2) rfl (by decide) g_306 d_Desk_isIrreducible_16 D0 rfl ?_
  refine j_callV (k_split l Z d _ _ ⟨D0, D1, D2, D3, D8, D9, D10, D37, D38, D202, D203⟩) ⟨⟨Nat.le_of_ble_eq_true rfl, Nat.le_of_ble_eq_true rfl⟩, g_362, g_365, g_4, (by decide +kernel), (by decide +kernel), (show _ = some 1 from by decide +kernel)⟩ g_363 g_364 (ci := 7) rfl D37 ⟨(by first | exact Nat.le_of_ble_eq_true rfl | (simp only [jrm]; omega)), (by first | exact Nat.le_of_ble_eq_true rfl | (simp only [jrm]; omega))⟩ (Nat.le_of_ble_eq_true rfl) d_Desk_isIrreducible_19 (fun r0 h0 n0 P0 => ?_)
  obtain ⟨rfl, rfl, O0, A0, F0⟩ := P0
  have S0_0 := (F0 d (by omega) (by omega) (by omega) (by omega)).trans D0
  have S0_1 := (F0 (d + 1) (by omega) (by omega) (by omega) (by omega)).trans D1
  have S0_2 := (F0 (d + 2) (by omega) (by omega) (by omega) (by omega)).trans D2
  have S0_3 := (F0 (d + 3) (by omega) (by omega) (by omega) (by omega)).trans D3
  have S0_8 := (F0 (d + 8) (by omega) (by omega) (by omega) (by omega)).trans D8
  have S0_9 := (F0 (d + 9) (by omega) (by omega) (by omega) (by omega)).trans D9
  have S0_10 := (F0 (d + 10) (by omega) (by omega) (by omega) (by omega)).trans D10
  refine j_aload_n d_Desk_isIrreducible_22 0 rfl ?_
  refine j_get iw_Desk (ci := 8) (kf := 7) rfl (by decide) g_311 d_Desk_isIrreducible_23 S0_0 rfl ?_
  refine j_get iw_Splt (ci := 7) (kf := 0) rfl (by decide) g_274 d_Desk_isIrreducible_26 O0 rfl ?_
  refine j_get iw_FList (ci := 1) (kf := 2) rfl (by decide) g_78 d_Desk_isIrreducible_29 A0 rfl ?_
  refine j_iconst d_Desk_isIrreducible_32 (v := 1) (by decide) ?_
  refine j_icmp_ne_t (tgt := 56) d_Desk_isIrreducible_33 (by decide) (by decide) ?_
  refine j_iconst d_Desk_isIrreducible_56 (v := 0) (by decide) ?_
  refine j_zret rfl (by decide) d_Desk_isIrreducible_57 ⟨rfl, rfl, fun x hx => ?_⟩
  exact (F0 x (by omega) (by omega) (by omega) (by omega))
set_option maxHeartbeats 4000000 in
set_option maxRecDepth 100000 in
theorem k_ofDegree (l : Launch) {b : Nat} {D : va_G} {Y : Nat → ClassId} {s0 : State} (Z : jS0 b D Y s0) (d n : Nat) (h : jH) (HD : jDesk Y h d) (x0 : Int32) (h1 : ¬ x0 < 1) (h2 : x0 ≤ 12) : jMet l D s0 y_Desk_ofDegree c_Desk_ofDegree 2 (some .int) 6 [.ref d, .int x0] h n 0 0 (fun r h2 n2 => r = some (.int 0) ∧ n = n2 ∧ ∀ x, (x < d ∨ d + 208 ≤ x) → h2 x = h x) := by
  refine jMet_of Z (by decide) (Nat.le_of_ble_eq_true rfl) ?_
  intro p e s m below meth c
  obtain ⟨D0, D1, D2, D3, D8, D9, D10, D37, D38, D202, D203⟩ := HD
  refine j_iload_n d_Desk_ofDegree_0 1 rfl ?_
  refine j_iconst d_Desk_ofDegree_1 (v := 1) (by decide) ?_
  refine j_icmp_lt_f (tgt := 11) d_Desk_ofDegree_2 (by decide) h1 ?_
  refine j_iload_n d_Desk_ofDegree_5 1 rfl ?_
  refine j_bipush d_Desk_ofDegree_6 (v := 12) (by decide) ?_
  refine j_icmp_le_t (tgt := 21) d_Desk_ofDegree_8 (by decide) h2 ?_
  refine j_aload_n d_Desk_ofDegree_21 0 rfl ?_
  refine j_get iw_Desk (ci := 8) (kf := 7) rfl (by decide) g_311 d_Desk_ofDegree_22 D0 rfl ?_
  refine j_aload_n d_Desk_ofDegree_25 0 rfl ?_
  refine j_get iw_Desk (ci := 8) (kf := 2) rfl (by decide) g_306 d_Desk_ofDegree_26 D0 rfl ?_
  refine j_callV (k_split l Z d _ _ ⟨D0, D1, D2, D3, D8, D9, D10, D37, D38, D202, D203⟩) ⟨⟨Nat.le_of_ble_eq_true rfl, Nat.le_of_ble_eq_true rfl⟩, g_362, g_365, g_4, (by decide +kernel), (by decide +kernel), (show _ = some 1 from by decide +kernel)⟩ g_363 g_364 (ci := 7) rfl D37 ⟨(by first | exact Nat.le_of_ble_eq_true rfl | (simp only [jrm]; omega)), (by first | exact Nat.le_of_ble_eq_true rfl | (simp only [jrm]; omega))⟩ (Nat.le_of_ble_eq_true rfl) d_Desk_ofDegree_29 (fun r0 h0 n0 P0 => ?_)
  obtain ⟨rfl, rfl, O0, A0, F0⟩ := P0
  have S0_0 := (F0 d (by omega) (by omega) (by omega) (by omega)).trans D0
  have S0_1 := (F0 (d + 1) (by omega) (by omega) (by omega) (by omega)).trans D1
  have S0_2 := (F0 (d + 2) (by omega) (by omega) (by omega) (by omega)).trans D2
  have S0_3 := (F0 (d + 3) (by omega) (by omega) (by omega) (by omega)).trans D3
  have S0_8 := (F0 (d + 8) (by omega) (by omega) (by omega) (by omega)).trans D8
  have S0_9 := (F0 (d + 9) (by omega) (by omega) (by omega) (by omega)).trans D9
  have S0_10 := (F0 (d + 10) (by omega) (by omega) (by omega) (by omega)).trans D10
  refine j_aload_n d_Desk_ofDegree_32 0 rfl ?_
  refine j_get iw_Desk (ci := 8) (kf := 7) rfl (by decide) g_311 d_Desk_ofDegree_33 S0_0 rfl ?_
  refine j_get iw_Splt (ci := 7) (kf := 0) rfl (by decide) g_274 d_Desk_ofDegree_36 O0 rfl ?_
  refine j_iload_n d_Desk_ofDegree_39 1 rfl ?_
  refine j_callV (k_ofDeg0 l Z (d + 38) _ x0 _ _ _ A0) ⟨⟨Nat.le_of_ble_eq_true rfl, Nat.le_of_ble_eq_true rfl⟩, g_811, g_814, g_3, (by decide +kernel), (by decide +kernel), (show _ = some 1 from by decide +kernel)⟩ g_812 g_813 (ci := 1) rfl A0 ⟨(by first | exact Nat.le_of_ble_eq_true rfl | (simp only [jrm]; omega)), (by first | exact Nat.le_of_ble_eq_true rfl | (simp only [jrm]; omega))⟩ (Nat.le_of_ble_eq_true rfl) d_Desk_ofDegree_40 (fun r1 h1 n1 P1 => ?_)
  obtain ⟨rfl, rfl, rfl⟩ := P1
  refine j_iret rfl d_Desk_ofDegree_43 ⟨rfl, rfl, fun x hx => ?_⟩
  exact (F0 x (by omega) (by omega) (by omega) (by omega))
set_option maxHeartbeats 4000000 in
set_option maxRecDepth 100000 in
theorem x_ofDegree (l : Launch) {b : Nat} {D : va_G} {Y : Nat → ClassId} {s0 : State} (Z : jS0 b D Y s0) (hlt : l.stackTraces = false) (d n : Nat) (h : jH) (HD : jDesk Y h d) (x0 : Int32) (h1 : x0 < 1 ∨ ¬ x0 ≤ 12) : jMetX l D s0 y_Desk_ofDegree c_Desk_ofDegree 2 (some .int) 6 [.ref d, .int x0] h n 1 6 "java/lang/IllegalArgumentException" (fun h2 n2 => h2 = h ∧ n2 = n + 1) := by
  refine jMetX_of Z (by decide) (Nat.le_of_ble_eq_true rfl) ?_
  intro p e s m below meth c hnl
  obtain ⟨D0, D1, D2, D3, D8, D9, D10, D37, D38, D202, D203⟩ := HD
  by_cases h0 : x0 < 1
  · refine j_iload_n d_Desk_ofDegree_0 1 rfl ?_
    refine j_iconst d_Desk_ofDegree_1 (v := 1) (by decide) ?_
    refine j_icmp_lt_t (tgt := 11) d_Desk_ofDegree_2 (by decide) h0 ?_
    exact j_throwS hlt hnl hat_IAE hca_IAE hdc_IAE (by decide +kernel) jNm_fit g_721 g_722 g_15 hsr_141 hsx_141 d_Desk_ofDegree_11 d_Desk_ofDegree_14 d_Desk_ofDegree_15 d_Desk_ofDegree_17 d_Desk_ofDegree_20 (Nat.le_of_ble_eq_true rfl) (Nat.le_of_ble_eq_true rfl) (Nat.le_of_ble_eq_true rfl) (Nat.le_of_ble_eq_true rfl) ⟨rfl, rfl⟩
  · refine j_iload_n d_Desk_ofDegree_0 1 rfl ?_
    refine j_iconst d_Desk_ofDegree_1 (v := 1) (by decide) ?_
    refine j_icmp_lt_f (tgt := 11) d_Desk_ofDegree_2 (by decide) h0 ?_
    refine j_iload_n d_Desk_ofDegree_5 1 rfl ?_
    refine j_bipush d_Desk_ofDegree_6 (v := 12) (by decide) ?_
    refine j_icmp_le_f (tgt := 21) d_Desk_ofDegree_8 (by decide) (h1.resolve_left h0) ?_
    exact j_throwS hlt hnl hat_IAE hca_IAE hdc_IAE (by decide +kernel) jNm_fit g_721 g_722 g_15 hsr_141 hsx_141 d_Desk_ofDegree_11 d_Desk_ofDegree_14 d_Desk_ofDegree_15 d_Desk_ofDegree_17 d_Desk_ofDegree_20 (Nat.le_of_ble_eq_true rfl) (Nat.le_of_ble_eq_true rfl) (Nat.le_of_ble_eq_true rfl) (Nat.le_of_ble_eq_true rfl) ⟨rfl, rfl⟩
theorem jMet_ofF {b : Nat} {D : va_G} {Y : Nat → ClassId} {s0 : State} {l : Launch} {h : jH} {n : Nat} {y : MethodName} {cy : ByteArray} {maxL fr mc ms : Nat} {rt : Option FieldType} {av : List Value} {Post : Option Value → jH → Nat → Prop} (Z : jS0 b D Y s0) (hy : plainFor y = true) (hlen : (lg_sl av).length ≤ maxL)
    (body : ∀ (p : Program) (e : Env) (s : State) (m : MethodId) (below : List Frame) (meth : Method) (c : Code), jW b D Y s0 p l e (jrm fr mc ms) s m av.toArray below meth c y.cls cy maxL rt y.name (MQ below (jPost D s0 Post) av.toArray s mc ms (jA s0)) 0 (lv_args 0 av) [] h n 0 0) : jMet l D s0 y cy maxL rt fr av h n mc ms Post := by
  unfold jMet Met
  refine MetFree.of_bodySF (code := cy) (maxLocals := maxL) (ret := rt) hy ?_ ?_
  · intro args s m h9 hn
    obtain ⟨meth, c, h1, h2, h3, h4, h5, h6, -, -⟩ := Cond.code_spec hn (atoms_spec (ws := [Cond.code y cy maxL rt]) h9 _ List.mem_cons_self)
    exact ⟨meth, c, h1, h2, h3, h4, h5, h6⟩
  · intro p e s m args below meth c s₁ B hml hP _
    obtain ⟨rfl, hV, hR⟩ := hP
    have hh0 : s₁.heap = s.heap := by rw [B.state]; rfl
    have K := body p e s m below meth c ⟨B.exec, B.bytes, hml, B.returns, findClass_of_methodNamed B.named, B.notSynchronized, (name_of_methodNamed B.named B.method).1, Z, hV⟩ s.heap [] _ hR va_S.rf (lv_entry av hlen)
    rw [← lg_entry_eq] at K
    obtain ⟨t, a1, o, b1, b2, b3⟩ := K s₁ hh0 (Stand.of_body B)
    exact ⟨t, o, a1, b1, b2, ⟨b3.1, b3.2⟩⟩
def jr1 (x y : Int64) : Int64 := x - x / y * y
def jfm (x y : Int64) : Int64 := if 0 ≤ lg_cmp (x ^^^ y) 0 then jr1 x y else if lg_cmp (jr1 x y) 0 = 0 then jr1 x y else jr1 x y + y
set_option maxHeartbeats 4000000 in
set_option maxRecDepth 100000 in
theorem k_floorMod (l : Launch) {b : Nat} {D : va_G} {Y : Nat → ClassId} {s0 : State} (Z : jS0 b D Y s0) (n : Nat) (x y : Int64) (h : jH) (hy : ¬ y = 0) : jMet l D s0 y_Math_floorMod c_Math_floorMod 6 (some .long) 1 [.long x, .long y] h n 0 0 (fun r h2 n2 => r = some (.long (jfm x y)) ∧ h = h2 ∧ n = n2) := by
  refine jMet_ofF Z (by decide +kernel) (Nat.le_of_ble_eq_true rfl) ?_
  intro p e s m below meth c
  refine j_lload_n d_Math_floorMod_0 0 rfl ?_
  refine j_lload_n d_Math_floorMod_1 1 rfl ?_
  refine j_lrem d_Math_floorMod_2 hy ?_
  refine j_lstore d_Math_floorMod_3 (Nat.le_of_ble_eq_true rfl) rfl ?_
  refine j_lload_n d_Math_floorMod_5 1 rfl ?_
  refine j_lload_n d_Math_floorMod_6 2 rfl ?_
  refine j_lxor d_Math_floorMod_7 ?_
  refine j_lconst d_Math_floorMod_8 (v := 0) (by decide) ?_
  refine j_lcmp d_Math_floorMod_9 ?_
  by_cases g0 : 0 ≤ lg_cmp (x ^^^ y) 0
  · refine j_if_ge_t (tgt := 25) d_Math_floorMod_10 (by decide) g0 ?_
    refine j_lload d_Math_floorMod_25 0 rfl ?_
    exact j_lret rfl d_Math_floorMod_27 ⟨congrArg (fun z => some (Value.long z)) (show _ = jfm x y from (if_pos g0).symm), rfl, rfl⟩
  by_cases g1 : lg_cmp (jr1 x y) 0 = 0
  · refine j_if_ge_f (tgt := 25) d_Math_floorMod_10 (by decide) g0 ?_
    refine j_lload d_Math_floorMod_13 0 rfl ?_
    refine j_lconst d_Math_floorMod_15 (v := 0) (by decide) ?_
    refine j_lcmp d_Math_floorMod_16 ?_
    refine j_if_eq_t (tgt := 25) d_Math_floorMod_17 (by decide) g1 ?_
    refine j_lload d_Math_floorMod_25 0 rfl ?_
    exact j_lret rfl d_Math_floorMod_27 ⟨congrArg (fun z => some (Value.long z)) (show _ = jfm x y from ((if_neg g0).trans (if_pos g1)).symm), rfl, rfl⟩
  · refine j_if_ge_f (tgt := 25) d_Math_floorMod_10 (by decide) g0 ?_
    refine j_lload d_Math_floorMod_13 0 rfl ?_
    refine j_lconst d_Math_floorMod_15 (v := 0) (by decide) ?_
    refine j_lcmp d_Math_floorMod_16 ?_
    refine j_if_eq_f (tgt := 25) d_Math_floorMod_17 (by decide) g1 ?_
    refine j_lload d_Math_floorMod_20 0 rfl ?_
    refine j_lload_n d_Math_floorMod_22 2 rfl ?_
    refine j_ladd d_Math_floorMod_23 ?_
    exact j_lret rfl d_Math_floorMod_24 ⟨congrArg (fun z => some (Value.long z)) (show _ = jfm x y from ((if_neg g0).trans (if_neg g1)).symm), rfl, rfl⟩
set_option maxHeartbeats 4000000 in
set_option maxRecDepth 100000 in
theorem k_value (l : Launch) {b : Nat} {D : va_G} {Y : Nat → ClassId} {s0 : State} (Z : jS0 b D Y s0) (d n : Nat) (h : jH) (HD : jDesk Y h d) (x0 : Int64) (m0 : Int32) (h1 : 1 ≤ m0) (hm : ¬ m0.toInt64 = 0) : jMet l D s0 y_Desk_value c_Desk_value 11 (some .long) 6 [.ref d, .long x0, .int m0] h n 0 0 (fun r h2 n2 => r = some (.long (jfm (0 * jfm x0 m0.toInt64 + 1) m0.toInt64)) ∧ n = n2 ∧ ∀ x, (x < d ∨ d + 208 ≤ x) → h2 x = h x) := by
  refine jMet_of Z (by decide) (Nat.le_of_ble_eq_true rfl) ?_
  intro p e s m below meth c
  obtain ⟨D0, D1, D2, D3, D8, D9, D10, D37, D38, D202, D203⟩ := HD
  refine j_iload_n d_Desk_value_0 2 rfl ?_
  refine j_iconst d_Desk_value_1 (v := 1) (by decide) ?_
  refine j_icmp_ge_t (tgt := 15) d_Desk_value_2 (by decide) h1 ?_
  refine j_iload_n d_Desk_value_15 2 rfl ?_
  refine j_i2l d_Desk_value_16 rfl ?_
  refine j_lstore d_Desk_value_17 (Nat.le_of_ble_eq_true rfl) rfl ?_
  refine j_lload_n d_Desk_value_19 2 rfl ?_
  refine j_lload d_Desk_value_20 0 rfl ?_
  refine j_callS (k_floorMod l Z _ _ _ _ hm) ⟨⟨Nat.le_of_ble_eq_true rfl, Nat.le_of_ble_eq_true rfl⟩, g_848, g_416, g_17, (by decide +kernel), (by decide +kernel), (show _ = some 2 from by decide +kernel)⟩ g_415 ⟨(by first | exact Nat.le_of_ble_eq_true rfl | (simp only [jrm]; omega)), (by first | exact Nat.le_of_ble_eq_true rfl | (simp only [jrm]; omega))⟩ (Nat.le_of_ble_eq_true rfl) d_Desk_value_22 (fun r501 h501 n501 P501 => ?_)
  obtain ⟨rfl, rfl, rfl⟩ := P501
  refine j_lstore d_Desk_value_25 (Nat.le_of_ble_eq_true rfl) rfl ?_
  refine j_lconst d_Desk_value_27 (v := 0) (by decide) ?_
  refine j_lstore d_Desk_value_28 (Nat.le_of_ble_eq_true rfl) rfl ?_
  refine j_aload_n d_Desk_value_30 3 rfl ?_
  refine j_get iw_Desk (ci := 8) (kf := 2) rfl (by decide) g_306 d_Desk_value_31 D0 rfl ?_
  refine j_get iw_Poly (ci := 0) (kf := 1) rfl (by decide) g_48 d_Desk_value_34 D2 rfl ?_
  refine j_istore d_Desk_value_37 (Nat.le_of_ble_eq_true rfl) rfl ?_
  refine j_iload d_Desk_value_39 0 rfl ?_
  refine j_if_lt_f (tgt := 73) d_Desk_value_41 (by decide) (by decide) ?_
  refine j_lload d_Desk_value_44 1 rfl ?_
  refine j_lload d_Desk_value_46 2 rfl ?_
  refine j_lmul d_Desk_value_48 ?_
  refine j_aload_n d_Desk_value_49 4 rfl ?_
  refine j_get iw_Desk (ci := 8) (kf := 2) rfl (by decide) g_306 d_Desk_value_50 D0 rfl ?_
  refine j_get iw_Poly (ci := 0) (kf := 0) rfl (by decide) g_39 d_Desk_value_53 D2 rfl ?_
  refine j_iload d_Desk_value_56 0 rfl ?_
  refine j_lald d_Desk_value_58 D3 (by unfold vp_in; decide) ?_
  refine j_ladd d_Desk_value_59 ?_
  refine j_lload d_Desk_value_60 3 rfl ?_
  refine j_callS (k_floorMod l Z _ _ _ _ hm) ⟨⟨Nat.le_of_ble_eq_true rfl, Nat.le_of_ble_eq_true rfl⟩, g_848, g_416, g_17, (by decide +kernel), (by decide +kernel), (show _ = some 2 from by decide +kernel)⟩ g_415 ⟨(by first | exact Nat.le_of_ble_eq_true rfl | (simp only [jrm]; omega)), (by first | exact Nat.le_of_ble_eq_true rfl | (simp only [jrm]; omega))⟩ (Nat.le_of_ble_eq_true rfl) d_Desk_value_62 (fun r502 h502 n502 P502 => ?_)
  obtain ⟨rfl, rfl, rfl⟩ := P502
  refine j_lstore d_Desk_value_65 (Nat.le_of_ble_eq_true rfl) rfl ?_
  refine j_iinc d_Desk_value_67 1 rfl rfl (Nat.le_of_ble_eq_true rfl) rfl ?_
  refine j_goto (tgt := 39) d_Desk_value_70 (by decide) ?_
  refine j_iload d_Desk_value_39 0 rfl ?_
  refine j_if_lt_t (tgt := 73) d_Desk_value_41 (by decide) (by decide) ?_
  refine j_lload d_Desk_value_73 1 rfl ?_
  exact j_lret rfl d_Desk_value_75 ⟨rfl, rfl, fun x hx => rfl⟩
set_option maxHeartbeats 4000000 in
set_option maxRecDepth 100000 in
theorem x_value (l : Launch) {b : Nat} {D : va_G} {Y : Nat → ClassId} {s0 : State} (Z : jS0 b D Y s0) (hlt : l.stackTraces = false) (d n : Nat) (h : jH) (HD : jDesk Y h d) (x0 : Int64) (m0 : Int32) (h1 : ¬ 1 ≤ m0) : jMetX l D s0 y_Desk_value c_Desk_value 11 (some .long) 6 [.ref d, .long x0, .int m0] h n 1 6 "java/lang/IllegalArgumentException" (fun h2 n2 => h2 = h ∧ n2 = n + 1) := by
  refine jMetX_of Z (by decide) (Nat.le_of_ble_eq_true rfl) ?_
  intro p e s m below meth c hnl
  obtain ⟨D0, D1, D2, D3, D8, D9, D10, D37, D38, D202, D203⟩ := HD
  refine j_iload_n d_Desk_value_0 2 rfl ?_
  refine j_iconst d_Desk_value_1 (v := 1) (by decide) ?_
  refine j_icmp_ge_f (tgt := 15) d_Desk_value_2 (by decide) h1 ?_
  exact j_throwS hlt hnl hat_IAE hca_IAE hdc_IAE (by decide +kernel) jNm_fit g_721 g_722 g_15 hsr_167 hsx_167 d_Desk_value_5 d_Desk_value_8 d_Desk_value_9 d_Desk_value_11 d_Desk_value_14 (Nat.le_of_ble_eq_true rfl) (Nat.le_of_ble_eq_true rfl) (Nat.le_of_ble_eq_true rfl) (Nat.le_of_ble_eq_true rfl) ⟨rfl, rfl⟩
end
section
abbrev c_Modl_fails : ByteArray := prog_11_method_3_code
abbrev y_Modl_fails : MethodName := ⟨"FactorDeskModel", "fails", "(ZI)Z"⟩
theorem d_Modl_fails_0 : decode c_Modl_fails 0 = .ok (.aload_n 0, 1) := by decide +kernel
theorem d_Modl_fails_1 : decode c_Modl_fails 1 = .ok (.iload_n 1, 1) := by decide +kernel
theorem d_Modl_fails_2 : decode c_Modl_fails 2 = .ok (.ifCond .eq 7, 3) := by decide +kernel
theorem d_Modl_fails_5 : decode c_Modl_fails 5 = .ok (.iload_n 2, 1) := by decide +kernel
theorem d_Modl_fails_6 : decode c_Modl_fails 6 = .ok (.goto 4, 3) := by decide +kernel
theorem d_Modl_fails_9 : decode c_Modl_fails 9 = .ok (.iconst 0, 1) := by decide +kernel
theorem d_Modl_fails_10 : decode c_Modl_fails 10 = .ok (.putfield 82, 3) := by decide +kernel
theorem d_Modl_fails_13 : decode c_Modl_fails 13 = .ok (.iload_n 1, 1) := by decide +kernel
theorem d_Modl_fails_14 : decode c_Modl_fails 14 = .ok (.ireturn, 1) := by decide +kernel
abbrev c_Modl_thrown : ByteArray := prog_11_method_2_code
abbrev y_Modl_thrown : MethodName := ⟨"FactorDeskModel", "thrown", "()I"⟩
theorem d_Modl_thrown_0 : decode c_Modl_thrown 0 = .ok (.aload_n 0, 1) := by decide +kernel
theorem d_Modl_thrown_1 : decode c_Modl_thrown 1 = .ok (.getfield 82, 3) := by decide +kernel
theorem d_Modl_thrown_4 : decode c_Modl_thrown 4 = .ok (.ireturn, 1) := by decide +kernel
abbrev c_Modl_put : ByteArray := prog_11_method_49_code
abbrev y_Modl_put : MethodName := ⟨"FactorDeskModel", "put", "(I)I"⟩
theorem d_Modl_put_0 : decode c_Modl_put 0 = .ok (.aload_n 0, 1) := by decide +kernel
theorem d_Modl_put_1 : decode c_Modl_put 1 = .ok (.aload_n 0, 1) := by decide +kernel
theorem d_Modl_put_2 : decode c_Modl_put 2 = .ok (.getfield 271, 3) := by decide +kernel
theorem d_Modl_put_5 : decode c_Modl_put 5 = .ok (.bipush 13, 2) := by decide +kernel
theorem d_Modl_put_7 : decode c_Modl_put 7 = .ok (.if_icmp .ne 7, 3) := by decide +kernel
theorem d_Modl_put_10 : decode c_Modl_put 10 = .ok (.iconst 1, 1) := by decide +kernel
theorem d_Modl_put_11 : decode c_Modl_put 11 = .ok (.goto 4, 3) := by decide +kernel
theorem d_Modl_put_14 : decode c_Modl_put 14 = .ok (.iconst 0, 1) := by decide +kernel
theorem d_Modl_put_15 : decode c_Modl_put 15 = .ok (.iconst 1, 1) := by decide +kernel
theorem d_Modl_put_16 : decode c_Modl_put 16 = .ok (.invokevirtual 274, 3) := by decide +kernel
theorem d_Modl_put_19 : decode c_Modl_put 19 = .ok (.ifCond .eq 5, 3) := by decide +kernel
theorem d_Modl_put_22 : decode c_Modl_put 22 = .ok (.iconst 0, 1) := by decide +kernel
theorem d_Modl_put_23 : decode c_Modl_put 23 = .ok (.ireturn, 1) := by decide +kernel
theorem d_Modl_put_24 : decode c_Modl_put 24 = .ok (.aload_n 0, 1) := by decide +kernel
theorem d_Modl_put_25 : decode c_Modl_put 25 = .ok (.getfield 9, 3) := by decide +kernel
theorem d_Modl_put_28 : decode c_Modl_put 28 = .ok (.aload_n 0, 1) := by decide +kernel
theorem d_Modl_put_29 : decode c_Modl_put 29 = .ok (.getfield 271, 3) := by decide +kernel
theorem d_Modl_put_32 : decode c_Modl_put 32 = .ok (.iload_n 1, 1) := by decide +kernel
theorem d_Modl_put_33 : decode c_Modl_put 33 = .ok (.i2l, 1) := by decide +kernel
theorem d_Modl_put_34 : decode c_Modl_put 34 = .ok (.lastore, 1) := by decide +kernel
theorem d_Modl_put_35 : decode c_Modl_put 35 = .ok (.aload_n 0, 1) := by decide +kernel
theorem d_Modl_put_36 : decode c_Modl_put 36 = .ok (.dup, 1) := by decide +kernel
theorem d_Modl_put_37 : decode c_Modl_put 37 = .ok (.getfield 271, 3) := by decide +kernel
theorem d_Modl_put_40 : decode c_Modl_put 40 = .ok (.iconst 1, 1) := by decide +kernel
theorem d_Modl_put_41 : decode c_Modl_put 41 = .ok (.iadd, 1) := by decide +kernel
theorem d_Modl_put_42 : decode c_Modl_put 42 = .ok (.putfield 271, 3) := by decide +kernel
theorem d_Modl_put_45 : decode c_Modl_put 45 = .ok (.aload_n 0, 1) := by decide +kernel
theorem d_Modl_put_46 : decode c_Modl_put 46 = .ok (.getfield 271, 3) := by decide +kernel
theorem d_Modl_put_49 : decode c_Modl_put 49 = .ok (.ireturn, 1) := by decide +kernel
abbrev c_Modl_clear : ByteArray := prog_11_method_50_code
abbrev y_Modl_clear : MethodName := ⟨"FactorDeskModel", "clear", "()I"⟩
theorem d_Modl_clear_0 : decode c_Modl_clear 0 = .ok (.aload_n 0, 1) := by decide +kernel
theorem d_Modl_clear_1 : decode c_Modl_clear 1 = .ok (.iconst 0, 1) := by decide +kernel
theorem d_Modl_clear_2 : decode c_Modl_clear 2 = .ok (.putfield 82, 3) := by decide +kernel
theorem d_Modl_clear_5 : decode c_Modl_clear 5 = .ok (.aload_n 0, 1) := by decide +kernel
theorem d_Modl_clear_6 : decode c_Modl_clear 6 = .ok (.getfield 271, 3) := by decide +kernel
theorem d_Modl_clear_9 : decode c_Modl_clear 9 = .ok (.istore_n 1, 1) := by decide +kernel
theorem d_Modl_clear_10 : decode c_Modl_clear 10 = .ok (.aload_n 0, 1) := by decide +kernel
theorem d_Modl_clear_11 : decode c_Modl_clear 11 = .ok (.iconst 0, 1) := by decide +kernel
theorem d_Modl_clear_12 : decode c_Modl_clear 12 = .ok (.putfield 271, 3) := by decide +kernel
theorem d_Modl_clear_15 : decode c_Modl_clear 15 = .ok (.iload_n 1, 1) := by decide +kernel
theorem d_Modl_clear_16 : decode c_Modl_clear 16 = .ok (.ireturn, 1) := by decide +kernel
abbrev c_Modl_tapeDegree : ByteArray := prog_11_method_51_code
abbrev y_Modl_tapeDegree : MethodName := ⟨"FactorDeskModel", "tapeDegree", "()I"⟩
theorem d_Modl_tapeDegree_0 : decode c_Modl_tapeDegree 0 = .ok (.aload_n 0, 1) := by decide +kernel
theorem d_Modl_tapeDegree_1 : decode c_Modl_tapeDegree 1 = .ok (.getfield 271, 3) := by decide +kernel
theorem d_Modl_tapeDegree_4 : decode c_Modl_tapeDegree 4 = .ok (.iconst 1, 1) := by decide +kernel
theorem d_Modl_tapeDegree_5 : decode c_Modl_tapeDegree 5 = .ok (.isub, 1) := by decide +kernel
theorem d_Modl_tapeDegree_6 : decode c_Modl_tapeDegree 6 = .ok (.istore_n 1, 1) := by decide +kernel
theorem d_Modl_tapeDegree_7 : decode c_Modl_tapeDegree 7 = .ok (.iload_n 1, 1) := by decide +kernel
theorem d_Modl_tapeDegree_8 : decode c_Modl_tapeDegree 8 = .ok (.ifCond .lt 20, 3) := by decide +kernel
theorem d_Modl_tapeDegree_11 : decode c_Modl_tapeDegree 11 = .ok (.aload_n 0, 1) := by decide +kernel
theorem d_Modl_tapeDegree_12 : decode c_Modl_tapeDegree 12 = .ok (.getfield 9, 3) := by decide +kernel
theorem d_Modl_tapeDegree_15 : decode c_Modl_tapeDegree 15 = .ok (.iload_n 1, 1) := by decide +kernel
theorem d_Modl_tapeDegree_16 : decode c_Modl_tapeDegree 16 = .ok (.laload, 1) := by decide +kernel
theorem d_Modl_tapeDegree_17 : decode c_Modl_tapeDegree 17 = .ok (.lconst 0, 1) := by decide +kernel
theorem d_Modl_tapeDegree_18 : decode c_Modl_tapeDegree 18 = .ok (.lcmp, 1) := by decide +kernel
theorem d_Modl_tapeDegree_19 : decode c_Modl_tapeDegree 19 = .ok (.ifCond .ne 9, 3) := by decide +kernel
theorem d_Modl_tapeDegree_22 : decode c_Modl_tapeDegree 22 = .ok (.iinc 1 (-1), 3) := by decide +kernel
theorem d_Modl_tapeDegree_25 : decode c_Modl_tapeDegree 25 = .ok (.goto (-18), 3) := by decide +kernel
theorem d_Modl_tapeDegree_28 : decode c_Modl_tapeDegree 28 = .ok (.iload_n 1, 1) := by decide +kernel
theorem d_Modl_tapeDegree_29 : decode c_Modl_tapeDegree 29 = .ok (.ireturn, 1) := by decide +kernel
abbrev c_Modl_take : ByteArray := prog_11_method_52_code
abbrev y_Modl_take : MethodName := ⟨"FactorDeskModel", "take", "()I"⟩
theorem d_Modl_take_0 : decode c_Modl_take 0 = .ok (.aload_n 0, 1) := by decide +kernel
theorem d_Modl_take_1 : decode c_Modl_take 1 = .ok (.invokevirtual 278, 3) := by decide +kernel
theorem d_Modl_take_4 : decode c_Modl_take 4 = .ok (.istore_n 1, 1) := by decide +kernel
theorem d_Modl_take_5 : decode c_Modl_take 5 = .ok (.aload_n 0, 1) := by decide +kernel
theorem d_Modl_take_6 : decode c_Modl_take 6 = .ok (.iload_n 1, 1) := by decide +kernel
theorem d_Modl_take_7 : decode c_Modl_take 7 = .ok (.ifCond .ge 7, 3) := by decide +kernel
theorem d_Modl_take_10 : decode c_Modl_take 10 = .ok (.iconst 1, 1) := by decide +kernel
theorem d_Modl_take_11 : decode c_Modl_take 11 = .ok (.goto 4, 3) := by decide +kernel
theorem d_Modl_take_14 : decode c_Modl_take 14 = .ok (.iconst 0, 1) := by decide +kernel
theorem d_Modl_take_15 : decode c_Modl_take 15 = .ok (.iconst 1, 1) := by decide +kernel
theorem d_Modl_take_16 : decode c_Modl_take 16 = .ok (.invokevirtual 274, 3) := by decide +kernel
theorem d_Modl_take_19 : decode c_Modl_take 19 = .ok (.ifCond .eq 5, 3) := by decide +kernel
theorem d_Modl_take_22 : decode c_Modl_take 22 = .ok (.iconst 0, 1) := by decide +kernel
theorem d_Modl_take_23 : decode c_Modl_take 23 = .ok (.ireturn, 1) := by decide +kernel
theorem d_Modl_take_24 : decode c_Modl_take 24 = .ok (.aload_n 0, 1) := by decide +kernel
theorem d_Modl_take_25 : decode c_Modl_take 25 = .ok (.iload_n 1, 1) := by decide +kernel
theorem d_Modl_take_26 : decode c_Modl_take 26 = .ok (.putfield 153, 3) := by decide +kernel
theorem d_Modl_take_29 : decode c_Modl_take 29 = .ok (.iconst 0, 1) := by decide +kernel
theorem d_Modl_take_30 : decode c_Modl_take 30 = .ok (.istore_n 2, 1) := by decide +kernel
theorem d_Modl_take_31 : decode c_Modl_take 31 = .ok (.iload_n 2, 1) := by decide +kernel
theorem d_Modl_take_32 : decode c_Modl_take 32 = .ok (.bipush 13, 2) := by decide +kernel
theorem d_Modl_take_34 : decode c_Modl_take 34 = .ok (.if_icmp .ge 30, 3) := by decide +kernel
theorem d_Modl_take_37 : decode c_Modl_take 37 = .ok (.aload_n 0, 1) := by decide +kernel
theorem d_Modl_take_38 : decode c_Modl_take 38 = .ok (.getfield 13, 3) := by decide +kernel
theorem d_Modl_take_41 : decode c_Modl_take 41 = .ok (.iload_n 2, 1) := by decide +kernel
theorem d_Modl_take_42 : decode c_Modl_take 42 = .ok (.iload_n 2, 1) := by decide +kernel
theorem d_Modl_take_43 : decode c_Modl_take 43 = .ok (.iload_n 1, 1) := by decide +kernel
theorem d_Modl_take_44 : decode c_Modl_take 44 = .ok (.if_icmp .gt 12, 3) := by decide +kernel
theorem d_Modl_take_47 : decode c_Modl_take 47 = .ok (.aload_n 0, 1) := by decide +kernel
theorem d_Modl_take_48 : decode c_Modl_take 48 = .ok (.getfield 9, 3) := by decide +kernel
theorem d_Modl_take_51 : decode c_Modl_take 51 = .ok (.iload_n 2, 1) := by decide +kernel
theorem d_Modl_take_52 : decode c_Modl_take 52 = .ok (.laload, 1) := by decide +kernel
theorem d_Modl_take_53 : decode c_Modl_take 53 = .ok (.goto 4, 3) := by decide +kernel
theorem d_Modl_take_56 : decode c_Modl_take 56 = .ok (.lconst 0, 1) := by decide +kernel
theorem d_Modl_take_57 : decode c_Modl_take 57 = .ok (.lastore, 1) := by decide +kernel
theorem d_Modl_take_58 : decode c_Modl_take 58 = .ok (.iinc 2 1, 3) := by decide +kernel
theorem d_Modl_take_61 : decode c_Modl_take 61 = .ok (.goto (-30), 3) := by decide +kernel
theorem d_Modl_take_64 : decode c_Modl_take 64 = .ok (.aload_n 0, 1) := by decide +kernel
theorem d_Modl_take_65 : decode c_Modl_take 65 = .ok (.iconst 0, 1) := by decide +kernel
theorem d_Modl_take_66 : decode c_Modl_take 66 = .ok (.putfield 271, 3) := by decide +kernel
theorem d_Modl_take_69 : decode c_Modl_take 69 = .ok (.iload_n 1, 1) := by decide +kernel
theorem d_Modl_take_70 : decode c_Modl_take 70 = .ok (.ireturn, 1) := by decide +kernel
abbrev c_Modl_times : ByteArray := prog_11_method_53_code
abbrev y_Modl_times : MethodName := ⟨"FactorDeskModel", "times", "()I"⟩
theorem d_Modl_times_0 : decode c_Modl_times 0 = .ok (.aload_n 0, 1) := by decide +kernel
theorem d_Modl_times_1 : decode c_Modl_times 1 = .ok (.invokevirtual 278, 3) := by decide +kernel
theorem d_Modl_times_4 : decode c_Modl_times 4 = .ok (.istore_n 1, 1) := by decide +kernel
theorem d_Modl_times_5 : decode c_Modl_times 5 = .ok (.aload_n 0, 1) := by decide +kernel
theorem d_Modl_times_6 : decode c_Modl_times 6 = .ok (.iload_n 1, 1) := by decide +kernel
theorem d_Modl_times_7 : decode c_Modl_times 7 = .ok (.ifCond .ge 7, 3) := by decide +kernel
theorem d_Modl_times_10 : decode c_Modl_times 10 = .ok (.iconst 1, 1) := by decide +kernel
theorem d_Modl_times_11 : decode c_Modl_times 11 = .ok (.goto 4, 3) := by decide +kernel
theorem d_Modl_times_14 : decode c_Modl_times 14 = .ok (.iconst 0, 1) := by decide +kernel
theorem d_Modl_times_15 : decode c_Modl_times 15 = .ok (.iconst 1, 1) := by decide +kernel
theorem d_Modl_times_16 : decode c_Modl_times 16 = .ok (.invokevirtual 274, 3) := by decide +kernel
theorem d_Modl_times_19 : decode c_Modl_times 19 = .ok (.ifCond .ne 27, 3) := by decide +kernel
theorem d_Modl_times_22 : decode c_Modl_times 22 = .ok (.aload_n 0, 1) := by decide +kernel
theorem d_Modl_times_23 : decode c_Modl_times 23 = .ok (.iload_n 1, 1) := by decide +kernel
theorem d_Modl_times_24 : decode c_Modl_times 24 = .ok (.aload_n 0, 1) := by decide +kernel
theorem d_Modl_times_25 : decode c_Modl_times 25 = .ok (.getfield 153, 3) := by decide +kernel
theorem d_Modl_times_28 : decode c_Modl_times 28 = .ok (.iadd, 1) := by decide +kernel
theorem d_Modl_times_29 : decode c_Modl_times 29 = .ok (.bipush 12, 2) := by decide +kernel
theorem d_Modl_times_31 : decode c_Modl_times 31 = .ok (.if_icmp .le 7, 3) := by decide +kernel
theorem d_Modl_times_34 : decode c_Modl_times 34 = .ok (.iconst 1, 1) := by decide +kernel
theorem d_Modl_times_35 : decode c_Modl_times 35 = .ok (.goto 4, 3) := by decide +kernel
theorem d_Modl_times_38 : decode c_Modl_times 38 = .ok (.iconst 0, 1) := by decide +kernel
theorem d_Modl_times_39 : decode c_Modl_times 39 = .ok (.iconst 2, 1) := by decide +kernel
theorem d_Modl_times_40 : decode c_Modl_times 40 = .ok (.invokevirtual 274, 3) := by decide +kernel
theorem d_Modl_times_43 : decode c_Modl_times 43 = .ok (.ifCond .eq 5, 3) := by decide +kernel
theorem d_Modl_times_46 : decode c_Modl_times 46 = .ok (.iconst 0, 1) := by decide +kernel
theorem d_Modl_times_47 : decode c_Modl_times 47 = .ok (.ireturn, 1) := by decide +kernel
theorem d_Modl_times_48 : decode c_Modl_times 48 = .ok (.iconst 1, 1) := by decide +kernel
theorem d_Modl_times_49 : decode c_Modl_times 49 = .ok (.istore_n 2, 1) := by decide +kernel
theorem d_Modl_times_50 : decode c_Modl_times 50 = .ok (.iconst 0, 1) := by decide +kernel
theorem d_Modl_times_51 : decode c_Modl_times 51 = .ok (.istore_n 3, 1) := by decide +kernel
theorem d_Modl_times_52 : decode c_Modl_times 52 = .ok (.iload_n 3, 1) := by decide +kernel
theorem d_Modl_times_53 : decode c_Modl_times 53 = .ok (.iload_n 1, 1) := by decide +kernel
theorem d_Modl_times_54 : decode c_Modl_times 54 = .ok (.aload_n 0, 1) := by decide +kernel
theorem d_Modl_times_55 : decode c_Modl_times 55 = .ok (.getfield 153, 3) := by decide +kernel
theorem d_Modl_times_58 : decode c_Modl_times 58 = .ok (.iadd, 1) := by decide +kernel
theorem d_Modl_times_59 : decode c_Modl_times 59 = .ok (.if_icmp .gt 167, 3) := by decide +kernel
theorem d_Modl_times_62 : decode c_Modl_times 62 = .ok (.lconst 0, 1) := by decide +kernel
theorem d_Modl_times_63 : decode c_Modl_times 63 = .ok (.lstore 4, 2) := by decide +kernel
theorem d_Modl_times_65 : decode c_Modl_times 65 = .ok (.lconst 0, 1) := by decide +kernel
theorem d_Modl_times_66 : decode c_Modl_times 66 = .ok (.lstore 6, 2) := by decide +kernel
theorem d_Modl_times_68 : decode c_Modl_times 68 = .ok (.iconst 0, 1) := by decide +kernel
theorem d_Modl_times_69 : decode c_Modl_times 69 = .ok (.istore 8, 2) := by decide +kernel
theorem d_Modl_times_71 : decode c_Modl_times 71 = .ok (.iload 8, 2) := by decide +kernel
theorem d_Modl_times_73 : decode c_Modl_times 73 = .ok (.iload_n 3, 1) := by decide +kernel
theorem d_Modl_times_74 : decode c_Modl_times 74 = .ok (.if_icmp .gt 70, 3) := by decide +kernel
theorem d_Modl_times_77 : decode c_Modl_times 77 = .ok (.iload 8, 2) := by decide +kernel
theorem d_Modl_times_79 : decode c_Modl_times 79 = .ok (.aload_n 0, 1) := by decide +kernel
theorem d_Modl_times_80 : decode c_Modl_times 80 = .ok (.getfield 153, 3) := by decide +kernel
theorem d_Modl_times_83 : decode c_Modl_times 83 = .ok (.if_icmp .gt 61, 3) := by decide +kernel
theorem d_Modl_times_86 : decode c_Modl_times 86 = .ok (.iload_n 3, 1) := by decide +kernel
theorem d_Modl_times_87 : decode c_Modl_times 87 = .ok (.iload 8, 2) := by decide +kernel
theorem d_Modl_times_89 : decode c_Modl_times 89 = .ok (.isub, 1) := by decide +kernel
theorem d_Modl_times_90 : decode c_Modl_times 90 = .ok (.iload_n 1, 1) := by decide +kernel
theorem d_Modl_times_91 : decode c_Modl_times 91 = .ok (.if_icmp .gt 23, 3) := by decide +kernel
theorem d_Modl_times_94 : decode c_Modl_times 94 = .ok (.aload_n 0, 1) := by decide +kernel
theorem d_Modl_times_95 : decode c_Modl_times 95 = .ok (.getfield 13, 3) := by decide +kernel
theorem d_Modl_times_98 : decode c_Modl_times 98 = .ok (.iload 8, 2) := by decide +kernel
theorem d_Modl_times_100 : decode c_Modl_times 100 = .ok (.laload, 1) := by decide +kernel
theorem d_Modl_times_101 : decode c_Modl_times 101 = .ok (.aload_n 0, 1) := by decide +kernel
theorem d_Modl_times_102 : decode c_Modl_times 102 = .ok (.getfield 9, 3) := by decide +kernel
theorem d_Modl_times_105 : decode c_Modl_times 105 = .ok (.iload_n 3, 1) := by decide +kernel
theorem d_Modl_times_106 : decode c_Modl_times 106 = .ok (.iload 8, 2) := by decide +kernel
theorem d_Modl_times_108 : decode c_Modl_times 108 = .ok (.isub, 1) := by decide +kernel
theorem d_Modl_times_109 : decode c_Modl_times 109 = .ok (.laload, 1) := by decide +kernel
theorem d_Modl_times_110 : decode c_Modl_times 110 = .ok (.lmul, 1) := by decide +kernel
theorem d_Modl_times_111 : decode c_Modl_times 111 = .ok (.goto 4, 3) := by decide +kernel
theorem d_Modl_times_114 : decode c_Modl_times 114 = .ok (.lconst 0, 1) := by decide +kernel
theorem d_Modl_times_115 : decode c_Modl_times 115 = .ok (.lstore 9, 2) := by decide +kernel
theorem d_Modl_times_117 : decode c_Modl_times 117 = .ok (.lload 4, 2) := by decide +kernel
theorem d_Modl_times_119 : decode c_Modl_times 119 = .ok (.lload 9, 2) := by decide +kernel
theorem d_Modl_times_121 : decode c_Modl_times 121 = .ok (.bipush 32, 2) := by decide +kernel
theorem d_Modl_times_123 : decode c_Modl_times 123 = .ok (.lshr, 1) := by decide +kernel
theorem d_Modl_times_124 : decode c_Modl_times 124 = .ok (.ladd, 1) := by decide +kernel
theorem d_Modl_times_125 : decode c_Modl_times 125 = .ok (.lstore 4, 2) := by decide +kernel
theorem d_Modl_times_127 : decode c_Modl_times 127 = .ok (.lload 6, 2) := by decide +kernel
theorem d_Modl_times_129 : decode c_Modl_times 129 = .ok (.lload 9, 2) := by decide +kernel
theorem d_Modl_times_131 : decode c_Modl_times 131 = .ok (.ldc2_w 282, 3) := by decide +kernel
theorem d_Modl_times_134 : decode c_Modl_times 134 = .ok (.land, 1) := by decide +kernel
theorem d_Modl_times_135 : decode c_Modl_times 135 = .ok (.ladd, 1) := by decide +kernel
theorem d_Modl_times_136 : decode c_Modl_times 136 = .ok (.lstore 6, 2) := by decide +kernel
theorem d_Modl_times_138 : decode c_Modl_times 138 = .ok (.iinc 8 1, 3) := by decide +kernel
theorem d_Modl_times_141 : decode c_Modl_times 141 = .ok (.goto (-70), 3) := by decide +kernel
theorem d_Modl_times_144 : decode c_Modl_times 144 = .ok (.lload 4, 2) := by decide +kernel
theorem d_Modl_times_146 : decode c_Modl_times 146 = .ok (.lload 6, 2) := by decide +kernel
theorem d_Modl_times_148 : decode c_Modl_times 148 = .ok (.bipush 32, 2) := by decide +kernel
theorem d_Modl_times_150 : decode c_Modl_times 150 = .ok (.lshr, 1) := by decide +kernel
theorem d_Modl_times_151 : decode c_Modl_times 151 = .ok (.ladd, 1) := by decide +kernel
theorem d_Modl_times_152 : decode c_Modl_times 152 = .ok (.lstore 4, 2) := by decide +kernel
theorem d_Modl_times_154 : decode c_Modl_times 154 = .ok (.lload 6, 2) := by decide +kernel
theorem d_Modl_times_156 : decode c_Modl_times 156 = .ok (.ldc2_w 282, 3) := by decide +kernel
theorem d_Modl_times_159 : decode c_Modl_times 159 = .ok (.land, 1) := by decide +kernel
theorem d_Modl_times_160 : decode c_Modl_times 160 = .ok (.lstore 6, 2) := by decide +kernel
theorem d_Modl_times_162 : decode c_Modl_times 162 = .ok (.iload_n 2, 1) := by decide +kernel
theorem d_Modl_times_163 : decode c_Modl_times 163 = .ok (.ifCond .eq 41, 3) := by decide +kernel
theorem d_Modl_times_166 : decode c_Modl_times 166 = .ok (.lload 4, 2) := by decide +kernel
theorem d_Modl_times_168 : decode c_Modl_times 168 = .ok (.lconst 0, 1) := by decide +kernel
theorem d_Modl_times_169 : decode c_Modl_times 169 = .ok (.lcmp, 1) := by decide +kernel
theorem d_Modl_times_170 : decode c_Modl_times 170 = .ok (.ifCond .ne 12, 3) := by decide +kernel
theorem d_Modl_times_173 : decode c_Modl_times 173 = .ok (.lload 6, 2) := by decide +kernel
theorem d_Modl_times_175 : decode c_Modl_times 175 = .ok (.ldc2_w 284, 3) := by decide +kernel
theorem d_Modl_times_178 : decode c_Modl_times 178 = .ok (.lcmp, 1) := by decide +kernel
theorem d_Modl_times_179 : decode c_Modl_times 179 = .ok (.ifCond .le 21, 3) := by decide +kernel
theorem d_Modl_times_182 : decode c_Modl_times 182 = .ok (.lload 4, 2) := by decide +kernel
theorem d_Modl_times_184 : decode c_Modl_times 184 = .ok (.ldc2_w 286, 3) := by decide +kernel
theorem d_Modl_times_187 : decode c_Modl_times 187 = .ok (.lcmp, 1) := by decide +kernel
theorem d_Modl_times_188 : decode c_Modl_times 188 = .ok (.ifCond .ne 16, 3) := by decide +kernel
theorem d_Modl_times_191 : decode c_Modl_times 191 = .ok (.lload 6, 2) := by decide +kernel
theorem d_Modl_times_193 : decode c_Modl_times 193 = .ok (.ldc2_w 288, 3) := by decide +kernel
theorem d_Modl_times_196 : decode c_Modl_times 196 = .ok (.lcmp, 1) := by decide +kernel
theorem d_Modl_times_197 : decode c_Modl_times 197 = .ok (.ifCond .lt 7, 3) := by decide +kernel
theorem d_Modl_times_200 : decode c_Modl_times 200 = .ok (.iconst 1, 1) := by decide +kernel
theorem d_Modl_times_201 : decode c_Modl_times 201 = .ok (.goto 4, 3) := by decide +kernel
theorem d_Modl_times_204 : decode c_Modl_times 204 = .ok (.iconst 0, 1) := by decide +kernel
theorem d_Modl_times_205 : decode c_Modl_times 205 = .ok (.istore_n 2, 1) := by decide +kernel
theorem d_Modl_times_206 : decode c_Modl_times 206 = .ok (.aload_n 0, 1) := by decide +kernel
theorem d_Modl_times_207 : decode c_Modl_times 207 = .ok (.getfield 67, 3) := by decide +kernel
theorem d_Modl_times_210 : decode c_Modl_times 210 = .ok (.iload_n 3, 1) := by decide +kernel
theorem d_Modl_times_211 : decode c_Modl_times 211 = .ok (.lload 4, 2) := by decide +kernel
theorem d_Modl_times_213 : decode c_Modl_times 213 = .ok (.bipush 32, 2) := by decide +kernel
theorem d_Modl_times_215 : decode c_Modl_times 215 = .ok (.lshl, 1) := by decide +kernel
theorem d_Modl_times_216 : decode c_Modl_times 216 = .ok (.lload 6, 2) := by decide +kernel
theorem d_Modl_times_218 : decode c_Modl_times 218 = .ok (.lor, 1) := by decide +kernel
theorem d_Modl_times_219 : decode c_Modl_times 219 = .ok (.lastore, 1) := by decide +kernel
theorem d_Modl_times_220 : decode c_Modl_times 220 = .ok (.iinc 3 1, 3) := by decide +kernel
theorem d_Modl_times_223 : decode c_Modl_times 223 = .ok (.goto (-171), 3) := by decide +kernel
theorem d_Modl_times_226 : decode c_Modl_times 226 = .ok (.aload_n 0, 1) := by decide +kernel
theorem d_Modl_times_227 : decode c_Modl_times 227 = .ok (.iload_n 2, 1) := by decide +kernel
theorem d_Modl_times_228 : decode c_Modl_times 228 = .ok (.ifCond .ne 7, 3) := by decide +kernel
theorem d_Modl_times_231 : decode c_Modl_times 231 = .ok (.iconst 1, 1) := by decide +kernel
theorem d_Modl_times_232 : decode c_Modl_times 232 = .ok (.goto 4, 3) := by decide +kernel
theorem d_Modl_times_235 : decode c_Modl_times 235 = .ok (.iconst 0, 1) := by decide +kernel
theorem d_Modl_times_236 : decode c_Modl_times 236 = .ok (.iconst 2, 1) := by decide +kernel
theorem d_Modl_times_237 : decode c_Modl_times 237 = .ok (.invokevirtual 274, 3) := by decide +kernel
theorem d_Modl_times_240 : decode c_Modl_times 240 = .ok (.ifCond .eq 5, 3) := by decide +kernel
theorem d_Modl_times_243 : decode c_Modl_times 243 = .ok (.iconst 0, 1) := by decide +kernel
theorem d_Modl_times_244 : decode c_Modl_times 244 = .ok (.ireturn, 1) := by decide +kernel
theorem d_Modl_times_245 : decode c_Modl_times 245 = .ok (.aload_n 0, 1) := by decide +kernel
theorem d_Modl_times_246 : decode c_Modl_times 246 = .ok (.dup, 1) := by decide +kernel
theorem d_Modl_times_247 : decode c_Modl_times 247 = .ok (.getfield 153, 3) := by decide +kernel
theorem d_Modl_times_250 : decode c_Modl_times 250 = .ok (.iload_n 1, 1) := by decide +kernel
theorem d_Modl_times_251 : decode c_Modl_times 251 = .ok (.iadd, 1) := by decide +kernel
theorem d_Modl_times_252 : decode c_Modl_times 252 = .ok (.putfield 153, 3) := by decide +kernel
theorem d_Modl_times_255 : decode c_Modl_times 255 = .ok (.iconst 0, 1) := by decide +kernel
theorem d_Modl_times_256 : decode c_Modl_times 256 = .ok (.istore_n 3, 1) := by decide +kernel
theorem d_Modl_times_257 : decode c_Modl_times 257 = .ok (.iload_n 3, 1) := by decide +kernel
theorem d_Modl_times_258 : decode c_Modl_times 258 = .ok (.bipush 13, 2) := by decide +kernel
theorem d_Modl_times_260 : decode c_Modl_times 260 = .ok (.if_icmp .ge 33, 3) := by decide +kernel
theorem d_Modl_times_263 : decode c_Modl_times 263 = .ok (.aload_n 0, 1) := by decide +kernel
theorem d_Modl_times_264 : decode c_Modl_times 264 = .ok (.getfield 13, 3) := by decide +kernel
theorem d_Modl_times_267 : decode c_Modl_times 267 = .ok (.iload_n 3, 1) := by decide +kernel
theorem d_Modl_times_268 : decode c_Modl_times 268 = .ok (.iload_n 3, 1) := by decide +kernel
theorem d_Modl_times_269 : decode c_Modl_times 269 = .ok (.aload_n 0, 1) := by decide +kernel
theorem d_Modl_times_270 : decode c_Modl_times 270 = .ok (.getfield 153, 3) := by decide +kernel
theorem d_Modl_times_273 : decode c_Modl_times 273 = .ok (.if_icmp .gt 12, 3) := by decide +kernel
theorem d_Modl_times_276 : decode c_Modl_times 276 = .ok (.aload_n 0, 1) := by decide +kernel
theorem d_Modl_times_277 : decode c_Modl_times 277 = .ok (.getfield 67, 3) := by decide +kernel
theorem d_Modl_times_280 : decode c_Modl_times 280 = .ok (.iload_n 3, 1) := by decide +kernel
theorem d_Modl_times_281 : decode c_Modl_times 281 = .ok (.laload, 1) := by decide +kernel
theorem d_Modl_times_282 : decode c_Modl_times 282 = .ok (.goto 4, 3) := by decide +kernel
theorem d_Modl_times_285 : decode c_Modl_times 285 = .ok (.lconst 0, 1) := by decide +kernel
theorem d_Modl_times_286 : decode c_Modl_times 286 = .ok (.lastore, 1) := by decide +kernel
theorem d_Modl_times_287 : decode c_Modl_times 287 = .ok (.iinc 3 1, 3) := by decide +kernel
theorem d_Modl_times_290 : decode c_Modl_times 290 = .ok (.goto (-33), 3) := by decide +kernel
theorem d_Modl_times_293 : decode c_Modl_times 293 = .ok (.aload_n 0, 1) := by decide +kernel
theorem d_Modl_times_294 : decode c_Modl_times 294 = .ok (.iconst 0, 1) := by decide +kernel
theorem d_Modl_times_295 : decode c_Modl_times 295 = .ok (.putfield 271, 3) := by decide +kernel
theorem d_Modl_times_298 : decode c_Modl_times 298 = .ok (.aload_n 0, 1) := by decide +kernel
theorem d_Modl_times_299 : decode c_Modl_times 299 = .ok (.getfield 153, 3) := by decide +kernel
theorem d_Modl_times_302 : decode c_Modl_times 302 = .ok (.ireturn, 1) := by decide +kernel
abbrev c_Modl_common : ByteArray := prog_11_method_62_code
abbrev y_Modl_common : MethodName := ⟨"FactorDeskModel", "common", "()I"⟩
theorem d_Modl_common_0 : decode c_Modl_common 0 = .ok (.aload_n 0, 1) := by decide +kernel
theorem d_Modl_common_1 : decode c_Modl_common 1 = .ok (.invokevirtual 278, 3) := by decide +kernel
theorem d_Modl_common_4 : decode c_Modl_common 4 = .ok (.istore_n 1, 1) := by decide +kernel
theorem d_Modl_common_5 : decode c_Modl_common 5 = .ok (.aload_n 0, 1) := by decide +kernel
theorem d_Modl_common_6 : decode c_Modl_common 6 = .ok (.iload_n 1, 1) := by decide +kernel
theorem d_Modl_common_7 : decode c_Modl_common 7 = .ok (.ifCond .ge 7, 3) := by decide +kernel
theorem d_Modl_common_10 : decode c_Modl_common 10 = .ok (.iconst 1, 1) := by decide +kernel
theorem d_Modl_common_11 : decode c_Modl_common 11 = .ok (.goto 4, 3) := by decide +kernel
theorem d_Modl_common_14 : decode c_Modl_common 14 = .ok (.iconst 0, 1) := by decide +kernel
theorem d_Modl_common_15 : decode c_Modl_common 15 = .ok (.iconst 1, 1) := by decide +kernel
theorem d_Modl_common_16 : decode c_Modl_common 16 = .ok (.invokevirtual 274, 3) := by decide +kernel
theorem d_Modl_common_19 : decode c_Modl_common 19 = .ok (.ifCond .eq 5, 3) := by decide +kernel
theorem d_Modl_common_22 : decode c_Modl_common 22 = .ok (.iconst 0, 1) := by decide +kernel
theorem d_Modl_common_23 : decode c_Modl_common 23 = .ok (.ireturn, 1) := by decide +kernel
theorem d_Modl_common_24 : decode c_Modl_common 24 = .ok (.aload_n 0, 1) := by decide +kernel
theorem d_Modl_common_25 : decode c_Modl_common 25 = .ok (.aload_n 0, 1) := by decide +kernel
theorem d_Modl_common_26 : decode c_Modl_common 26 = .ok (.getfield 13, 3) := by decide +kernel
theorem d_Modl_common_29 : decode c_Modl_common 29 = .ok (.aload_n 0, 1) := by decide +kernel
theorem d_Modl_common_30 : decode c_Modl_common 30 = .ok (.getfield 153, 3) := by decide +kernel
theorem d_Modl_common_33 : decode c_Modl_common 33 = .ok (.aload_n 0, 1) := by decide +kernel
theorem d_Modl_common_34 : decode c_Modl_common 34 = .ok (.getfield 9, 3) := by decide +kernel
theorem d_Modl_common_37 : decode c_Modl_common 37 = .ok (.iload_n 1, 1) := by decide +kernel
theorem d_Modl_common_38 : decode c_Modl_common 38 = .ok (.invokevirtual 252, 3) := by decide +kernel
theorem d_Modl_common_41 : decode c_Modl_common 41 = .ok (.istore_n 2, 1) := by decide +kernel
theorem d_Modl_common_42 : decode c_Modl_common 42 = .ok (.aload_n 0, 1) := by decide +kernel
theorem d_Modl_common_43 : decode c_Modl_common 43 = .ok (.iconst 3, 1) := by decide +kernel
theorem d_Modl_common_44 : decode c_Modl_common 44 = .ok (.aload_n 0, 1) := by decide +kernel
theorem d_Modl_common_45 : decode c_Modl_common 45 = .ok (.getfield 13, 3) := by decide +kernel
theorem d_Modl_common_48 : decode c_Modl_common 48 = .ok (.aload_n 0, 1) := by decide +kernel
theorem d_Modl_common_49 : decode c_Modl_common 49 = .ok (.getfield 153, 3) := by decide +kernel
theorem d_Modl_common_52 : decode c_Modl_common 52 = .ok (.invokevirtual 191, 3) := by decide +kernel
theorem d_Modl_common_55 : decode c_Modl_common 55 = .ok (.aload_n 0, 1) := by decide +kernel
theorem d_Modl_common_56 : decode c_Modl_common 56 = .ok (.iconst 4, 1) := by decide +kernel
theorem d_Modl_common_57 : decode c_Modl_common 57 = .ok (.aload_n 0, 1) := by decide +kernel
theorem d_Modl_common_58 : decode c_Modl_common 58 = .ok (.getfield 9, 3) := by decide +kernel
theorem d_Modl_common_61 : decode c_Modl_common 61 = .ok (.iload_n 1, 1) := by decide +kernel
theorem d_Modl_common_62 : decode c_Modl_common 62 = .ok (.invokevirtual 191, 3) := by decide +kernel
theorem d_Modl_common_65 : decode c_Modl_common 65 = .ok (.aload_n 0, 1) := by decide +kernel
theorem d_Modl_common_66 : decode c_Modl_common 66 = .ok (.iconst 5, 1) := by decide +kernel
theorem d_Modl_common_67 : decode c_Modl_common 67 = .ok (.iconst 3, 1) := by decide +kernel
theorem d_Modl_common_68 : decode c_Modl_common 68 = .ok (.iconst 4, 1) := by decide +kernel
theorem d_Modl_common_69 : decode c_Modl_common 69 = .ok (.invokevirtual 195, 3) := by decide +kernel
theorem d_Modl_common_72 : decode c_Modl_common 72 = .ok (.aload_n 0, 1) := by decide +kernel
theorem d_Modl_common_73 : decode c_Modl_common 73 = .ok (.getfield 13, 3) := by decide +kernel
theorem d_Modl_common_76 : decode c_Modl_common 76 = .ok (.aload_n 0, 1) := by decide +kernel
theorem d_Modl_common_77 : decode c_Modl_common 77 = .ok (.getfield 153, 3) := by decide +kernel
theorem d_Modl_common_80 : decode c_Modl_common 80 = .ok (.laload, 1) := by decide +kernel
theorem d_Modl_common_81 : decode c_Modl_common 81 = .ok (.aload_n 0, 1) := by decide +kernel
theorem d_Modl_common_82 : decode c_Modl_common 82 = .ok (.getfield 9, 3) := by decide +kernel
theorem d_Modl_common_85 : decode c_Modl_common 85 = .ok (.iload_n 1, 1) := by decide +kernel
theorem d_Modl_common_86 : decode c_Modl_common 86 = .ok (.laload, 1) := by decide +kernel
theorem d_Modl_common_87 : decode c_Modl_common 87 = .ok (.invokestatic 149, 3) := by decide +kernel
theorem d_Modl_common_90 : decode c_Modl_common 90 = .ok (.lstore_n 3, 1) := by decide +kernel
theorem d_Modl_common_91 : decode c_Modl_common 91 = .ok (.aload_n 0, 1) := by decide +kernel
theorem d_Modl_common_92 : decode c_Modl_common 92 = .ok (.iconst 0, 1) := by decide +kernel
theorem d_Modl_common_93 : decode c_Modl_common 93 = .ok (.iconst 5, 1) := by decide +kernel
theorem d_Modl_common_94 : decode c_Modl_common 94 = .ok (.invokevirtual 131, 3) := by decide +kernel
theorem d_Modl_common_97 : decode c_Modl_common 97 = .ok (.aload_n 0, 1) := by decide +kernel
theorem d_Modl_common_98 : decode c_Modl_common 98 = .ok (.iconst 0, 1) := by decide +kernel
theorem d_Modl_common_99 : decode c_Modl_common 99 = .ok (.lload_n 3, 1) := by decide +kernel
theorem d_Modl_common_100 : decode c_Modl_common 100 = .ok (.invokevirtual 230, 3) := by decide +kernel
theorem d_Modl_common_103 : decode c_Modl_common 103 = .ok (.pop, 1) := by decide +kernel
theorem d_Modl_common_104 : decode c_Modl_common 104 = .ok (.aload_n 0, 1) := by decide +kernel
theorem d_Modl_common_105 : decode c_Modl_common 105 = .ok (.iload_n 2, 1) := by decide +kernel
theorem d_Modl_common_106 : decode c_Modl_common 106 = .ok (.putfield 296, 3) := by decide +kernel
theorem d_Modl_common_109 : decode c_Modl_common 109 = .ok (.iconst 0, 1) := by decide +kernel
theorem d_Modl_common_110 : decode c_Modl_common 110 = .ok (.istore 5, 2) := by decide +kernel
theorem d_Modl_common_112 : decode c_Modl_common 112 = .ok (.iload 5, 2) := by decide +kernel
theorem d_Modl_common_114 : decode c_Modl_common 114 = .ok (.bipush 13, 2) := by decide +kernel
theorem d_Modl_common_116 : decode c_Modl_common 116 = .ok (.if_icmp .ge 33, 3) := by decide +kernel
theorem d_Modl_common_119 : decode c_Modl_common 119 = .ok (.aload_n 0, 1) := by decide +kernel
theorem d_Modl_common_120 : decode c_Modl_common 120 = .ok (.getfield 16, 3) := by decide +kernel
theorem d_Modl_common_123 : decode c_Modl_common 123 = .ok (.iload 5, 2) := by decide +kernel
theorem d_Modl_common_125 : decode c_Modl_common 125 = .ok (.iload 5, 2) := by decide +kernel
theorem d_Modl_common_127 : decode c_Modl_common 127 = .ok (.iload_n 2, 1) := by decide +kernel
theorem d_Modl_common_128 : decode c_Modl_common 128 = .ok (.if_icmp .gt 13, 3) := by decide +kernel
theorem d_Modl_common_131 : decode c_Modl_common 131 = .ok (.aload_n 0, 1) := by decide +kernel
theorem d_Modl_common_132 : decode c_Modl_common 132 = .ok (.getfield 67, 3) := by decide +kernel
theorem d_Modl_common_135 : decode c_Modl_common 135 = .ok (.iload 5, 2) := by decide +kernel
theorem d_Modl_common_137 : decode c_Modl_common 137 = .ok (.laload, 1) := by decide +kernel
theorem d_Modl_common_138 : decode c_Modl_common 138 = .ok (.goto 4, 3) := by decide +kernel
theorem d_Modl_common_141 : decode c_Modl_common 141 = .ok (.lconst 0, 1) := by decide +kernel
theorem d_Modl_common_142 : decode c_Modl_common 142 = .ok (.lastore, 1) := by decide +kernel
theorem d_Modl_common_143 : decode c_Modl_common 143 = .ok (.iinc 5 1, 3) := by decide +kernel
theorem d_Modl_common_146 : decode c_Modl_common 146 = .ok (.goto (-34), 3) := by decide +kernel
theorem d_Modl_common_149 : decode c_Modl_common 149 = .ok (.aload_n 0, 1) := by decide +kernel
theorem d_Modl_common_150 : decode c_Modl_common 150 = .ok (.iconst 0, 1) := by decide +kernel
theorem d_Modl_common_151 : decode c_Modl_common 151 = .ok (.putfield 271, 3) := by decide +kernel
theorem d_Modl_common_154 : decode c_Modl_common 154 = .ok (.iload_n 2, 1) := by decide +kernel
theorem d_Modl_common_155 : decode c_Modl_common 155 = .ok (.ireturn, 1) := by decide +kernel
abbrev c_Modl_divides : ByteArray := prog_11_method_64_code
abbrev y_Modl_divides : MethodName := ⟨"FactorDeskModel", "divides", "()Z"⟩
theorem d_Modl_divides_0 : decode c_Modl_divides 0 = .ok (.aload_n 0, 1) := by decide +kernel
theorem d_Modl_divides_1 : decode c_Modl_divides 1 = .ok (.invokevirtual 278, 3) := by decide +kernel
theorem d_Modl_divides_4 : decode c_Modl_divides 4 = .ok (.istore_n 1, 1) := by decide +kernel
theorem d_Modl_divides_5 : decode c_Modl_divides 5 = .ok (.aload_n 0, 1) := by decide +kernel
theorem d_Modl_divides_6 : decode c_Modl_divides 6 = .ok (.iload_n 1, 1) := by decide +kernel
theorem d_Modl_divides_7 : decode c_Modl_divides 7 = .ok (.ifCond .ge 7, 3) := by decide +kernel
theorem d_Modl_divides_10 : decode c_Modl_divides 10 = .ok (.iconst 1, 1) := by decide +kernel
theorem d_Modl_divides_11 : decode c_Modl_divides 11 = .ok (.goto 4, 3) := by decide +kernel
theorem d_Modl_divides_14 : decode c_Modl_divides 14 = .ok (.iconst 0, 1) := by decide +kernel
theorem d_Modl_divides_15 : decode c_Modl_divides 15 = .ok (.iconst 1, 1) := by decide +kernel
theorem d_Modl_divides_16 : decode c_Modl_divides 16 = .ok (.invokevirtual 274, 3) := by decide +kernel
theorem d_Modl_divides_19 : decode c_Modl_divides 19 = .ok (.ifCond .eq 5, 3) := by decide +kernel
theorem d_Modl_divides_22 : decode c_Modl_divides 22 = .ok (.iconst 0, 1) := by decide +kernel
theorem d_Modl_divides_23 : decode c_Modl_divides 23 = .ok (.ireturn, 1) := by decide +kernel
theorem d_Modl_divides_24 : decode c_Modl_divides 24 = .ok (.iload_n 1, 1) := by decide +kernel
theorem d_Modl_divides_25 : decode c_Modl_divides 25 = .ok (.aload_n 0, 1) := by decide +kernel
theorem d_Modl_divides_26 : decode c_Modl_divides 26 = .ok (.getfield 153, 3) := by decide +kernel
theorem d_Modl_divides_29 : decode c_Modl_divides 29 = .ok (.if_icmp .gt 28, 3) := by decide +kernel
theorem d_Modl_divides_32 : decode c_Modl_divides 32 = .ok (.aload_n 0, 1) := by decide +kernel
theorem d_Modl_divides_33 : decode c_Modl_divides 33 = .ok (.aload_n 0, 1) := by decide +kernel
theorem d_Modl_divides_34 : decode c_Modl_divides 34 = .ok (.getfield 13, 3) := by decide +kernel
theorem d_Modl_divides_37 : decode c_Modl_divides 37 = .ok (.aload_n 0, 1) := by decide +kernel
theorem d_Modl_divides_38 : decode c_Modl_divides 38 = .ok (.getfield 153, 3) := by decide +kernel
theorem d_Modl_divides_41 : decode c_Modl_divides 41 = .ok (.aload_n 0, 1) := by decide +kernel
theorem d_Modl_divides_42 : decode c_Modl_divides 42 = .ok (.getfield 9, 3) := by decide +kernel
theorem d_Modl_divides_45 : decode c_Modl_divides 45 = .ok (.iload_n 1, 1) := by decide +kernel
theorem d_Modl_divides_46 : decode c_Modl_divides 46 = .ok (.invokevirtual 252, 3) := by decide +kernel
theorem d_Modl_divides_49 : decode c_Modl_divides 49 = .ok (.iload_n 1, 1) := by decide +kernel
theorem d_Modl_divides_50 : decode c_Modl_divides 50 = .ok (.if_icmp .ne 7, 3) := by decide +kernel
theorem d_Modl_divides_53 : decode c_Modl_divides 53 = .ok (.iconst 1, 1) := by decide +kernel
theorem d_Modl_divides_54 : decode c_Modl_divides 54 = .ok (.goto 4, 3) := by decide +kernel
theorem d_Modl_divides_57 : decode c_Modl_divides 57 = .ok (.iconst 0, 1) := by decide +kernel
theorem d_Modl_divides_58 : decode c_Modl_divides 58 = .ok (.istore_n 2, 1) := by decide +kernel
theorem d_Modl_divides_59 : decode c_Modl_divides 59 = .ok (.aload_n 0, 1) := by decide +kernel
theorem d_Modl_divides_60 : decode c_Modl_divides 60 = .ok (.iconst 0, 1) := by decide +kernel
theorem d_Modl_divides_61 : decode c_Modl_divides 61 = .ok (.putfield 271, 3) := by decide +kernel
theorem d_Modl_divides_64 : decode c_Modl_divides 64 = .ok (.iload_n 2, 1) := by decide +kernel
theorem d_Modl_divides_65 : decode c_Modl_divides 65 = .ok (.ireturn, 1) := by decide +kernel
abbrev c_Modl_degree : ByteArray := prog_11_method_55_code
abbrev y_Modl_degree : MethodName := ⟨"FactorDeskModel", "degree", "()I"⟩
theorem d_Modl_degree_0 : decode c_Modl_degree 0 = .ok (.aload_n 0, 1) := by decide +kernel
theorem d_Modl_degree_1 : decode c_Modl_degree 1 = .ok (.iconst 0, 1) := by decide +kernel
theorem d_Modl_degree_2 : decode c_Modl_degree 2 = .ok (.putfield 82, 3) := by decide +kernel
theorem d_Modl_degree_5 : decode c_Modl_degree 5 = .ok (.aload_n 0, 1) := by decide +kernel
theorem d_Modl_degree_6 : decode c_Modl_degree 6 = .ok (.getfield 153, 3) := by decide +kernel
theorem d_Modl_degree_9 : decode c_Modl_degree 9 = .ok (.ireturn, 1) := by decide +kernel
abbrev c_Modl_gcd : ByteArray := prog_11_method_26_code
abbrev y_Modl_gcd : MethodName := ⟨"FactorDeskModel", "gcd", "(JJ)J"⟩
theorem d_Modl_gcd_0 : decode c_Modl_gcd 0 = .ok (.lload_n 0, 1) := by decide +kernel
theorem d_Modl_gcd_1 : decode c_Modl_gcd 1 = .ok (.lconst 0, 1) := by decide +kernel
theorem d_Modl_gcd_2 : decode c_Modl_gcd 2 = .ok (.lcmp, 1) := by decide +kernel
theorem d_Modl_gcd_3 : decode c_Modl_gcd 3 = .ok (.ifCond .ge 8, 3) := by decide +kernel
theorem d_Modl_gcd_6 : decode c_Modl_gcd 6 = .ok (.lload_n 0, 1) := by decide +kernel
theorem d_Modl_gcd_7 : decode c_Modl_gcd 7 = .ok (.lneg, 1) := by decide +kernel
theorem d_Modl_gcd_8 : decode c_Modl_gcd 8 = .ok (.goto 4, 3) := by decide +kernel
theorem d_Modl_gcd_11 : decode c_Modl_gcd 11 = .ok (.lload_n 0, 1) := by decide +kernel
theorem d_Modl_gcd_12 : decode c_Modl_gcd 12 = .ok (.lstore 4, 2) := by decide +kernel
theorem d_Modl_gcd_14 : decode c_Modl_gcd 14 = .ok (.lload_n 2, 1) := by decide +kernel
theorem d_Modl_gcd_15 : decode c_Modl_gcd 15 = .ok (.lconst 0, 1) := by decide +kernel
theorem d_Modl_gcd_16 : decode c_Modl_gcd 16 = .ok (.lcmp, 1) := by decide +kernel
theorem d_Modl_gcd_17 : decode c_Modl_gcd 17 = .ok (.ifCond .ge 8, 3) := by decide +kernel
theorem d_Modl_gcd_20 : decode c_Modl_gcd 20 = .ok (.lload_n 2, 1) := by decide +kernel
theorem d_Modl_gcd_21 : decode c_Modl_gcd 21 = .ok (.lneg, 1) := by decide +kernel
theorem d_Modl_gcd_22 : decode c_Modl_gcd 22 = .ok (.goto 4, 3) := by decide +kernel
theorem d_Modl_gcd_25 : decode c_Modl_gcd 25 = .ok (.lload_n 2, 1) := by decide +kernel
theorem d_Modl_gcd_26 : decode c_Modl_gcd 26 = .ok (.lstore 6, 2) := by decide +kernel
theorem d_Modl_gcd_28 : decode c_Modl_gcd 28 = .ok (.lload 6, 2) := by decide +kernel
theorem d_Modl_gcd_30 : decode c_Modl_gcd 30 = .ok (.lconst 0, 1) := by decide +kernel
theorem d_Modl_gcd_31 : decode c_Modl_gcd 31 = .ok (.lcmp, 1) := by decide +kernel
theorem d_Modl_gcd_32 : decode c_Modl_gcd 32 = .ok (.ifCond .eq 21, 3) := by decide +kernel
theorem d_Modl_gcd_35 : decode c_Modl_gcd 35 = .ok (.lload 4, 2) := by decide +kernel
theorem d_Modl_gcd_37 : decode c_Modl_gcd 37 = .ok (.lload 6, 2) := by decide +kernel
theorem d_Modl_gcd_39 : decode c_Modl_gcd 39 = .ok (.lrem, 1) := by decide +kernel
theorem d_Modl_gcd_40 : decode c_Modl_gcd 40 = .ok (.lstore 8, 2) := by decide +kernel
theorem d_Modl_gcd_42 : decode c_Modl_gcd 42 = .ok (.lload 6, 2) := by decide +kernel
theorem d_Modl_gcd_44 : decode c_Modl_gcd 44 = .ok (.lstore 4, 2) := by decide +kernel
theorem d_Modl_gcd_46 : decode c_Modl_gcd 46 = .ok (.lload 8, 2) := by decide +kernel
theorem d_Modl_gcd_48 : decode c_Modl_gcd 48 = .ok (.lstore 6, 2) := by decide +kernel
theorem d_Modl_gcd_50 : decode c_Modl_gcd 50 = .ok (.goto (-22), 3) := by decide +kernel
theorem d_Modl_gcd_53 : decode c_Modl_gcd 53 = .ok (.lload 4, 2) := by decide +kernel
theorem d_Modl_gcd_55 : decode c_Modl_gcd 55 = .ok (.lreturn, 1) := by decide +kernel
abbrev c_Modl_contentOf : ByteArray := prog_11_method_27_code
abbrev y_Modl_contentOf : MethodName := ⟨"FactorDeskModel", "contentOf", "([JI)J"⟩
theorem d_Modl_contentOf_0 : decode c_Modl_contentOf 0 = .ok (.lconst 0, 1) := by decide +kernel
theorem d_Modl_contentOf_1 : decode c_Modl_contentOf 1 = .ok (.lstore_n 2, 1) := by decide +kernel
theorem d_Modl_contentOf_2 : decode c_Modl_contentOf 2 = .ok (.iconst 0, 1) := by decide +kernel
theorem d_Modl_contentOf_3 : decode c_Modl_contentOf 3 = .ok (.istore 4, 2) := by decide +kernel
theorem d_Modl_contentOf_5 : decode c_Modl_contentOf 5 = .ok (.iload 4, 2) := by decide +kernel
theorem d_Modl_contentOf_7 : decode c_Modl_contentOf 7 = .ok (.iload_n 1, 1) := by decide +kernel
theorem d_Modl_contentOf_8 : decode c_Modl_contentOf 8 = .ok (.if_icmp .gt 18, 3) := by decide +kernel
theorem d_Modl_contentOf_11 : decode c_Modl_contentOf 11 = .ok (.lload_n 2, 1) := by decide +kernel
theorem d_Modl_contentOf_12 : decode c_Modl_contentOf 12 = .ok (.aload_n 0, 1) := by decide +kernel
theorem d_Modl_contentOf_13 : decode c_Modl_contentOf 13 = .ok (.iload 4, 2) := by decide +kernel
theorem d_Modl_contentOf_15 : decode c_Modl_contentOf 15 = .ok (.laload, 1) := by decide +kernel
theorem d_Modl_contentOf_16 : decode c_Modl_contentOf 16 = .ok (.invokestatic 149, 3) := by decide +kernel
theorem d_Modl_contentOf_19 : decode c_Modl_contentOf 19 = .ok (.lstore_n 2, 1) := by decide +kernel
theorem d_Modl_contentOf_20 : decode c_Modl_contentOf 20 = .ok (.iinc 4 1, 3) := by decide +kernel
theorem d_Modl_contentOf_23 : decode c_Modl_contentOf 23 = .ok (.goto (-18), 3) := by decide +kernel
theorem d_Modl_contentOf_26 : decode c_Modl_contentOf 26 = .ok (.aload_n 0, 1) := by decide +kernel
theorem d_Modl_contentOf_27 : decode c_Modl_contentOf 27 = .ok (.iload_n 1, 1) := by decide +kernel
theorem d_Modl_contentOf_28 : decode c_Modl_contentOf 28 = .ok (.laload, 1) := by decide +kernel
theorem d_Modl_contentOf_29 : decode c_Modl_contentOf 29 = .ok (.lconst 0, 1) := by decide +kernel
theorem d_Modl_contentOf_30 : decode c_Modl_contentOf 30 = .ok (.lcmp, 1) := by decide +kernel
theorem d_Modl_contentOf_31 : decode c_Modl_contentOf 31 = .ok (.ifCond .ge 8, 3) := by decide +kernel
theorem d_Modl_contentOf_34 : decode c_Modl_contentOf 34 = .ok (.lload_n 2, 1) := by decide +kernel
theorem d_Modl_contentOf_35 : decode c_Modl_contentOf 35 = .ok (.lneg, 1) := by decide +kernel
theorem d_Modl_contentOf_36 : decode c_Modl_contentOf 36 = .ok (.goto 4, 3) := by decide +kernel
theorem d_Modl_contentOf_39 : decode c_Modl_contentOf 39 = .ok (.lload_n 2, 1) := by decide +kernel
theorem d_Modl_contentOf_40 : decode c_Modl_contentOf 40 = .ok (.lreturn, 1) := by decide +kernel
abbrev c_Modl_content : ByteArray := prog_11_method_56_code
abbrev y_Modl_content : MethodName := ⟨"FactorDeskModel", "content", "()J"⟩
theorem d_Modl_content_0 : decode c_Modl_content 0 = .ok (.aload_n 0, 1) := by decide +kernel
theorem d_Modl_content_1 : decode c_Modl_content 1 = .ok (.iconst 0, 1) := by decide +kernel
theorem d_Modl_content_2 : decode c_Modl_content 2 = .ok (.putfield 82, 3) := by decide +kernel
theorem d_Modl_content_5 : decode c_Modl_content 5 = .ok (.aload_n 0, 1) := by decide +kernel
theorem d_Modl_content_6 : decode c_Modl_content 6 = .ok (.getfield 13, 3) := by decide +kernel
theorem d_Modl_content_9 : decode c_Modl_content 9 = .ok (.aload_n 0, 1) := by decide +kernel
theorem d_Modl_content_10 : decode c_Modl_content 10 = .ok (.getfield 153, 3) := by decide +kernel
theorem d_Modl_content_13 : decode c_Modl_content 13 = .ok (.invokestatic 156, 3) := by decide +kernel
theorem d_Modl_content_16 : decode c_Modl_content 16 = .ok (.lreturn, 1) := by decide +kernel
abbrev c_Modl_at : ByteArray := prog_11_method_54_code
abbrev y_Modl_at : MethodName := ⟨"FactorDeskModel", "at", "(I)I"⟩
theorem d_Modl_at_0 : decode c_Modl_at 0 = .ok (.aload_n 0, 1) := by decide +kernel
theorem d_Modl_at_1 : decode c_Modl_at 1 = .ok (.iload_n 1, 1) := by decide +kernel
theorem d_Modl_at_2 : decode c_Modl_at 2 = .ok (.ifCond .lt 9, 3) := by decide +kernel
theorem d_Modl_at_5 : decode c_Modl_at 5 = .ok (.iload_n 1, 1) := by decide +kernel
theorem d_Modl_at_6 : decode c_Modl_at 6 = .ok (.bipush 12, 2) := by decide +kernel
theorem d_Modl_at_8 : decode c_Modl_at 8 = .ok (.if_icmp .le 7, 3) := by decide +kernel
theorem d_Modl_at_11 : decode c_Modl_at 11 = .ok (.iconst 1, 1) := by decide +kernel
theorem d_Modl_at_12 : decode c_Modl_at 12 = .ok (.goto 4, 3) := by decide +kernel
theorem d_Modl_at_15 : decode c_Modl_at 15 = .ok (.iconst 0, 1) := by decide +kernel
theorem d_Modl_at_16 : decode c_Modl_at 16 = .ok (.iconst 1, 1) := by decide +kernel
theorem d_Modl_at_17 : decode c_Modl_at 17 = .ok (.invokevirtual 274, 3) := by decide +kernel
theorem d_Modl_at_20 : decode c_Modl_at 20 = .ok (.ifCond .eq 7, 3) := by decide +kernel
theorem d_Modl_at_23 : decode c_Modl_at 23 = .ok (.iconst 0, 1) := by decide +kernel
theorem d_Modl_at_24 : decode c_Modl_at 24 = .ok (.goto 10, 3) := by decide +kernel
theorem d_Modl_at_27 : decode c_Modl_at 27 = .ok (.aload_n 0, 1) := by decide +kernel
theorem d_Modl_at_28 : decode c_Modl_at 28 = .ok (.getfield 13, 3) := by decide +kernel
theorem d_Modl_at_31 : decode c_Modl_at 31 = .ok (.iload_n 1, 1) := by decide +kernel
theorem d_Modl_at_32 : decode c_Modl_at 32 = .ok (.laload, 1) := by decide +kernel
theorem d_Modl_at_33 : decode c_Modl_at 33 = .ok (.l2i, 1) := by decide +kernel
theorem d_Modl_at_34 : decode c_Modl_at 34 = .ok (.ireturn, 1) := by decide +kernel
abbrev c_Modl_factor : ByteArray := prog_11_method_58_code
abbrev y_Modl_factor : MethodName := ⟨"FactorDeskModel", "factor", "(II)I"⟩
theorem d_Modl_factor_0 : decode c_Modl_factor 0 = .ok (.aload_n 0, 1) := by decide +kernel
theorem d_Modl_factor_1 : decode c_Modl_factor 1 = .ok (.iload_n 1, 1) := by decide +kernel
theorem d_Modl_factor_2 : decode c_Modl_factor 2 = .ok (.ifCond .lt 20, 3) := by decide +kernel
theorem d_Modl_factor_5 : decode c_Modl_factor 5 = .ok (.iload_n 1, 1) := by decide +kernel
theorem d_Modl_factor_6 : decode c_Modl_factor 6 = .ok (.aload_n 0, 1) := by decide +kernel
theorem d_Modl_factor_7 : decode c_Modl_factor 7 = .ok (.getfield 293, 3) := by decide +kernel
theorem d_Modl_factor_10 : decode c_Modl_factor 10 = .ok (.if_icmp .ge 12, 3) := by decide +kernel
theorem d_Modl_factor_13 : decode c_Modl_factor 13 = .ok (.iload_n 2, 1) := by decide +kernel
theorem d_Modl_factor_14 : decode c_Modl_factor 14 = .ok (.ifCond .lt 8, 3) := by decide +kernel
theorem d_Modl_factor_17 : decode c_Modl_factor 17 = .ok (.iload_n 2, 1) := by decide +kernel
theorem d_Modl_factor_18 : decode c_Modl_factor 18 = .ok (.iconst 1, 1) := by decide +kernel
theorem d_Modl_factor_19 : decode c_Modl_factor 19 = .ok (.if_icmp .le 7, 3) := by decide +kernel
theorem d_Modl_factor_22 : decode c_Modl_factor 22 = .ok (.iconst 1, 1) := by decide +kernel
theorem d_Modl_factor_23 : decode c_Modl_factor 23 = .ok (.goto 4, 3) := by decide +kernel
theorem d_Modl_factor_26 : decode c_Modl_factor 26 = .ok (.iconst 0, 1) := by decide +kernel
theorem d_Modl_factor_27 : decode c_Modl_factor 27 = .ok (.iconst 1, 1) := by decide +kernel
theorem d_Modl_factor_28 : decode c_Modl_factor 28 = .ok (.invokevirtual 274, 3) := by decide +kernel
theorem d_Modl_factor_31 : decode c_Modl_factor 31 = .ok (.ifCond .eq 5, 3) := by decide +kernel
theorem d_Modl_factor_34 : decode c_Modl_factor 34 = .ok (.iconst 0, 1) := by decide +kernel
theorem d_Modl_factor_35 : decode c_Modl_factor 35 = .ok (.ireturn, 1) := by decide +kernel
theorem d_Modl_factor_36 : decode c_Modl_factor 36 = .ok (.iload_n 2, 1) := by decide +kernel
theorem d_Modl_factor_37 : decode c_Modl_factor 37 = .ok (.ifCond .ne 12, 3) := by decide +kernel
theorem d_Modl_factor_40 : decode c_Modl_factor 40 = .ok (.aload_n 0, 1) := by decide +kernel
theorem d_Modl_factor_41 : decode c_Modl_factor 41 = .ok (.getfield 22, 3) := by decide +kernel
theorem d_Modl_factor_44 : decode c_Modl_factor 44 = .ok (.iload_n 1, 1) := by decide +kernel
theorem d_Modl_factor_45 : decode c_Modl_factor 45 = .ok (.iaload, 1) := by decide +kernel
theorem d_Modl_factor_46 : decode c_Modl_factor 46 = .ok (.goto 9, 3) := by decide +kernel
theorem d_Modl_factor_49 : decode c_Modl_factor 49 = .ok (.aload_n 0, 1) := by decide +kernel
theorem d_Modl_factor_50 : decode c_Modl_factor 50 = .ok (.getfield 26, 3) := by decide +kernel
theorem d_Modl_factor_53 : decode c_Modl_factor 53 = .ok (.iload_n 1, 1) := by decide +kernel
theorem d_Modl_factor_54 : decode c_Modl_factor 54 = .ok (.iaload, 1) := by decide +kernel
theorem d_Modl_factor_55 : decode c_Modl_factor 55 = .ok (.ireturn, 1) := by decide +kernel
abbrev c_Modl_part : ByteArray := prog_11_method_59_code
abbrev y_Modl_part : MethodName := ⟨"FactorDeskModel", "part", "(II)J"⟩
theorem d_Modl_part_0 : decode c_Modl_part 0 = .ok (.aload_n 0, 1) := by decide +kernel
theorem d_Modl_part_1 : decode c_Modl_part 1 = .ok (.iload_n 1, 1) := by decide +kernel
theorem d_Modl_part_2 : decode c_Modl_part 2 = .ok (.ifCond .lt 15, 3) := by decide +kernel
theorem d_Modl_part_5 : decode c_Modl_part 5 = .ok (.iload_n 1, 1) := by decide +kernel
theorem d_Modl_part_6 : decode c_Modl_part 6 = .ok (.aload_n 0, 1) := by decide +kernel
theorem d_Modl_part_7 : decode c_Modl_part 7 = .ok (.getfield 293, 3) := by decide +kernel
theorem d_Modl_part_10 : decode c_Modl_part 10 = .ok (.if_icmp .ge 7, 3) := by decide +kernel
theorem d_Modl_part_13 : decode c_Modl_part 13 = .ok (.iload_n 2, 1) := by decide +kernel
theorem d_Modl_part_14 : decode c_Modl_part 14 = .ok (.ifCond .ge 7, 3) := by decide +kernel
theorem d_Modl_part_17 : decode c_Modl_part 17 = .ok (.iconst 1, 1) := by decide +kernel
theorem d_Modl_part_18 : decode c_Modl_part 18 = .ok (.goto 4, 3) := by decide +kernel
theorem d_Modl_part_21 : decode c_Modl_part 21 = .ok (.iconst 0, 1) := by decide +kernel
theorem d_Modl_part_22 : decode c_Modl_part 22 = .ok (.iconst 1, 1) := by decide +kernel
theorem d_Modl_part_23 : decode c_Modl_part 23 = .ok (.invokevirtual 274, 3) := by decide +kernel
theorem d_Modl_part_26 : decode c_Modl_part 26 = .ok (.ifCond .ne 26, 3) := by decide +kernel
theorem d_Modl_part_29 : decode c_Modl_part 29 = .ok (.aload_n 0, 1) := by decide +kernel
theorem d_Modl_part_30 : decode c_Modl_part 30 = .ok (.iload_n 2, 1) := by decide +kernel
theorem d_Modl_part_31 : decode c_Modl_part 31 = .ok (.aload_n 0, 1) := by decide +kernel
theorem d_Modl_part_32 : decode c_Modl_part 32 = .ok (.getfield 22, 3) := by decide +kernel
theorem d_Modl_part_35 : decode c_Modl_part 35 = .ok (.iload_n 1, 1) := by decide +kernel
theorem d_Modl_part_36 : decode c_Modl_part 36 = .ok (.iaload, 1) := by decide +kernel
theorem d_Modl_part_37 : decode c_Modl_part 37 = .ok (.if_icmp .le 7, 3) := by decide +kernel
theorem d_Modl_part_40 : decode c_Modl_part 40 = .ok (.iconst 1, 1) := by decide +kernel
theorem d_Modl_part_41 : decode c_Modl_part 41 = .ok (.goto 4, 3) := by decide +kernel
theorem d_Modl_part_44 : decode c_Modl_part 44 = .ok (.iconst 0, 1) := by decide +kernel
theorem d_Modl_part_45 : decode c_Modl_part 45 = .ok (.iconst 1, 1) := by decide +kernel
theorem d_Modl_part_46 : decode c_Modl_part 46 = .ok (.invokevirtual 274, 3) := by decide +kernel
theorem d_Modl_part_49 : decode c_Modl_part 49 = .ok (.ifCond .eq 5, 3) := by decide +kernel
theorem d_Modl_part_52 : decode c_Modl_part 52 = .ok (.lconst 0, 1) := by decide +kernel
theorem d_Modl_part_53 : decode c_Modl_part 53 = .ok (.lreturn, 1) := by decide +kernel
theorem d_Modl_part_54 : decode c_Modl_part 54 = .ok (.aload_n 0, 1) := by decide +kernel
theorem d_Modl_part_55 : decode c_Modl_part 55 = .ok (.getfield 19, 3) := by decide +kernel
theorem d_Modl_part_58 : decode c_Modl_part 58 = .ok (.bipush 13, 2) := by decide +kernel
theorem d_Modl_part_60 : decode c_Modl_part 60 = .ok (.iload_n 1, 1) := by decide +kernel
theorem d_Modl_part_61 : decode c_Modl_part 61 = .ok (.imul, 1) := by decide +kernel
theorem d_Modl_part_62 : decode c_Modl_part 62 = .ok (.iload_n 2, 1) := by decide +kernel
theorem d_Modl_part_63 : decode c_Modl_part 63 = .ok (.iadd, 1) := by decide +kernel
theorem d_Modl_part_64 : decode c_Modl_part 64 = .ok (.laload, 1) := by decide +kernel
theorem d_Modl_part_65 : decode c_Modl_part 65 = .ok (.lreturn, 1) := by decide +kernel
abbrev c_Modl_isIrreducible : ByteArray := prog_11_method_60_code
abbrev y_Modl_isIrreducible : MethodName := ⟨"FactorDeskModel", "isIrreducible", "()Z"⟩
theorem d_Modl_isIrreducible_0 : decode c_Modl_isIrreducible 0 = .ok (.aload_n 0, 1) := by decide +kernel
theorem d_Modl_isIrreducible_1 : decode c_Modl_isIrreducible 1 = .ok (.iconst 0, 1) := by decide +kernel
theorem d_Modl_isIrreducible_2 : decode c_Modl_isIrreducible 2 = .ok (.putfield 82, 3) := by decide +kernel
theorem d_Modl_isIrreducible_5 : decode c_Modl_isIrreducible 5 = .ok (.aload_n 0, 1) := by decide +kernel
theorem d_Modl_isIrreducible_6 : decode c_Modl_isIrreducible 6 = .ok (.getfield 153, 3) := by decide +kernel
theorem d_Modl_isIrreducible_9 : decode c_Modl_isIrreducible 9 = .ok (.ifCond .eq 19, 3) := by decide +kernel
theorem d_Modl_isIrreducible_12 : decode c_Modl_isIrreducible 12 = .ok (.aload_n 0, 1) := by decide +kernel
theorem d_Modl_isIrreducible_13 : decode c_Modl_isIrreducible 13 = .ok (.getfield 13, 3) := by decide +kernel
theorem d_Modl_isIrreducible_16 : decode c_Modl_isIrreducible 16 = .ok (.aload_n 0, 1) := by decide +kernel
theorem d_Modl_isIrreducible_17 : decode c_Modl_isIrreducible 17 = .ok (.getfield 153, 3) := by decide +kernel
theorem d_Modl_isIrreducible_20 : decode c_Modl_isIrreducible 20 = .ok (.invokestatic 156, 3) := by decide +kernel
theorem d_Modl_isIrreducible_23 : decode c_Modl_isIrreducible 23 = .ok (.lconst 1, 1) := by decide +kernel
theorem d_Modl_isIrreducible_24 : decode c_Modl_isIrreducible 24 = .ok (.lcmp, 1) := by decide +kernel
theorem d_Modl_isIrreducible_25 : decode c_Modl_isIrreducible 25 = .ok (.ifCond .eq 5, 3) := by decide +kernel
theorem d_Modl_isIrreducible_28 : decode c_Modl_isIrreducible 28 = .ok (.iconst 0, 1) := by decide +kernel
theorem d_Modl_isIrreducible_29 : decode c_Modl_isIrreducible 29 = .ok (.ireturn, 1) := by decide +kernel
theorem d_Modl_isIrreducible_30 : decode c_Modl_isIrreducible 30 = .ok (.aload_n 0, 1) := by decide +kernel
theorem d_Modl_isIrreducible_31 : decode c_Modl_isIrreducible 31 = .ok (.invokevirtual 290, 3) := by decide +kernel
theorem d_Modl_isIrreducible_34 : decode c_Modl_isIrreducible 34 = .ok (.aload_n 0, 1) := by decide +kernel
theorem d_Modl_isIrreducible_35 : decode c_Modl_isIrreducible 35 = .ok (.getfield 243, 3) := by decide +kernel
theorem d_Modl_isIrreducible_38 : decode c_Modl_isIrreducible 38 = .ok (.iconst 1, 1) := by decide +kernel
theorem d_Modl_isIrreducible_39 : decode c_Modl_isIrreducible 39 = .ok (.if_icmp .ne 17, 3) := by decide +kernel
theorem d_Modl_isIrreducible_42 : decode c_Modl_isIrreducible 42 = .ok (.aload_n 0, 1) := by decide +kernel
theorem d_Modl_isIrreducible_43 : decode c_Modl_isIrreducible 43 = .ok (.getfield 35, 3) := by decide +kernel
theorem d_Modl_isIrreducible_46 : decode c_Modl_isIrreducible 46 = .ok (.iconst 0, 1) := by decide +kernel
theorem d_Modl_isIrreducible_47 : decode c_Modl_isIrreducible 47 = .ok (.iaload, 1) := by decide +kernel
theorem d_Modl_isIrreducible_48 : decode c_Modl_isIrreducible 48 = .ok (.iconst 1, 1) := by decide +kernel
theorem d_Modl_isIrreducible_49 : decode c_Modl_isIrreducible 49 = .ok (.if_icmp .ne 7, 3) := by decide +kernel
theorem d_Modl_isIrreducible_52 : decode c_Modl_isIrreducible 52 = .ok (.iconst 1, 1) := by decide +kernel
theorem d_Modl_isIrreducible_53 : decode c_Modl_isIrreducible 53 = .ok (.goto 4, 3) := by decide +kernel
theorem d_Modl_isIrreducible_56 : decode c_Modl_isIrreducible 56 = .ok (.iconst 0, 1) := by decide +kernel
theorem d_Modl_isIrreducible_57 : decode c_Modl_isIrreducible 57 = .ok (.ireturn, 1) := by decide +kernel
abbrev c_Modl_divisor : ByteArray := prog_11_method_63_code
abbrev y_Modl_divisor : MethodName := ⟨"FactorDeskModel", "divisor", "(I)J"⟩
theorem d_Modl_divisor_0 : decode c_Modl_divisor 0 = .ok (.aload_n 0, 1) := by decide +kernel
theorem d_Modl_divisor_1 : decode c_Modl_divisor 1 = .ok (.iload_n 1, 1) := by decide +kernel
theorem d_Modl_divisor_2 : decode c_Modl_divisor 2 = .ok (.ifCond .lt 11, 3) := by decide +kernel
theorem d_Modl_divisor_5 : decode c_Modl_divisor 5 = .ok (.iload_n 1, 1) := by decide +kernel
theorem d_Modl_divisor_6 : decode c_Modl_divisor 6 = .ok (.aload_n 0, 1) := by decide +kernel
theorem d_Modl_divisor_7 : decode c_Modl_divisor 7 = .ok (.getfield 296, 3) := by decide +kernel
theorem d_Modl_divisor_10 : decode c_Modl_divisor 10 = .ok (.if_icmp .le 7, 3) := by decide +kernel
theorem d_Modl_divisor_13 : decode c_Modl_divisor 13 = .ok (.iconst 1, 1) := by decide +kernel
theorem d_Modl_divisor_14 : decode c_Modl_divisor 14 = .ok (.goto 4, 3) := by decide +kernel
theorem d_Modl_divisor_17 : decode c_Modl_divisor 17 = .ok (.iconst 0, 1) := by decide +kernel
theorem d_Modl_divisor_18 : decode c_Modl_divisor 18 = .ok (.iconst 1, 1) := by decide +kernel
theorem d_Modl_divisor_19 : decode c_Modl_divisor 19 = .ok (.invokevirtual 274, 3) := by decide +kernel
theorem d_Modl_divisor_22 : decode c_Modl_divisor 22 = .ok (.ifCond .eq 7, 3) := by decide +kernel
theorem d_Modl_divisor_25 : decode c_Modl_divisor 25 = .ok (.lconst 0, 1) := by decide +kernel
theorem d_Modl_divisor_26 : decode c_Modl_divisor 26 = .ok (.goto 9, 3) := by decide +kernel
theorem d_Modl_divisor_29 : decode c_Modl_divisor 29 = .ok (.aload_n 0, 1) := by decide +kernel
theorem d_Modl_divisor_30 : decode c_Modl_divisor 30 = .ok (.getfield 16, 3) := by decide +kernel
theorem d_Modl_divisor_33 : decode c_Modl_divisor 33 = .ok (.iload_n 1, 1) := by decide +kernel
theorem d_Modl_divisor_34 : decode c_Modl_divisor 34 = .ok (.laload, 1) := by decide +kernel
theorem d_Modl_divisor_35 : decode c_Modl_divisor 35 = .ok (.lreturn, 1) := by decide +kernel
theorem g_855 : jG (Jvm.Cond.fieldLink "FactorDeskModel" (82 : Nat) "FactorDeskModel" "thrown" "I") := jG_of 920 (by decide +kernel) (by decide +kernel)
theorem g_857 : jG (Jvm.Cond.fieldLink "FactorDeskModel" (271 : Nat) "FactorDeskModel" "taped" "I") := jG_of 922 (by decide +kernel) (by decide +kernel)
theorem g_970 : jG (Jvm.Cond.methodLink "FactorDeskModel" (274 : Nat) ({ cls := "FactorDeskModel", name := "fails", desc := "(ZI)Z" } : Jvm.MethodName)) := jG_of 1035 (by decide +kernel) (by decide +kernel)
theorem g_973 : jG (Jvm.Cond.code ({ cls := "FactorDeskModel", name := "fails", desc := "(ZI)Z" } : Jvm.MethodName) prog_11_method_3_code (3 : Nat) (Option.some Jvm.ClassFile.FieldType.boolean)) := jG_of 1038 (by decide +kernel) (by decide +kernel)
theorem g_10 : jG (Jvm.Cond.initialized "FactorDeskModel") := jG_of 75 (by decide +kernel) (by decide +kernel)
theorem g_972 : jG (Jvm.Cond.instanceMethod ({ cls := "FactorDeskModel", name := "fails", desc := "(ZI)Z" } : Jvm.MethodName)) := jG_of 1037 (by decide +kernel) (by decide +kernel)
theorem gp_23 : jG (Jvm.Cond.selects "FactorDeskModel" ({ cls := "FactorDeskModel", name := "fails", desc := "(ZI)Z" } : Jvm.MethodName) ({ cls := "FactorDeskModel", name := "fails", desc := "(ZI)Z" } : Jvm.MethodName)) := jG_of 23 (by decide +kernel) (by decide +kernel)
theorem g_982 : jG (Jvm.Cond.methodLink "FactorDeskModel" (278 : Nat) ({ cls := "FactorDeskModel", name := "tapeDegree", desc := "()I" } : Jvm.MethodName)) := jG_of 1047 (by decide +kernel) (by decide +kernel)
theorem g_985 : jG (Jvm.Cond.code ({ cls := "FactorDeskModel", name := "tapeDegree", desc := "()I" } : Jvm.MethodName) prog_11_method_51_code (2 : Nat) (Option.some Jvm.ClassFile.FieldType.int)) := jG_of 1050 (by decide +kernel) (by decide +kernel)
theorem g_984 : jG (Jvm.Cond.instanceMethod ({ cls := "FactorDeskModel", name := "tapeDegree", desc := "()I" } : Jvm.MethodName)) := jG_of 1049 (by decide +kernel) (by decide +kernel)
theorem gp_24 : jG (Jvm.Cond.selects "FactorDeskModel" ({ cls := "FactorDeskModel", name := "tapeDegree", desc := "()I" } : Jvm.MethodName) ({ cls := "FactorDeskModel", name := "tapeDegree", desc := "()I" } : Jvm.MethodName)) := jG_of 24 (by decide +kernel) (by decide +kernel)
theorem g_859 : jG (Jvm.Cond.fieldLink "FactorDeskModel" (153 : Nat) "FactorDeskModel" "high" "I") := jG_of 924 (by decide +kernel) (by decide +kernel)
theorem g_1009 : jG (Jvm.Cond.methodLink "FactorDeskModel" (149 : Nat) ({ cls := "FactorDeskModel", name := "gcd", desc := "(JJ)J" } : Jvm.MethodName)) := jG_of 1074 (by decide +kernel) (by decide +kernel)
theorem g_1011 : jG (Jvm.Cond.code ({ cls := "FactorDeskModel", name := "gcd", desc := "(JJ)J" } : Jvm.MethodName) prog_11_method_26_code (10 : Nat) (Option.some Jvm.ClassFile.FieldType.long)) := jG_of 1076 (by decide +kernel) (by decide +kernel)
theorem g_1010 : jG (Jvm.Cond.static ({ cls := "FactorDeskModel", name := "gcd", desc := "(JJ)J" } : Jvm.MethodName)) := jG_of 1075 (by decide +kernel) (by decide +kernel)
theorem g_1006 : jG (Jvm.Cond.methodLink "FactorDeskModel" (156 : Nat) ({ cls := "FactorDeskModel", name := "contentOf", desc := "([JI)J" } : Jvm.MethodName)) := jG_of 1071 (by decide +kernel) (by decide +kernel)
theorem g_1008 : jG (Jvm.Cond.code ({ cls := "FactorDeskModel", name := "contentOf", desc := "([JI)J" } : Jvm.MethodName) prog_11_method_27_code (5 : Nat) (Option.some Jvm.ClassFile.FieldType.long)) := jG_of 1073 (by decide +kernel) (by decide +kernel)
theorem g_1007 : jG (Jvm.Cond.static ({ cls := "FactorDeskModel", name := "contentOf", desc := "([JI)J" } : Jvm.MethodName)) := jG_of 1072 (by decide +kernel) (by decide +kernel)
theorem g_862 : jG (Jvm.Cond.fieldLink "FactorDeskModel" (293 : Nat) "FactorDeskModel" "shown" "I") := jG_of 927 (by decide +kernel) (by decide +kernel)
theorem g_861 : jG (Jvm.Cond.fieldLink "FactorDeskModel" (296 : Nat) "FactorDeskModel" "divisorDegree" "I") := jG_of 926 (by decide +kernel) (by decide +kernel)
abbrev jMT (mm : Nat) : List Value := [.ref (mm + 1), .int 0, .ref (mm + 2), .int 0, .ref (mm + 3), .int 0, .int 0, .ref (mm + 4), .ref (mm + 5), .ref (mm + 6), .int 0, .ref (mm + 7), .ref (mm + 8), .ref (mm + 9), .int 0, .int 0, .ref (mm + 10), .ref (mm + 11), .ref (mm + 12), .ref (mm + 13), .ref (mm + 14), .ref (mm + 15), .long 1, .int 0, .ref (mm + 16), .ref (mm + 17), .ref (mm + 18), .int 0, .long 0, .ref (mm + 19), .ref (mm + 20), .ref (mm + 21), .ref (mm + 22), .long 0]
def jModl (Y : Nat → ClassId) (h : jH) (mm : Nat) : Prop := h mm = some (.inr (9, [.int 0, .ref (mm + 1), .int 0, .ref (mm + 2), .int 0, .ref (mm + 3), .int 0, .int 0, .ref (mm + 4), .ref (mm + 5), .ref (mm + 6), .int 0, .ref (mm + 7), .ref (mm + 8), .ref (mm + 9), .int 0, .int 0, .ref (mm + 10), .ref (mm + 11), .ref (mm + 12), .ref (mm + 13), .ref (mm + 14), .ref (mm + 15), .long 1, .int 0, .ref (mm + 16), .ref (mm + 17), .ref (mm + 18), .int 0, .long 0, .ref (mm + 19), .ref (mm + 20), .ref (mm + 21), .ref (mm + 22), .long 0])) ∧ h (mm + 1) = some (.inl (Y 1, 13, .inr (.inl (fun _ => 0)))) ∧ h (mm + 2) = some (.inl (Y 1, 13, .inr (.inl jOne))) ∧ h (mm + 3) = some (.inl (Y 1, 13, .inr (.inl jOne))) ∧ h (mm + 4) = some (.inl (Y 1, 156, .inr (.inl (fun _ => 0)))) ∧ h (mm + 5) = some (.inl (Y 0, 12, .inl (fun _ => 0))) ∧ h (mm + 6) = some (.inl (Y 0, 12, .inl (fun _ => 0))) ∧ h (mm + 7) = some (.inl (Y 1, 156, .inr (.inl (fun _ => 0)))) ∧ h (mm + 8) = some (.inl (Y 0, 12, .inl (fun _ => 0))) ∧ h (mm + 9) = some (.inl (Y 0, 12, .inl (fun _ => 0))) ∧ h (mm + 18) = some (.inl (Y 1, 13, .inr (.inl (fun _ => 0)))) ∧ h (mm + 19) = some (.inl (Y 1, 13, .inr (.inl (fun _ => 0)))) ∧ h (mm + 22) = some (.inl (Y 1, 13, .inr (.inl (fun _ => 0))))
set_option maxHeartbeats 4000000 in
set_option maxRecDepth 100000 in
theorem k_fails0 (l : Launch) {b : Nat} {D : va_G} {Y : Nat → ClassId} {s0 : State} (Z : jS0 b D Y s0) (mm n : Nat) (v0 : Value) (tl : List Value) (c0 : Int32) (h : jH) (H0 : h mm = some (.inr (9, v0 :: tl))) : jMet l D s0 y_Modl_fails c_Modl_fails 3 (some .boolean) 1 [.ref mm, .int 0, .int c0] h n 0 0 (fun r h2 n2 => r = some (.int 0) ∧ n = n2 ∧ h2 mm = some (.inr (9, .int 0 :: tl)) ∧ ∀ x, x ≠ mm → h2 x = h x) := by
  refine jMet_of Z (by decide) (Nat.le_of_ble_eq_true rfl) ?_
  intro p e s m below meth c
  refine j_aload_n d_Modl_fails_0 0 rfl ?_
  refine j_iload_n d_Modl_fails_1 1 rfl ?_
  refine j_if_eq_t (tgt := 9) d_Modl_fails_2 (by decide) (by decide) ?_
  refine j_iconst d_Modl_fails_9 (v := 0) (by decide) ?_
  refine j_put iw_Modl t_Modl t_Modl_ok n_Modl (ci := 9) (kf := 0) rfl (by decide) g_855 rfl (t_Modl_ok 0 (by decide)) rfl rfl d_Modl_fails_10 H0 (Nat.le_of_ble_eq_true rfl) ?_
  refine j_upx (by simp only [List.set_cons_succ, List.set_cons_zero]; rfl) ?_
  refine j_iload_n d_Modl_fails_13 1 rfl ?_
  exact j_zret rfl (by decide) d_Modl_fails_14 ⟨rfl, rfl, (jh_up_s _ _ _), fun x h1 => (jh_up_n _ _ (by omega))⟩
set_option maxHeartbeats 4000000 in
set_option maxRecDepth 100000 in
theorem k_fails1 (l : Launch) {b : Nat} {D : va_G} {Y : Nat → ClassId} {s0 : State} (Z : jS0 b D Y s0) (mm n : Nat) (v0 : Value) (tl : List Value) (c0 : Int32) (h : jH) (H0 : h mm = some (.inr (9, v0 :: tl))) : jMet l D s0 y_Modl_fails c_Modl_fails 3 (some .boolean) 1 [.ref mm, .int 1, .int c0] h n 0 0 (fun r h2 n2 => r = some (.int 1) ∧ n = n2 ∧ h2 mm = some (.inr (9, .int c0 :: tl)) ∧ ∀ x, x ≠ mm → h2 x = h x) := by
  refine jMet_of Z (by decide) (Nat.le_of_ble_eq_true rfl) ?_
  intro p e s m below meth c
  refine j_aload_n d_Modl_fails_0 0 rfl ?_
  refine j_iload_n d_Modl_fails_1 1 rfl ?_
  refine j_if_eq_f (tgt := 9) d_Modl_fails_2 (by decide) (by decide) ?_
  refine j_iload_n d_Modl_fails_5 2 rfl ?_
  refine j_goto (tgt := 10) d_Modl_fails_6 (by decide) ?_
  refine j_put iw_Modl t_Modl t_Modl_ok n_Modl (ci := 9) (kf := 0) rfl (by decide) g_855 rfl (t_Modl_ok 0 (by decide)) rfl rfl d_Modl_fails_10 H0 (Nat.le_of_ble_eq_true rfl) ?_
  refine j_upx (by simp only [List.set_cons_succ, List.set_cons_zero]; rfl) ?_
  refine j_iload_n d_Modl_fails_13 1 rfl ?_
  exact j_zret rfl (by decide) d_Modl_fails_14 ⟨rfl, rfl, (jh_up_s _ _ _), fun x h1 => (jh_up_n _ _ (by omega))⟩
set_option maxHeartbeats 4000000 in
set_option maxRecDepth 100000 in
theorem k_thrown (l : Launch) {b : Nat} {D : va_G} {Y : Nat → ClassId} {s0 : State} (Z : jS0 b D Y s0) (mm n : Nat) (v0 : Int32) (tl : List Value) (h : jH) (H0 : h mm = some (.inr (9, .int v0 :: tl))) : jMet l D s0 y_Modl_thrown c_Modl_thrown 1 (some .int) 1 [.ref mm] h n 0 0 (fun r h2 n2 => r = some (.int v0) ∧ h = h2 ∧ n = n2) := by
  refine jMet_of Z (by decide) (Nat.le_of_ble_eq_true rfl) ?_
  intro p e s m below meth c
  refine j_aload_n d_Modl_thrown_0 0 rfl ?_
  refine j_get iw_Modl (ci := 9) (kf := 0) rfl (by decide) g_855 d_Modl_thrown_1 H0 rfl ?_
  exact j_iret rfl d_Modl_thrown_4 ⟨rfl, rfl, rfl⟩
set_option maxHeartbeats 4000000 in
set_option maxRecDepth 100000 in
theorem m_put (l : Launch) {b : Nat} {D : va_G} {Y : Nat → ClassId} {s0 : State} (Z : jS0 b D Y s0) (mm n : Nat) (h : jH) (HM : jModl Y h mm) (x0 : Int32) : jMet l D s0 y_Modl_put c_Modl_put 2 (some .int) 4 [.ref mm, .int x0] h n 0 0 (fun r h2 n2 => r = some (.int 1) ∧ n = n2 ∧ (∃ fs3, h2 mm = some (.inr (9, .int 0 :: fs3))) ∧ ∀ x, (x < mm ∨ mm + 23 ≤ x) → h2 x = h x) := by
  refine jMet_of Z (by decide) (Nat.le_of_ble_eq_true rfl) ?_
  intro p e s m below meth c
  obtain ⟨M0, M1, M2, M3, M4, M5, M6, M7, M8, M9, M18, M19, M22⟩ := HM
  refine j_aload_n d_Modl_put_0 0 rfl ?_
  refine j_aload_n d_Modl_put_1 0 rfl ?_
  refine j_get iw_Modl (ci := 9) (kf := 2) rfl (by decide) g_857 d_Modl_put_2 M0 rfl ?_
  refine j_bipush d_Modl_put_5 (v := 13) (by decide) ?_
  refine j_icmp_ne_t (tgt := 14) d_Modl_put_7 (by decide) (by decide) ?_
  refine j_iconst d_Modl_put_14 (v := 0) (by decide) ?_
  refine j_iconst d_Modl_put_15 (v := 1) (by decide) ?_
  refine j_callV (k_fails0 l Z mm _ _ _ 1 _ M0) ⟨⟨Nat.le_of_ble_eq_true rfl, Nat.le_of_ble_eq_true rfl⟩, g_970, g_973, g_10, (by decide +kernel), (by decide +kernel), (show _ = some 2 from by decide +kernel)⟩ g_972 gp_23 (ci := 9) rfl M0 ⟨(by first | exact Nat.le_of_ble_eq_true rfl | (simp only [jrm]; omega)), (by first | exact Nat.le_of_ble_eq_true rfl | (simp only [jrm]; omega))⟩ (Nat.le_of_ble_eq_true rfl) d_Modl_put_16 (fun r0 h0 n0 P0 => ?_)
  obtain ⟨rfl, rfl, O0, F0⟩ := P0
  have E0_0 := (F0 (mm + 1) (by omega)).trans M1
  have E0_1 := (F0 (mm + 2) (by omega)).trans M2
  have E0_2 := (F0 (mm + 3) (by omega)).trans M3
  have E0_3 := (F0 (mm + 4) (by omega)).trans M4
  have E0_4 := (F0 (mm + 5) (by omega)).trans M5
  have E0_5 := (F0 (mm + 6) (by omega)).trans M6
  have E0_6 := (F0 (mm + 7) (by omega)).trans M7
  have E0_7 := (F0 (mm + 8) (by omega)).trans M8
  have E0_8 := (F0 (mm + 9) (by omega)).trans M9
  have E0_9 := (F0 (mm + 18) (by omega)).trans M18
  have E0_10 := (F0 (mm + 19) (by omega)).trans M19
  have E0_11 := (F0 (mm + 22) (by omega)).trans M22
  refine j_if_eq_t (tgt := 24) d_Modl_put_19 (by decide) (by decide) ?_
  refine j_aload_n d_Modl_put_24 0 rfl ?_
  refine j_get iw_Modl (ci := 9) (kf := 1) rfl (by decide) g_856 d_Modl_put_25 O0 rfl ?_
  refine j_aload_n d_Modl_put_28 0 rfl ?_
  refine j_get iw_Modl (ci := 9) (kf := 2) rfl (by decide) g_857 d_Modl_put_29 O0 rfl ?_
  refine j_iload_n d_Modl_put_32 1 rfl ?_
  refine j_i2l d_Modl_put_33 rfl ?_
  refine j_last d_Modl_put_34 E0_0 (by unfold vp_in; decide) ?_
  refine j_aload_n d_Modl_put_35 0 rfl ?_
  refine j_dup d_Modl_put_36 rfl ?_
  refine j_get iw_Modl (ci := 9) (kf := 2) rfl (by decide) g_857 d_Modl_put_37 ((jh_up_n _ _ (by omega)).trans O0) rfl ?_
  refine j_iconst d_Modl_put_40 (v := 1) (by decide) ?_
  refine j_iadd d_Modl_put_41 ?_
  refine j_put iw_Modl t_Modl t_Modl_ok n_Modl (ci := 9) (kf := 2) rfl (by decide) g_857 rfl (t_Modl_ok 2 (by decide)) rfl rfl d_Modl_put_42 ((jh_up_n _ _ (by omega)).trans O0) (Nat.le_of_ble_eq_true rfl) ?_
  refine j_upx (by simp only [List.set_cons_succ, List.set_cons_zero]; rfl) ?_
  refine j_aload_n d_Modl_put_45 0 rfl ?_
  refine j_get iw_Modl (ci := 9) (kf := 2) rfl (by decide) g_857 d_Modl_put_46 (jh_up_s _ _ _) rfl ?_
  refine j_iret rfl d_Modl_put_49 ⟨rfl, rfl, ⟨_, (jh_up_s _ _ _)⟩, fun x hx => ?_⟩
  exact ((jh_up_n _ _ (by omega)).trans ((jh_up_n _ _ (by omega)).trans (F0 x (by omega))))
set_option maxHeartbeats 4000000 in
set_option maxRecDepth 100000 in
theorem m_clear (l : Launch) {b : Nat} {D : va_G} {Y : Nat → ClassId} {s0 : State} (Z : jS0 b D Y s0) (mm n : Nat) (h : jH) (HM : jModl Y h mm) : jMet l D s0 y_Modl_clear c_Modl_clear 2 (some .int) 4 [.ref mm] h n 0 0 (fun r h2 n2 => r = some (.int 0) ∧ n = n2 ∧ (∃ fs3, h2 mm = some (.inr (9, .int 0 :: fs3))) ∧ ∀ x, (x < mm ∨ mm + 23 ≤ x) → h2 x = h x) := by
  refine jMet_of Z (by decide) (Nat.le_of_ble_eq_true rfl) ?_
  intro p e s m below meth c
  obtain ⟨M0, M1, M2, M3, M4, M5, M6, M7, M8, M9, M18, M19, M22⟩ := HM
  refine j_aload_n d_Modl_clear_0 0 rfl ?_
  refine j_iconst d_Modl_clear_1 (v := 0) (by decide) ?_
  refine j_put iw_Modl t_Modl t_Modl_ok n_Modl (ci := 9) (kf := 0) rfl (by decide) g_855 rfl (t_Modl_ok 0 (by decide)) rfl rfl d_Modl_clear_2 M0 (Nat.le_of_ble_eq_true rfl) ?_
  refine j_upx (by simp only [List.set_cons_succ, List.set_cons_zero]; rfl) ?_
  refine j_aload_n d_Modl_clear_5 0 rfl ?_
  refine j_get iw_Modl (ci := 9) (kf := 2) rfl (by decide) g_857 d_Modl_clear_6 (jh_up_s _ _ _) rfl ?_
  refine j_istore_n d_Modl_clear_9 (Nat.le_of_ble_eq_true rfl) rfl ?_
  refine j_aload_n d_Modl_clear_10 1 rfl ?_
  refine j_iconst d_Modl_clear_11 (v := 0) (by decide) ?_
  refine j_put iw_Modl t_Modl t_Modl_ok n_Modl (ci := 9) (kf := 2) rfl (by decide) g_857 rfl (t_Modl_ok 2 (by decide)) rfl rfl d_Modl_clear_12 (jh_up_s _ _ _) (Nat.le_of_ble_eq_true rfl) ?_
  refine j_upx (by simp only [List.set_cons_succ, List.set_cons_zero]; rfl) ?_
  refine j_iload_n d_Modl_clear_15 0 rfl ?_
  refine j_iret rfl d_Modl_clear_16 ⟨rfl, rfl, ⟨_, (jh_up_s _ _ _)⟩, fun x hx => ?_⟩
  exact ((jh_up_n _ _ (by omega)).trans (jh_up_n _ _ (by omega)))
set_option maxHeartbeats 4000000 in
set_option maxRecDepth 100000 in
theorem m_tapeDegree (l : Launch) {b : Nat} {D : va_G} {Y : Nat → ClassId} {s0 : State} (Z : jS0 b D Y s0) (mm n : Nat) (h : jH) (HM : jModl Y h mm) : jMet l D s0 y_Modl_tapeDegree c_Modl_tapeDegree 2 (some .int) 1 [.ref mm] h n 0 0 (fun r h2 n2 => r = some (.int (-1)) ∧ h = h2 ∧ n = n2) := by
  refine jMet_of Z (by decide) (Nat.le_of_ble_eq_true rfl) ?_
  intro p e s m below meth c
  obtain ⟨M0, M1, M2, M3, M4, M5, M6, M7, M8, M9, M18, M19, M22⟩ := HM
  refine j_aload_n d_Modl_tapeDegree_0 0 rfl ?_
  refine j_get iw_Modl (ci := 9) (kf := 2) rfl (by decide) g_857 d_Modl_tapeDegree_1 M0 rfl ?_
  refine j_iconst d_Modl_tapeDegree_4 (v := 1) (by decide) ?_
  refine j_isub d_Modl_tapeDegree_5 ?_
  refine j_istore_n d_Modl_tapeDegree_6 (Nat.le_of_ble_eq_true rfl) rfl ?_
  refine j_iload_n d_Modl_tapeDegree_7 0 rfl ?_
  refine j_if_lt_t (tgt := 28) d_Modl_tapeDegree_8 (by decide) (by decide) ?_
  refine j_iload_n d_Modl_tapeDegree_28 0 rfl ?_
  exact j_iret rfl d_Modl_tapeDegree_29 ⟨rfl, rfl, rfl⟩
set_option maxHeartbeats 4000000 in
set_option maxRecDepth 100000 in
theorem m_take (l : Launch) {b : Nat} {D : va_G} {Y : Nat → ClassId} {s0 : State} (Z : jS0 b D Y s0) (mm n : Nat) (h : jH) (HM : jModl Y h mm) : jMet l D s0 y_Modl_take c_Modl_take 3 (some .int) 4 [.ref mm] h n 0 0 (fun r h2 n2 => r = some (.int 0) ∧ n = n2 ∧ (∃ fs3, h2 mm = some (.inr (9, .int 1 :: fs3))) ∧ ∀ x, (x < mm ∨ mm + 23 ≤ x) → h2 x = h x) := by
  refine jMet_of Z (by decide) (Nat.le_of_ble_eq_true rfl) ?_
  intro p e s m below meth c
  obtain ⟨M0, M1, M2, M3, M4, M5, M6, M7, M8, M9, M18, M19, M22⟩ := HM
  refine j_aload_n d_Modl_take_0 0 rfl ?_
  refine j_callV (m_tapeDegree l Z mm _ _ ⟨M0, M1, M2, M3, M4, M5, M6, M7, M8, M9, M18, M19, M22⟩) ⟨⟨Nat.le_of_ble_eq_true rfl, Nat.le_of_ble_eq_true rfl⟩, g_982, g_985, g_10, by decide +kernel⟩ g_984 gp_24 (ci := 9) rfl M0 ⟨(by first | exact Nat.le_of_ble_eq_true rfl | (simp only [jrm]; omega)), (by first | exact Nat.le_of_ble_eq_true rfl | (simp only [jrm]; omega))⟩ (Nat.le_of_ble_eq_true rfl) d_Modl_take_1 (fun r900 h900 n900 P900 => ?_)
  obtain ⟨rfl, rfl, rfl⟩ := P900
  refine j_istore_n d_Modl_take_4 (Nat.le_of_ble_eq_true rfl) rfl ?_
  refine j_aload_n d_Modl_take_5 1 rfl ?_
  refine j_iload_n d_Modl_take_6 0 rfl ?_
  refine j_if_ge_f (tgt := 14) d_Modl_take_7 (by decide) (by decide) ?_
  refine j_iconst d_Modl_take_10 (v := 1) (by decide) ?_
  refine j_goto (tgt := 15) d_Modl_take_11 (by decide) ?_
  refine j_iconst d_Modl_take_15 (v := 1) (by decide) ?_
  refine j_callV (k_fails1 l Z mm _ _ _ 1 _ M0) ⟨⟨Nat.le_of_ble_eq_true rfl, Nat.le_of_ble_eq_true rfl⟩, g_970, g_973, g_10, (by decide +kernel), (by decide +kernel), (show _ = some 2 from by decide +kernel)⟩ g_972 gp_23 (ci := 9) rfl M0 ⟨(by first | exact Nat.le_of_ble_eq_true rfl | (simp only [jrm]; omega)), (by first | exact Nat.le_of_ble_eq_true rfl | (simp only [jrm]; omega))⟩ (Nat.le_of_ble_eq_true rfl) d_Modl_take_16 (fun r1 h1 n1 P1 => ?_)
  obtain ⟨rfl, rfl, O1, F1⟩ := P1
  have E1_0 := (F1 (mm + 1) (by omega)).trans M1
  have E1_1 := (F1 (mm + 2) (by omega)).trans M2
  have E1_2 := (F1 (mm + 3) (by omega)).trans M3
  have E1_3 := (F1 (mm + 4) (by omega)).trans M4
  have E1_4 := (F1 (mm + 5) (by omega)).trans M5
  have E1_5 := (F1 (mm + 6) (by omega)).trans M6
  have E1_6 := (F1 (mm + 7) (by omega)).trans M7
  have E1_7 := (F1 (mm + 8) (by omega)).trans M8
  have E1_8 := (F1 (mm + 9) (by omega)).trans M9
  have E1_9 := (F1 (mm + 18) (by omega)).trans M18
  have E1_10 := (F1 (mm + 19) (by omega)).trans M19
  have E1_11 := (F1 (mm + 22) (by omega)).trans M22
  refine j_if_eq_f (tgt := 24) d_Modl_take_19 (by decide) (by decide) ?_
  refine j_iconst d_Modl_take_22 (v := 0) (by decide) ?_
  refine j_iret rfl d_Modl_take_23 ⟨rfl, rfl, ⟨_, O1⟩, fun x hx => ?_⟩
  exact (F1 x (by omega))
set_option maxHeartbeats 4000000 in
set_option maxRecDepth 100000 in
theorem m_times (l : Launch) {b : Nat} {D : va_G} {Y : Nat → ClassId} {s0 : State} (Z : jS0 b D Y s0) (mm n : Nat) (h : jH) (HM : jModl Y h mm) : jMet l D s0 y_Modl_times c_Modl_times 11 (some .int) 4 [.ref mm] h n 0 0 (fun r h2 n2 => r = some (.int 0) ∧ n = n2 ∧ (∃ fs3, h2 mm = some (.inr (9, .int 1 :: fs3))) ∧ ∀ x, (x < mm ∨ mm + 23 ≤ x) → h2 x = h x) := by
  refine jMet_of Z (by decide) (Nat.le_of_ble_eq_true rfl) ?_
  intro p e s m below meth c
  obtain ⟨M0, M1, M2, M3, M4, M5, M6, M7, M8, M9, M18, M19, M22⟩ := HM
  refine j_aload_n d_Modl_times_0 0 rfl ?_
  refine j_callV (m_tapeDegree l Z mm _ _ ⟨M0, M1, M2, M3, M4, M5, M6, M7, M8, M9, M18, M19, M22⟩) ⟨⟨Nat.le_of_ble_eq_true rfl, Nat.le_of_ble_eq_true rfl⟩, g_982, g_985, g_10, by decide +kernel⟩ g_984 gp_24 (ci := 9) rfl M0 ⟨(by first | exact Nat.le_of_ble_eq_true rfl | (simp only [jrm]; omega)), (by first | exact Nat.le_of_ble_eq_true rfl | (simp only [jrm]; omega))⟩ (Nat.le_of_ble_eq_true rfl) d_Modl_times_1 (fun r900 h900 n900 P900 => ?_)
  obtain ⟨rfl, rfl, rfl⟩ := P900
  refine j_istore_n d_Modl_times_4 (Nat.le_of_ble_eq_true rfl) rfl ?_
  refine j_aload_n d_Modl_times_5 1 rfl ?_
  refine j_iload_n d_Modl_times_6 0 rfl ?_
  refine j_if_ge_f (tgt := 14) d_Modl_times_7 (by decide) (by decide) ?_
  refine j_iconst d_Modl_times_10 (v := 1) (by decide) ?_
  refine j_goto (tgt := 15) d_Modl_times_11 (by decide) ?_
  refine j_iconst d_Modl_times_15 (v := 1) (by decide) ?_
  refine j_callV (k_fails1 l Z mm _ _ _ 1 _ M0) ⟨⟨Nat.le_of_ble_eq_true rfl, Nat.le_of_ble_eq_true rfl⟩, g_970, g_973, g_10, (by decide +kernel), (by decide +kernel), (show _ = some 2 from by decide +kernel)⟩ g_972 gp_23 (ci := 9) rfl M0 ⟨(by first | exact Nat.le_of_ble_eq_true rfl | (simp only [jrm]; omega)), (by first | exact Nat.le_of_ble_eq_true rfl | (simp only [jrm]; omega))⟩ (Nat.le_of_ble_eq_true rfl) d_Modl_times_16 (fun r2 h2 n2 P2 => ?_)
  obtain ⟨rfl, rfl, O2, F2⟩ := P2
  have E2_0 := (F2 (mm + 1) (by omega)).trans M1
  have E2_1 := (F2 (mm + 2) (by omega)).trans M2
  have E2_2 := (F2 (mm + 3) (by omega)).trans M3
  have E2_3 := (F2 (mm + 4) (by omega)).trans M4
  have E2_4 := (F2 (mm + 5) (by omega)).trans M5
  have E2_5 := (F2 (mm + 6) (by omega)).trans M6
  have E2_6 := (F2 (mm + 7) (by omega)).trans M7
  have E2_7 := (F2 (mm + 8) (by omega)).trans M8
  have E2_8 := (F2 (mm + 9) (by omega)).trans M9
  have E2_9 := (F2 (mm + 18) (by omega)).trans M18
  have E2_10 := (F2 (mm + 19) (by omega)).trans M19
  have E2_11 := (F2 (mm + 22) (by omega)).trans M22
  refine j_if_ne_t (tgt := 46) d_Modl_times_19 (by decide) (by decide) ?_
  refine j_iconst d_Modl_times_46 (v := 0) (by decide) ?_
  refine j_iret rfl d_Modl_times_47 ⟨rfl, rfl, ⟨_, O2⟩, fun x hx => ?_⟩
  exact (F2 x (by omega))
set_option maxHeartbeats 4000000 in
set_option maxRecDepth 100000 in
theorem m_common (l : Launch) {b : Nat} {D : va_G} {Y : Nat → ClassId} {s0 : State} (Z : jS0 b D Y s0) (mm n : Nat) (h : jH) (HM : jModl Y h mm) : jMet l D s0 y_Modl_common c_Modl_common 6 (some .int) 4 [.ref mm] h n 0 0 (fun r h2 n2 => r = some (.int 0) ∧ n = n2 ∧ (∃ fs3, h2 mm = some (.inr (9, .int 1 :: fs3))) ∧ ∀ x, (x < mm ∨ mm + 23 ≤ x) → h2 x = h x) := by
  refine jMet_of Z (by decide) (Nat.le_of_ble_eq_true rfl) ?_
  intro p e s m below meth c
  obtain ⟨M0, M1, M2, M3, M4, M5, M6, M7, M8, M9, M18, M19, M22⟩ := HM
  refine j_aload_n d_Modl_common_0 0 rfl ?_
  refine j_callV (m_tapeDegree l Z mm _ _ ⟨M0, M1, M2, M3, M4, M5, M6, M7, M8, M9, M18, M19, M22⟩) ⟨⟨Nat.le_of_ble_eq_true rfl, Nat.le_of_ble_eq_true rfl⟩, g_982, g_985, g_10, by decide +kernel⟩ g_984 gp_24 (ci := 9) rfl M0 ⟨(by first | exact Nat.le_of_ble_eq_true rfl | (simp only [jrm]; omega)), (by first | exact Nat.le_of_ble_eq_true rfl | (simp only [jrm]; omega))⟩ (Nat.le_of_ble_eq_true rfl) d_Modl_common_1 (fun r900 h900 n900 P900 => ?_)
  obtain ⟨rfl, rfl, rfl⟩ := P900
  refine j_istore_n d_Modl_common_4 (Nat.le_of_ble_eq_true rfl) rfl ?_
  refine j_aload_n d_Modl_common_5 1 rfl ?_
  refine j_iload_n d_Modl_common_6 0 rfl ?_
  refine j_if_ge_f (tgt := 14) d_Modl_common_7 (by decide) (by decide) ?_
  refine j_iconst d_Modl_common_10 (v := 1) (by decide) ?_
  refine j_goto (tgt := 15) d_Modl_common_11 (by decide) ?_
  refine j_iconst d_Modl_common_15 (v := 1) (by decide) ?_
  refine j_callV (k_fails1 l Z mm _ _ _ 1 _ M0) ⟨⟨Nat.le_of_ble_eq_true rfl, Nat.le_of_ble_eq_true rfl⟩, g_970, g_973, g_10, (by decide +kernel), (by decide +kernel), (show _ = some 2 from by decide +kernel)⟩ g_972 gp_23 (ci := 9) rfl M0 ⟨(by first | exact Nat.le_of_ble_eq_true rfl | (simp only [jrm]; omega)), (by first | exact Nat.le_of_ble_eq_true rfl | (simp only [jrm]; omega))⟩ (Nat.le_of_ble_eq_true rfl) d_Modl_common_16 (fun r3 h3 n3 P3 => ?_)
  obtain ⟨rfl, rfl, O3, F3⟩ := P3
  have E3_0 := (F3 (mm + 1) (by omega)).trans M1
  have E3_1 := (F3 (mm + 2) (by omega)).trans M2
  have E3_2 := (F3 (mm + 3) (by omega)).trans M3
  have E3_3 := (F3 (mm + 4) (by omega)).trans M4
  have E3_4 := (F3 (mm + 5) (by omega)).trans M5
  have E3_5 := (F3 (mm + 6) (by omega)).trans M6
  have E3_6 := (F3 (mm + 7) (by omega)).trans M7
  have E3_7 := (F3 (mm + 8) (by omega)).trans M8
  have E3_8 := (F3 (mm + 9) (by omega)).trans M9
  have E3_9 := (F3 (mm + 18) (by omega)).trans M18
  have E3_10 := (F3 (mm + 19) (by omega)).trans M19
  have E3_11 := (F3 (mm + 22) (by omega)).trans M22
  refine j_if_eq_f (tgt := 24) d_Modl_common_19 (by decide) (by decide) ?_
  refine j_iconst d_Modl_common_22 (v := 0) (by decide) ?_
  refine j_iret rfl d_Modl_common_23 ⟨rfl, rfl, ⟨_, O3⟩, fun x hx => ?_⟩
  exact (F3 x (by omega))
set_option maxHeartbeats 4000000 in
set_option maxRecDepth 100000 in
theorem m_divides (l : Launch) {b : Nat} {D : va_G} {Y : Nat → ClassId} {s0 : State} (Z : jS0 b D Y s0) (mm n : Nat) (h : jH) (HM : jModl Y h mm) : jMet l D s0 y_Modl_divides c_Modl_divides 3 (some .boolean) 4 [.ref mm] h n 0 0 (fun r h2 n2 => r = some (.int 0) ∧ n = n2 ∧ (∃ fs3, h2 mm = some (.inr (9, .int 1 :: fs3))) ∧ ∀ x, (x < mm ∨ mm + 23 ≤ x) → h2 x = h x) := by
  refine jMet_of Z (by decide) (Nat.le_of_ble_eq_true rfl) ?_
  intro p e s m below meth c
  obtain ⟨M0, M1, M2, M3, M4, M5, M6, M7, M8, M9, M18, M19, M22⟩ := HM
  refine j_aload_n d_Modl_divides_0 0 rfl ?_
  refine j_callV (m_tapeDegree l Z mm _ _ ⟨M0, M1, M2, M3, M4, M5, M6, M7, M8, M9, M18, M19, M22⟩) ⟨⟨Nat.le_of_ble_eq_true rfl, Nat.le_of_ble_eq_true rfl⟩, g_982, g_985, g_10, by decide +kernel⟩ g_984 gp_24 (ci := 9) rfl M0 ⟨(by first | exact Nat.le_of_ble_eq_true rfl | (simp only [jrm]; omega)), (by first | exact Nat.le_of_ble_eq_true rfl | (simp only [jrm]; omega))⟩ (Nat.le_of_ble_eq_true rfl) d_Modl_divides_1 (fun r900 h900 n900 P900 => ?_)
  obtain ⟨rfl, rfl, rfl⟩ := P900
  refine j_istore_n d_Modl_divides_4 (Nat.le_of_ble_eq_true rfl) rfl ?_
  refine j_aload_n d_Modl_divides_5 1 rfl ?_
  refine j_iload_n d_Modl_divides_6 0 rfl ?_
  refine j_if_ge_f (tgt := 14) d_Modl_divides_7 (by decide) (by decide) ?_
  refine j_iconst d_Modl_divides_10 (v := 1) (by decide) ?_
  refine j_goto (tgt := 15) d_Modl_divides_11 (by decide) ?_
  refine j_iconst d_Modl_divides_15 (v := 1) (by decide) ?_
  refine j_callV (k_fails1 l Z mm _ _ _ 1 _ M0) ⟨⟨Nat.le_of_ble_eq_true rfl, Nat.le_of_ble_eq_true rfl⟩, g_970, g_973, g_10, (by decide +kernel), (by decide +kernel), (show _ = some 2 from by decide +kernel)⟩ g_972 gp_23 (ci := 9) rfl M0 ⟨(by first | exact Nat.le_of_ble_eq_true rfl | (simp only [jrm]; omega)), (by first | exact Nat.le_of_ble_eq_true rfl | (simp only [jrm]; omega))⟩ (Nat.le_of_ble_eq_true rfl) d_Modl_divides_16 (fun r4 h4 n4 P4 => ?_)
  obtain ⟨rfl, rfl, O4, F4⟩ := P4
  have E4_0 := (F4 (mm + 1) (by omega)).trans M1
  have E4_1 := (F4 (mm + 2) (by omega)).trans M2
  have E4_2 := (F4 (mm + 3) (by omega)).trans M3
  have E4_3 := (F4 (mm + 4) (by omega)).trans M4
  have E4_4 := (F4 (mm + 5) (by omega)).trans M5
  have E4_5 := (F4 (mm + 6) (by omega)).trans M6
  have E4_6 := (F4 (mm + 7) (by omega)).trans M7
  have E4_7 := (F4 (mm + 8) (by omega)).trans M8
  have E4_8 := (F4 (mm + 9) (by omega)).trans M9
  have E4_9 := (F4 (mm + 18) (by omega)).trans M18
  have E4_10 := (F4 (mm + 19) (by omega)).trans M19
  have E4_11 := (F4 (mm + 22) (by omega)).trans M22
  refine j_if_eq_f (tgt := 24) d_Modl_divides_19 (by decide) (by decide) ?_
  refine j_iconst d_Modl_divides_22 (v := 0) (by decide) ?_
  refine j_zret rfl (by decide) d_Modl_divides_23 ⟨rfl, rfl, ⟨_, O4⟩, fun x hx => ?_⟩
  exact (F4 x (by omega))
set_option maxHeartbeats 4000000 in
set_option maxRecDepth 100000 in
theorem m_degree (l : Launch) {b : Nat} {D : va_G} {Y : Nat → ClassId} {s0 : State} (Z : jS0 b D Y s0) (mm n : Nat) (h : jH) (HM : jModl Y h mm) : jMet l D s0 y_Modl_degree c_Modl_degree 1 (some .int) 4 [.ref mm] h n 0 0 (fun r h2 n2 => r = some (.int 0) ∧ n = n2 ∧ (∃ fs3, h2 mm = some (.inr (9, .int 0 :: fs3))) ∧ ∀ x, (x < mm ∨ mm + 23 ≤ x) → h2 x = h x) := by
  refine jMet_of Z (by decide) (Nat.le_of_ble_eq_true rfl) ?_
  intro p e s m below meth c
  obtain ⟨M0, M1, M2, M3, M4, M5, M6, M7, M8, M9, M18, M19, M22⟩ := HM
  refine j_aload_n d_Modl_degree_0 0 rfl ?_
  refine j_iconst d_Modl_degree_1 (v := 0) (by decide) ?_
  refine j_put iw_Modl t_Modl t_Modl_ok n_Modl (ci := 9) (kf := 0) rfl (by decide) g_855 rfl (t_Modl_ok 0 (by decide)) rfl rfl d_Modl_degree_2 M0 (Nat.le_of_ble_eq_true rfl) ?_
  refine j_upx (by simp only [List.set_cons_succ, List.set_cons_zero]; rfl) ?_
  refine j_aload_n d_Modl_degree_5 0 rfl ?_
  refine j_get iw_Modl (ci := 9) (kf := 4) rfl (by decide) g_859 d_Modl_degree_6 (jh_up_s _ _ _) rfl ?_
  refine j_iret rfl d_Modl_degree_9 ⟨rfl, rfl, ⟨_, (jh_up_s _ _ _)⟩, fun x hx => ?_⟩
  exact (jh_up_n _ _ (by omega))
set_option maxHeartbeats 4000000 in
set_option maxRecDepth 100000 in
theorem m_gcd01 (l : Launch) {b : Nat} {D : va_G} {Y : Nat → ClassId} {s0 : State} (Z : jS0 b D Y s0) (n : Nat) (h : jH) : jMet l D s0 y_Modl_gcd c_Modl_gcd 10 (some .long) 1 [.long 0, .long 1] h n 0 0 (fun r h2 n2 => r = some (.long 1) ∧ h = h2 ∧ n = n2) := by
  refine jMet_of Z (by decide) (Nat.le_of_ble_eq_true rfl) ?_
  intro p e s m below meth c
  refine j_lload_n d_Modl_gcd_0 0 rfl ?_
  refine j_lconst d_Modl_gcd_1 (v := 0) (by decide) ?_
  refine j_lcmp d_Modl_gcd_2 ?_
  refine j_if_ge_t (tgt := 11) d_Modl_gcd_3 (by decide) (by decide) ?_
  refine j_lload_n d_Modl_gcd_11 0 rfl ?_
  refine j_lstore d_Modl_gcd_12 (Nat.le_of_ble_eq_true rfl) rfl ?_
  refine j_lload_n d_Modl_gcd_14 2 rfl ?_
  refine j_lconst d_Modl_gcd_15 (v := 0) (by decide) ?_
  refine j_lcmp d_Modl_gcd_16 ?_
  refine j_if_ge_t (tgt := 25) d_Modl_gcd_17 (by decide) (by decide) ?_
  refine j_lload_n d_Modl_gcd_25 2 rfl ?_
  refine j_lstore d_Modl_gcd_26 (Nat.le_of_ble_eq_true rfl) rfl ?_
  refine j_lload d_Modl_gcd_28 0 rfl ?_
  refine j_lconst d_Modl_gcd_30 (v := 0) (by decide) ?_
  refine j_lcmp d_Modl_gcd_31 ?_
  refine j_if_eq_f (tgt := 53) d_Modl_gcd_32 (by decide) (by decide) ?_
  refine j_lload d_Modl_gcd_35 1 rfl ?_
  refine j_lload d_Modl_gcd_37 0 rfl ?_
  refine j_lrem d_Modl_gcd_39 (by decide) ?_
  refine j_lstore d_Modl_gcd_40 (Nat.le_of_ble_eq_true rfl) rfl ?_
  refine j_lload d_Modl_gcd_42 1 rfl ?_
  refine j_lstore d_Modl_gcd_44 (Nat.le_of_ble_eq_true rfl) rfl ?_
  refine j_lload d_Modl_gcd_46 1 rfl ?_
  refine j_lstore d_Modl_gcd_48 (Nat.le_of_ble_eq_true rfl) rfl ?_
  refine j_goto (tgt := 28) d_Modl_gcd_50 (by decide) ?_
  refine j_lload d_Modl_gcd_28 0 rfl ?_
  refine j_lconst d_Modl_gcd_30 (v := 0) (by decide) ?_
  refine j_lcmp d_Modl_gcd_31 ?_
  refine j_if_eq_t (tgt := 53) d_Modl_gcd_32 (by decide) (by decide) ?_
  refine j_lload d_Modl_gcd_53 1 rfl ?_
  exact j_lret rfl d_Modl_gcd_55 ⟨rfl, rfl, rfl⟩
set_option maxHeartbeats 4000000 in
set_option maxRecDepth 100000 in
theorem m_contentOf (l : Launch) {b : Nat} {D : va_G} {Y : Nat → ClassId} {s0 : State} (Z : jS0 b D Y s0) (q n : Nat) (h : jH) (H0 : h q = some (.inl (Y 1, 13, .inr (.inl jOne)))) : jMet l D s0 y_Modl_contentOf c_Modl_contentOf 5 (some .long) 2 [.ref q, .int 0] h n 0 0 (fun r h2 n2 => r = some (.long 1) ∧ h = h2 ∧ n = n2) := by
  refine jMet_of Z (by decide) (Nat.le_of_ble_eq_true rfl) ?_
  intro p e s m below meth c
  refine j_lconst d_Modl_contentOf_0 (v := 0) (by decide) ?_
  refine j_lstore_n d_Modl_contentOf_1 (Nat.le_of_ble_eq_true rfl) rfl ?_
  refine j_iconst d_Modl_contentOf_2 (v := 0) (by decide) ?_
  refine j_istore d_Modl_contentOf_3 (Nat.le_of_ble_eq_true rfl) rfl ?_
  refine j_iload d_Modl_contentOf_5 0 rfl ?_
  refine j_iload_n d_Modl_contentOf_7 3 rfl ?_
  refine j_icmp_gt_f (tgt := 26) d_Modl_contentOf_8 (by decide) (by decide) ?_
  refine j_lload_n d_Modl_contentOf_11 1 rfl ?_
  refine j_aload_n d_Modl_contentOf_12 2 rfl ?_
  refine j_iload d_Modl_contentOf_13 0 rfl ?_
  refine j_lald d_Modl_contentOf_15 H0 (by unfold vp_in; decide) ?_
  refine j_callS (m_gcd01 l Z _ _) ⟨⟨Nat.le_of_ble_eq_true rfl, Nat.le_of_ble_eq_true rfl⟩, g_1009, g_1011, g_10, (by decide +kernel), (by decide +kernel), (show _ = some 2 from by decide +kernel)⟩ g_1010 ⟨(by first | exact Nat.le_of_ble_eq_true rfl | (simp only [jrm]; omega)), (by first | exact Nat.le_of_ble_eq_true rfl | (simp only [jrm]; omega))⟩ (Nat.le_of_ble_eq_true rfl) d_Modl_contentOf_16 (fun r0 h0 n0 P0 => ?_)
  obtain ⟨rfl, rfl, rfl⟩ := P0
  refine j_lstore_n d_Modl_contentOf_19 (Nat.le_of_ble_eq_true rfl) rfl ?_
  refine j_iinc d_Modl_contentOf_20 1 rfl rfl (Nat.le_of_ble_eq_true rfl) rfl ?_
  refine j_goto (tgt := 5) d_Modl_contentOf_23 (by decide) ?_
  refine j_iload d_Modl_contentOf_5 0 rfl ?_
  refine j_iload_n d_Modl_contentOf_7 3 rfl ?_
  refine j_icmp_gt_t (tgt := 26) d_Modl_contentOf_8 (by decide) (by decide) ?_
  refine j_aload_n d_Modl_contentOf_26 2 rfl ?_
  refine j_iload_n d_Modl_contentOf_27 3 rfl ?_
  refine j_lald d_Modl_contentOf_28 H0 (by unfold vp_in; decide) ?_
  refine j_lconst d_Modl_contentOf_29 (v := 0) (by decide) ?_
  refine j_lcmp d_Modl_contentOf_30 ?_
  refine j_if_ge_t (tgt := 39) d_Modl_contentOf_31 (by decide) (by decide) ?_
  refine j_lload_n d_Modl_contentOf_39 1 rfl ?_
  exact j_lret rfl d_Modl_contentOf_40 ⟨rfl, rfl, rfl⟩
set_option maxHeartbeats 4000000 in
set_option maxRecDepth 100000 in
theorem m_content (l : Launch) {b : Nat} {D : va_G} {Y : Nat → ClassId} {s0 : State} (Z : jS0 b D Y s0) (mm n : Nat) (h : jH) (HM : jModl Y h mm) : jMet l D s0 y_Modl_content c_Modl_content 1 (some .long) 4 [.ref mm] h n 0 0 (fun r h2 n2 => r = some (.long 1) ∧ n = n2 ∧ (∃ fs3, h2 mm = some (.inr (9, .int 0 :: fs3))) ∧ ∀ x, (x < mm ∨ mm + 23 ≤ x) → h2 x = h x) := by
  refine jMet_of Z (by decide) (Nat.le_of_ble_eq_true rfl) ?_
  intro p e s m below meth c
  obtain ⟨M0, M1, M2, M3, M4, M5, M6, M7, M8, M9, M18, M19, M22⟩ := HM
  refine j_aload_n d_Modl_content_0 0 rfl ?_
  refine j_iconst d_Modl_content_1 (v := 0) (by decide) ?_
  refine j_put iw_Modl t_Modl t_Modl_ok n_Modl (ci := 9) (kf := 0) rfl (by decide) g_855 rfl (t_Modl_ok 0 (by decide)) rfl rfl d_Modl_content_2 M0 (Nat.le_of_ble_eq_true rfl) ?_
  refine j_upx (by simp only [List.set_cons_succ, List.set_cons_zero]; rfl) ?_
  refine j_aload_n d_Modl_content_5 0 rfl ?_
  refine j_get iw_Modl (ci := 9) (kf := 3) rfl (by decide) g_858 d_Modl_content_6 (jh_up_s _ _ _) rfl ?_
  refine j_aload_n d_Modl_content_9 0 rfl ?_
  refine j_get iw_Modl (ci := 9) (kf := 4) rfl (by decide) g_859 d_Modl_content_10 (jh_up_s _ _ _) rfl ?_
  refine j_callS (m_contentOf l Z (mm + 2) _ _ ((jh_up_n _ _ (by omega)).trans M2)) ⟨⟨Nat.le_of_ble_eq_true rfl, Nat.le_of_ble_eq_true rfl⟩, g_1006, g_1008, g_10, (by decide +kernel), (by decide +kernel), (show _ = some 2 from by decide +kernel)⟩ g_1007 ⟨(by first | exact Nat.le_of_ble_eq_true rfl | (simp only [jrm]; omega)), (by first | exact Nat.le_of_ble_eq_true rfl | (simp only [jrm]; omega))⟩ (Nat.le_of_ble_eq_true rfl) d_Modl_content_13 (fun r0 h0 n0 P0 => ?_)
  obtain ⟨rfl, rfl, rfl⟩ := P0
  refine j_lret rfl d_Modl_content_16 ⟨rfl, rfl, ⟨_, (jh_up_s _ _ _)⟩, fun x hx => ?_⟩
  exact (jh_up_n _ _ (by omega))
set_option maxHeartbeats 4000000 in
set_option maxRecDepth 100000 in
theorem m_at (l : Launch) {b : Nat} {D : va_G} {Y : Nat → ClassId} {s0 : State} (Z : jS0 b D Y s0) (mm n : Nat) (h : jH) (HM : jModl Y h mm) (x0 : Int32) (h1 : ¬ x0 < 0) (h2 : x0 ≤ 12) : jMet l D s0 y_Modl_at c_Modl_at 2 (some .int) 4 [.ref mm, .int x0] h n 0 0 (fun r h2 n2 => r = some (.int (jOne x0.toNatClampNeg).toInt32) ∧ n = n2 ∧ (∃ fs3, h2 mm = some (.inr (9, .int 0 :: fs3))) ∧ ∀ x, (x < mm ∨ mm + 23 ≤ x) → h2 x = h x) := by
  refine jMet_of Z (by decide) (Nat.le_of_ble_eq_true rfl) ?_
  intro p e s m below meth c
  obtain ⟨M0, M1, M2, M3, M4, M5, M6, M7, M8, M9, M18, M19, M22⟩ := HM
  refine j_aload_n d_Modl_at_0 0 rfl ?_
  refine j_iload_n d_Modl_at_1 1 rfl ?_
  refine j_if_lt_f (tgt := 11) d_Modl_at_2 (by decide) h1 ?_
  refine j_iload_n d_Modl_at_5 1 rfl ?_
  refine j_bipush d_Modl_at_6 (v := 12) (by decide) ?_
  refine j_icmp_le_t (tgt := 15) d_Modl_at_8 (by decide) h2 ?_
  refine j_iconst d_Modl_at_15 (v := 0) (by decide) ?_
  refine j_iconst d_Modl_at_16 (v := 1) (by decide) ?_
  refine j_callV (k_fails0 l Z mm _ _ _ 1 _ M0) ⟨⟨Nat.le_of_ble_eq_true rfl, Nat.le_of_ble_eq_true rfl⟩, g_970, g_973, g_10, (by decide +kernel), (by decide +kernel), (show _ = some 2 from by decide +kernel)⟩ g_972 gp_23 (ci := 9) rfl M0 ⟨(by first | exact Nat.le_of_ble_eq_true rfl | (simp only [jrm]; omega)), (by first | exact Nat.le_of_ble_eq_true rfl | (simp only [jrm]; omega))⟩ (Nat.le_of_ble_eq_true rfl) d_Modl_at_17 (fun r5 h5 n5 P5 => ?_)
  obtain ⟨rfl, rfl, O5, F5⟩ := P5
  have E5_0 := (F5 (mm + 1) (by omega)).trans M1
  have E5_1 := (F5 (mm + 2) (by omega)).trans M2
  have E5_2 := (F5 (mm + 3) (by omega)).trans M3
  have E5_3 := (F5 (mm + 4) (by omega)).trans M4
  have E5_4 := (F5 (mm + 5) (by omega)).trans M5
  have E5_5 := (F5 (mm + 6) (by omega)).trans M6
  have E5_6 := (F5 (mm + 7) (by omega)).trans M7
  have E5_7 := (F5 (mm + 8) (by omega)).trans M8
  have E5_8 := (F5 (mm + 9) (by omega)).trans M9
  have E5_9 := (F5 (mm + 18) (by omega)).trans M18
  have E5_10 := (F5 (mm + 19) (by omega)).trans M19
  have E5_11 := (F5 (mm + 22) (by omega)).trans M22
  refine j_if_eq_t (tgt := 27) d_Modl_at_20 (by decide) (by decide) ?_
  refine j_aload_n d_Modl_at_27 0 rfl ?_
  refine j_get iw_Modl (ci := 9) (kf := 3) rfl (by decide) g_858 d_Modl_at_28 O5 rfl ?_
  refine j_iload_n d_Modl_at_31 1 rfl ?_
  refine j_lald d_Modl_at_32 E5_1 (by
    obtain ⟨j, hj, rfl⟩ := nI_of2 (M := 12) (n := 12) rfl h1 h2
    exact nI_in (by omega) (by decide)) ?_
  refine j_l2i d_Modl_at_33 rfl ?_
  refine j_iret rfl d_Modl_at_34 ⟨rfl, rfl, ⟨_, O5⟩, fun x hx => ?_⟩
  exact (F5 x (by omega))
set_option maxHeartbeats 4000000 in
set_option maxRecDepth 100000 in
theorem n_at (l : Launch) {b : Nat} {D : va_G} {Y : Nat → ClassId} {s0 : State} (Z : jS0 b D Y s0) (mm n : Nat) (h : jH) (HM : jModl Y h mm) (x0 : Int32) (h1 : x0 < 0 ∨ ¬ x0 ≤ 12) : jMet l D s0 y_Modl_at c_Modl_at 2 (some .int) 4 [.ref mm, .int x0] h n 0 0 (fun r h2 n2 => r = some (.int 0) ∧ n = n2 ∧ (∃ fs3, h2 mm = some (.inr (9, .int 1 :: fs3))) ∧ ∀ x, (x < mm ∨ mm + 23 ≤ x) → h2 x = h x) := by
  refine jMet_of Z (by decide) (Nat.le_of_ble_eq_true rfl) ?_
  intro p e s m below meth c
  obtain ⟨M0, M1, M2, M3, M4, M5, M6, M7, M8, M9, M18, M19, M22⟩ := HM
  by_cases h0 : x0 < 0
  · refine j_aload_n d_Modl_at_0 0 rfl ?_
    refine j_iload_n d_Modl_at_1 1 rfl ?_
    refine j_if_lt_t (tgt := 11) d_Modl_at_2 (by decide) h0 ?_
    refine j_iconst d_Modl_at_11 (v := 1) (by decide) ?_
    refine j_goto (tgt := 16) d_Modl_at_12 (by decide) ?_
    refine j_iconst d_Modl_at_16 (v := 1) (by decide) ?_
    refine j_callV (k_fails1 l Z mm _ _ _ 1 _ M0) ⟨⟨Nat.le_of_ble_eq_true rfl, Nat.le_of_ble_eq_true rfl⟩, g_970, g_973, g_10, (by decide +kernel), (by decide +kernel), (show _ = some 2 from by decide +kernel)⟩ g_972 gp_23 (ci := 9) rfl M0 ⟨(by first | exact Nat.le_of_ble_eq_true rfl | (simp only [jrm]; omega)), (by first | exact Nat.le_of_ble_eq_true rfl | (simp only [jrm]; omega))⟩ (Nat.le_of_ble_eq_true rfl) d_Modl_at_17 (fun r6 h6 n6 P6 => ?_)
    obtain ⟨rfl, rfl, O6, F6⟩ := P6
    have E6_0 := (F6 (mm + 1) (by omega)).trans M1
    have E6_1 := (F6 (mm + 2) (by omega)).trans M2
    have E6_2 := (F6 (mm + 3) (by omega)).trans M3
    have E6_3 := (F6 (mm + 4) (by omega)).trans M4
    have E6_4 := (F6 (mm + 5) (by omega)).trans M5
    have E6_5 := (F6 (mm + 6) (by omega)).trans M6
    have E6_6 := (F6 (mm + 7) (by omega)).trans M7
    have E6_7 := (F6 (mm + 8) (by omega)).trans M8
    have E6_8 := (F6 (mm + 9) (by omega)).trans M9
    have E6_9 := (F6 (mm + 18) (by omega)).trans M18
    have E6_10 := (F6 (mm + 19) (by omega)).trans M19
    have E6_11 := (F6 (mm + 22) (by omega)).trans M22
    refine j_if_eq_f (tgt := 27) d_Modl_at_20 (by decide) (by decide) ?_
    refine j_iconst d_Modl_at_23 (v := 0) (by decide) ?_
    refine j_goto (tgt := 34) d_Modl_at_24 (by decide) ?_
    refine j_iret rfl d_Modl_at_34 ⟨rfl, rfl, ⟨_, O6⟩, fun x hx => ?_⟩
    exact (F6 x (by omega))
  · refine j_aload_n d_Modl_at_0 0 rfl ?_
    refine j_iload_n d_Modl_at_1 1 rfl ?_
    refine j_if_lt_f (tgt := 11) d_Modl_at_2 (by decide) h0 ?_
    refine j_iload_n d_Modl_at_5 1 rfl ?_
    refine j_bipush d_Modl_at_6 (v := 12) (by decide) ?_
    refine j_icmp_le_f (tgt := 15) d_Modl_at_8 (by decide) (h1.resolve_left h0) ?_
    refine j_iconst d_Modl_at_11 (v := 1) (by decide) ?_
    refine j_goto (tgt := 16) d_Modl_at_12 (by decide) ?_
    refine j_iconst d_Modl_at_16 (v := 1) (by decide) ?_
    refine j_callV (k_fails1 l Z mm _ _ _ 1 _ M0) ⟨⟨Nat.le_of_ble_eq_true rfl, Nat.le_of_ble_eq_true rfl⟩, g_970, g_973, g_10, (by decide +kernel), (by decide +kernel), (show _ = some 2 from by decide +kernel)⟩ g_972 gp_23 (ci := 9) rfl M0 ⟨(by first | exact Nat.le_of_ble_eq_true rfl | (simp only [jrm]; omega)), (by first | exact Nat.le_of_ble_eq_true rfl | (simp only [jrm]; omega))⟩ (Nat.le_of_ble_eq_true rfl) d_Modl_at_17 (fun r7 h7 n7 P7 => ?_)
    obtain ⟨rfl, rfl, O7, F7⟩ := P7
    have E7_0 := (F7 (mm + 1) (by omega)).trans M1
    have E7_1 := (F7 (mm + 2) (by omega)).trans M2
    have E7_2 := (F7 (mm + 3) (by omega)).trans M3
    have E7_3 := (F7 (mm + 4) (by omega)).trans M4
    have E7_4 := (F7 (mm + 5) (by omega)).trans M5
    have E7_5 := (F7 (mm + 6) (by omega)).trans M6
    have E7_6 := (F7 (mm + 7) (by omega)).trans M7
    have E7_7 := (F7 (mm + 8) (by omega)).trans M8
    have E7_8 := (F7 (mm + 9) (by omega)).trans M9
    have E7_9 := (F7 (mm + 18) (by omega)).trans M18
    have E7_10 := (F7 (mm + 19) (by omega)).trans M19
    have E7_11 := (F7 (mm + 22) (by omega)).trans M22
    refine j_if_eq_f (tgt := 27) d_Modl_at_20 (by decide) (by decide) ?_
    refine j_iconst d_Modl_at_23 (v := 0) (by decide) ?_
    refine j_goto (tgt := 34) d_Modl_at_24 (by decide) ?_
    refine j_iret rfl d_Modl_at_34 ⟨rfl, rfl, ⟨_, O7⟩, fun x hx => ?_⟩
    exact (F7 x (by omega))
set_option maxHeartbeats 4000000 in
set_option maxRecDepth 100000 in
theorem n_factor (l : Launch) {b : Nat} {D : va_G} {Y : Nat → ClassId} {s0 : State} (Z : jS0 b D Y s0) (mm n : Nat) (h : jH) (HM : jModl Y h mm) (x0 x1 : Int32) : jMet l D s0 y_Modl_factor c_Modl_factor 3 (some .int) 4 [.ref mm, .int x0, .int x1] h n 0 0 (fun r h2 n2 => r = some (.int 0) ∧ n = n2 ∧ (∃ fs3, h2 mm = some (.inr (9, .int 1 :: fs3))) ∧ ∀ x, (x < mm ∨ mm + 23 ≤ x) → h2 x = h x) := by
  refine jMet_of Z (by decide) (Nat.le_of_ble_eq_true rfl) ?_
  intro p e s m below meth c
  obtain ⟨M0, M1, M2, M3, M4, M5, M6, M7, M8, M9, M18, M19, M22⟩ := HM
  by_cases h0 : x0 < 0
  · refine j_aload_n d_Modl_factor_0 0 rfl ?_
    refine j_iload_n d_Modl_factor_1 1 rfl ?_
    refine j_if_lt_t (tgt := 22) d_Modl_factor_2 (by decide) h0 ?_
    refine j_iconst d_Modl_factor_22 (v := 1) (by decide) ?_
    refine j_goto (tgt := 27) d_Modl_factor_23 (by decide) ?_
    refine j_iconst d_Modl_factor_27 (v := 1) (by decide) ?_
    refine j_callV (k_fails1 l Z mm _ _ _ 1 _ M0) ⟨⟨Nat.le_of_ble_eq_true rfl, Nat.le_of_ble_eq_true rfl⟩, g_970, g_973, g_10, (by decide +kernel), (by decide +kernel), (show _ = some 2 from by decide +kernel)⟩ g_972 gp_23 (ci := 9) rfl M0 ⟨(by first | exact Nat.le_of_ble_eq_true rfl | (simp only [jrm]; omega)), (by first | exact Nat.le_of_ble_eq_true rfl | (simp only [jrm]; omega))⟩ (Nat.le_of_ble_eq_true rfl) d_Modl_factor_28 (fun r8 h8 n8 P8 => ?_)
    obtain ⟨rfl, rfl, O8, F8⟩ := P8
    have E8_0 := (F8 (mm + 1) (by omega)).trans M1
    have E8_1 := (F8 (mm + 2) (by omega)).trans M2
    have E8_2 := (F8 (mm + 3) (by omega)).trans M3
    have E8_3 := (F8 (mm + 4) (by omega)).trans M4
    have E8_4 := (F8 (mm + 5) (by omega)).trans M5
    have E8_5 := (F8 (mm + 6) (by omega)).trans M6
    have E8_6 := (F8 (mm + 7) (by omega)).trans M7
    have E8_7 := (F8 (mm + 8) (by omega)).trans M8
    have E8_8 := (F8 (mm + 9) (by omega)).trans M9
    have E8_9 := (F8 (mm + 18) (by omega)).trans M18
    have E8_10 := (F8 (mm + 19) (by omega)).trans M19
    have E8_11 := (F8 (mm + 22) (by omega)).trans M22
    refine j_if_eq_f (tgt := 36) d_Modl_factor_31 (by decide) (by decide) ?_
    refine j_iconst d_Modl_factor_34 (v := 0) (by decide) ?_
    refine j_iret rfl d_Modl_factor_35 ⟨rfl, rfl, ⟨_, O8⟩, fun x hx => ?_⟩
    exact (F8 x (by omega))
  · refine j_aload_n d_Modl_factor_0 0 rfl ?_
    refine j_iload_n d_Modl_factor_1 1 rfl ?_
    refine j_if_lt_f (tgt := 22) d_Modl_factor_2 (by decide) h0 ?_
    refine j_iload_n d_Modl_factor_5 1 rfl ?_
    refine j_aload_n d_Modl_factor_6 0 rfl ?_
    refine j_get iw_Modl (ci := 9) (kf := 7) rfl (by decide) g_862 d_Modl_factor_7 M0 rfl ?_
    refine j_icmp_ge_t (tgt := 22) d_Modl_factor_10 (by decide) (Int32.not_lt.mp h0) ?_
    refine j_iconst d_Modl_factor_22 (v := 1) (by decide) ?_
    refine j_goto (tgt := 27) d_Modl_factor_23 (by decide) ?_
    refine j_iconst d_Modl_factor_27 (v := 1) (by decide) ?_
    refine j_callV (k_fails1 l Z mm _ _ _ 1 _ M0) ⟨⟨Nat.le_of_ble_eq_true rfl, Nat.le_of_ble_eq_true rfl⟩, g_970, g_973, g_10, (by decide +kernel), (by decide +kernel), (show _ = some 2 from by decide +kernel)⟩ g_972 gp_23 (ci := 9) rfl M0 ⟨(by first | exact Nat.le_of_ble_eq_true rfl | (simp only [jrm]; omega)), (by first | exact Nat.le_of_ble_eq_true rfl | (simp only [jrm]; omega))⟩ (Nat.le_of_ble_eq_true rfl) d_Modl_factor_28 (fun r9 h9 n9 P9 => ?_)
    obtain ⟨rfl, rfl, O9, F9⟩ := P9
    have E9_0 := (F9 (mm + 1) (by omega)).trans M1
    have E9_1 := (F9 (mm + 2) (by omega)).trans M2
    have E9_2 := (F9 (mm + 3) (by omega)).trans M3
    have E9_3 := (F9 (mm + 4) (by omega)).trans M4
    have E9_4 := (F9 (mm + 5) (by omega)).trans M5
    have E9_5 := (F9 (mm + 6) (by omega)).trans M6
    have E9_6 := (F9 (mm + 7) (by omega)).trans M7
    have E9_7 := (F9 (mm + 8) (by omega)).trans M8
    have E9_8 := (F9 (mm + 9) (by omega)).trans M9
    have E9_9 := (F9 (mm + 18) (by omega)).trans M18
    have E9_10 := (F9 (mm + 19) (by omega)).trans M19
    have E9_11 := (F9 (mm + 22) (by omega)).trans M22
    refine j_if_eq_f (tgt := 36) d_Modl_factor_31 (by decide) (by decide) ?_
    refine j_iconst d_Modl_factor_34 (v := 0) (by decide) ?_
    refine j_iret rfl d_Modl_factor_35 ⟨rfl, rfl, ⟨_, O9⟩, fun x hx => ?_⟩
    exact (F9 x (by omega))
set_option maxHeartbeats 4000000 in
set_option maxRecDepth 100000 in
theorem n_part (l : Launch) {b : Nat} {D : va_G} {Y : Nat → ClassId} {s0 : State} (Z : jS0 b D Y s0) (mm n : Nat) (h : jH) (HM : jModl Y h mm) (x0 x1 : Int32) : jMet l D s0 y_Modl_part c_Modl_part 3 (some .long) 4 [.ref mm, .int x0, .int x1] h n 0 0 (fun r h2 n2 => r = some (.long 0) ∧ n = n2 ∧ (∃ fs3, h2 mm = some (.inr (9, .int 1 :: fs3))) ∧ ∀ x, (x < mm ∨ mm + 23 ≤ x) → h2 x = h x) := by
  refine jMet_of Z (by decide) (Nat.le_of_ble_eq_true rfl) ?_
  intro p e s m below meth c
  obtain ⟨M0, M1, M2, M3, M4, M5, M6, M7, M8, M9, M18, M19, M22⟩ := HM
  by_cases h0 : x0 < 0
  · refine j_aload_n d_Modl_part_0 0 rfl ?_
    refine j_iload_n d_Modl_part_1 1 rfl ?_
    refine j_if_lt_t (tgt := 17) d_Modl_part_2 (by decide) h0 ?_
    refine j_iconst d_Modl_part_17 (v := 1) (by decide) ?_
    refine j_goto (tgt := 22) d_Modl_part_18 (by decide) ?_
    refine j_iconst d_Modl_part_22 (v := 1) (by decide) ?_
    refine j_callV (k_fails1 l Z mm _ _ _ 1 _ M0) ⟨⟨Nat.le_of_ble_eq_true rfl, Nat.le_of_ble_eq_true rfl⟩, g_970, g_973, g_10, (by decide +kernel), (by decide +kernel), (show _ = some 2 from by decide +kernel)⟩ g_972 gp_23 (ci := 9) rfl M0 ⟨(by first | exact Nat.le_of_ble_eq_true rfl | (simp only [jrm]; omega)), (by first | exact Nat.le_of_ble_eq_true rfl | (simp only [jrm]; omega))⟩ (Nat.le_of_ble_eq_true rfl) d_Modl_part_23 (fun r10 h10 n10 P10 => ?_)
    obtain ⟨rfl, rfl, O10, F10⟩ := P10
    have E10_0 := (F10 (mm + 1) (by omega)).trans M1
    have E10_1 := (F10 (mm + 2) (by omega)).trans M2
    have E10_2 := (F10 (mm + 3) (by omega)).trans M3
    have E10_3 := (F10 (mm + 4) (by omega)).trans M4
    have E10_4 := (F10 (mm + 5) (by omega)).trans M5
    have E10_5 := (F10 (mm + 6) (by omega)).trans M6
    have E10_6 := (F10 (mm + 7) (by omega)).trans M7
    have E10_7 := (F10 (mm + 8) (by omega)).trans M8
    have E10_8 := (F10 (mm + 9) (by omega)).trans M9
    have E10_9 := (F10 (mm + 18) (by omega)).trans M18
    have E10_10 := (F10 (mm + 19) (by omega)).trans M19
    have E10_11 := (F10 (mm + 22) (by omega)).trans M22
    refine j_if_ne_t (tgt := 52) d_Modl_part_26 (by decide) (by decide) ?_
    refine j_lconst d_Modl_part_52 (v := 0) (by decide) ?_
    refine j_lret rfl d_Modl_part_53 ⟨rfl, rfl, ⟨_, O10⟩, fun x hx => ?_⟩
    exact (F10 x (by omega))
  · refine j_aload_n d_Modl_part_0 0 rfl ?_
    refine j_iload_n d_Modl_part_1 1 rfl ?_
    refine j_if_lt_f (tgt := 17) d_Modl_part_2 (by decide) h0 ?_
    refine j_iload_n d_Modl_part_5 1 rfl ?_
    refine j_aload_n d_Modl_part_6 0 rfl ?_
    refine j_get iw_Modl (ci := 9) (kf := 7) rfl (by decide) g_862 d_Modl_part_7 M0 rfl ?_
    refine j_icmp_ge_t (tgt := 17) d_Modl_part_10 (by decide) (Int32.not_lt.mp h0) ?_
    refine j_iconst d_Modl_part_17 (v := 1) (by decide) ?_
    refine j_goto (tgt := 22) d_Modl_part_18 (by decide) ?_
    refine j_iconst d_Modl_part_22 (v := 1) (by decide) ?_
    refine j_callV (k_fails1 l Z mm _ _ _ 1 _ M0) ⟨⟨Nat.le_of_ble_eq_true rfl, Nat.le_of_ble_eq_true rfl⟩, g_970, g_973, g_10, (by decide +kernel), (by decide +kernel), (show _ = some 2 from by decide +kernel)⟩ g_972 gp_23 (ci := 9) rfl M0 ⟨(by first | exact Nat.le_of_ble_eq_true rfl | (simp only [jrm]; omega)), (by first | exact Nat.le_of_ble_eq_true rfl | (simp only [jrm]; omega))⟩ (Nat.le_of_ble_eq_true rfl) d_Modl_part_23 (fun r11 h11 n11 P11 => ?_)
    obtain ⟨rfl, rfl, O11, F11⟩ := P11
    have E11_0 := (F11 (mm + 1) (by omega)).trans M1
    have E11_1 := (F11 (mm + 2) (by omega)).trans M2
    have E11_2 := (F11 (mm + 3) (by omega)).trans M3
    have E11_3 := (F11 (mm + 4) (by omega)).trans M4
    have E11_4 := (F11 (mm + 5) (by omega)).trans M5
    have E11_5 := (F11 (mm + 6) (by omega)).trans M6
    have E11_6 := (F11 (mm + 7) (by omega)).trans M7
    have E11_7 := (F11 (mm + 8) (by omega)).trans M8
    have E11_8 := (F11 (mm + 9) (by omega)).trans M9
    have E11_9 := (F11 (mm + 18) (by omega)).trans M18
    have E11_10 := (F11 (mm + 19) (by omega)).trans M19
    have E11_11 := (F11 (mm + 22) (by omega)).trans M22
    refine j_if_ne_t (tgt := 52) d_Modl_part_26 (by decide) (by decide) ?_
    refine j_lconst d_Modl_part_52 (v := 0) (by decide) ?_
    refine j_lret rfl d_Modl_part_53 ⟨rfl, rfl, ⟨_, O11⟩, fun x hx => ?_⟩
    exact (F11 x (by omega))
set_option maxHeartbeats 4000000 in
set_option maxRecDepth 100000 in
theorem m_isIrr (l : Launch) {b : Nat} {D : va_G} {Y : Nat → ClassId} {s0 : State} (Z : jS0 b D Y s0) (mm n : Nat) (h : jH) (HM : jModl Y h mm) : jMet l D s0 y_Modl_isIrreducible c_Modl_isIrreducible 1 (some .boolean) 4 [.ref mm] h n 0 0 (fun r h2 n2 => r = some (.int 0) ∧ n = n2 ∧ (∃ fs3, h2 mm = some (.inr (9, .int 0 :: fs3))) ∧ ∀ x, (x < mm ∨ mm + 23 ≤ x) → h2 x = h x) := by
  refine jMet_of Z (by decide) (Nat.le_of_ble_eq_true rfl) ?_
  intro p e s m below meth c
  obtain ⟨M0, M1, M2, M3, M4, M5, M6, M7, M8, M9, M18, M19, M22⟩ := HM
  refine j_aload_n d_Modl_isIrreducible_0 0 rfl ?_
  refine j_iconst d_Modl_isIrreducible_1 (v := 0) (by decide) ?_
  refine j_put iw_Modl t_Modl t_Modl_ok n_Modl (ci := 9) (kf := 0) rfl (by decide) g_855 rfl (t_Modl_ok 0 (by decide)) rfl rfl d_Modl_isIrreducible_2 M0 (Nat.le_of_ble_eq_true rfl) ?_
  refine j_upx (by simp only [List.set_cons_succ, List.set_cons_zero]; rfl) ?_
  refine j_aload_n d_Modl_isIrreducible_5 0 rfl ?_
  refine j_get iw_Modl (ci := 9) (kf := 4) rfl (by decide) g_859 d_Modl_isIrreducible_6 (jh_up_s _ _ _) rfl ?_
  refine j_if_eq_t (tgt := 28) d_Modl_isIrreducible_9 (by decide) (by decide) ?_
  refine j_iconst d_Modl_isIrreducible_28 (v := 0) (by decide) ?_
  refine j_zret rfl (by decide) d_Modl_isIrreducible_29 ⟨rfl, rfl, ⟨_, (jh_up_s _ _ _)⟩, fun x hx => ?_⟩
  exact (jh_up_n _ _ (by omega))
set_option maxHeartbeats 4000000 in
set_option maxRecDepth 100000 in
theorem m_divisor (l : Launch) {b : Nat} {D : va_G} {Y : Nat → ClassId} {s0 : State} (Z : jS0 b D Y s0) (mm n : Nat) (h : jH) (HM : jModl Y h mm) : jMet l D s0 y_Modl_divisor c_Modl_divisor 2 (some .long) 4 [.ref mm, .int 0] h n 0 0 (fun r h2 n2 => r = some (.long 1) ∧ n = n2 ∧ (∃ fs3, h2 mm = some (.inr (9, .int 0 :: fs3))) ∧ ∀ x, (x < mm ∨ mm + 23 ≤ x) → h2 x = h x) := by
  refine jMet_of Z (by decide) (Nat.le_of_ble_eq_true rfl) ?_
  intro p e s m below meth c
  obtain ⟨M0, M1, M2, M3, M4, M5, M6, M7, M8, M9, M18, M19, M22⟩ := HM
  refine j_aload_n d_Modl_divisor_0 0 rfl ?_
  refine j_iload_n d_Modl_divisor_1 1 rfl ?_
  refine j_if_lt_f (tgt := 13) d_Modl_divisor_2 (by decide) (by decide) ?_
  refine j_iload_n d_Modl_divisor_5 1 rfl ?_
  refine j_aload_n d_Modl_divisor_6 0 rfl ?_
  refine j_get iw_Modl (ci := 9) (kf := 6) rfl (by decide) g_861 d_Modl_divisor_7 M0 rfl ?_
  refine j_icmp_le_t (tgt := 17) d_Modl_divisor_10 (by decide) (by decide) ?_
  refine j_iconst d_Modl_divisor_17 (v := 0) (by decide) ?_
  refine j_iconst d_Modl_divisor_18 (v := 1) (by decide) ?_
  refine j_callV (k_fails0 l Z mm _ _ _ 1 _ M0) ⟨⟨Nat.le_of_ble_eq_true rfl, Nat.le_of_ble_eq_true rfl⟩, g_970, g_973, g_10, (by decide +kernel), (by decide +kernel), (show _ = some 2 from by decide +kernel)⟩ g_972 gp_23 (ci := 9) rfl M0 ⟨(by first | exact Nat.le_of_ble_eq_true rfl | (simp only [jrm]; omega)), (by first | exact Nat.le_of_ble_eq_true rfl | (simp only [jrm]; omega))⟩ (Nat.le_of_ble_eq_true rfl) d_Modl_divisor_19 (fun r12 h12 n12 P12 => ?_)
  obtain ⟨rfl, rfl, O12, F12⟩ := P12
  have E12_0 := (F12 (mm + 1) (by omega)).trans M1
  have E12_1 := (F12 (mm + 2) (by omega)).trans M2
  have E12_2 := (F12 (mm + 3) (by omega)).trans M3
  have E12_3 := (F12 (mm + 4) (by omega)).trans M4
  have E12_4 := (F12 (mm + 5) (by omega)).trans M5
  have E12_5 := (F12 (mm + 6) (by omega)).trans M6
  have E12_6 := (F12 (mm + 7) (by omega)).trans M7
  have E12_7 := (F12 (mm + 8) (by omega)).trans M8
  have E12_8 := (F12 (mm + 9) (by omega)).trans M9
  have E12_9 := (F12 (mm + 18) (by omega)).trans M18
  have E12_10 := (F12 (mm + 19) (by omega)).trans M19
  have E12_11 := (F12 (mm + 22) (by omega)).trans M22
  refine j_if_eq_t (tgt := 29) d_Modl_divisor_22 (by decide) (by decide) ?_
  refine j_aload_n d_Modl_divisor_29 0 rfl ?_
  refine j_get iw_Modl (ci := 9) (kf := 5) rfl (by decide) g_860 d_Modl_divisor_30 O12 rfl ?_
  refine j_iload_n d_Modl_divisor_33 1 rfl ?_
  refine j_lald d_Modl_divisor_34 E12_2 (by unfold vp_in; decide) ?_
  refine j_lret rfl d_Modl_divisor_35 ⟨rfl, rfl, ⟨_, O12⟩, fun x hx => ?_⟩
  exact (F12 x (by omega))
set_option maxHeartbeats 4000000 in
set_option maxRecDepth 100000 in
theorem n_divisor (l : Launch) {b : Nat} {D : va_G} {Y : Nat → ClassId} {s0 : State} (Z : jS0 b D Y s0) (mm n : Nat) (h : jH) (HM : jModl Y h mm) (x0 : Int32) (h1 : ¬ x0 = 0) : jMet l D s0 y_Modl_divisor c_Modl_divisor 2 (some .long) 4 [.ref mm, .int x0] h n 0 0 (fun r h2 n2 => r = some (.long 0) ∧ n = n2 ∧ (∃ fs3, h2 mm = some (.inr (9, .int 1 :: fs3))) ∧ ∀ x, (x < mm ∨ mm + 23 ≤ x) → h2 x = h x) := by
  refine jMet_of Z (by decide) (Nat.le_of_ble_eq_true rfl) ?_
  intro p e s m below meth c
  obtain ⟨M0, M1, M2, M3, M4, M5, M6, M7, M8, M9, M18, M19, M22⟩ := HM
  by_cases h0 : x0 < 0
  · refine j_aload_n d_Modl_divisor_0 0 rfl ?_
    refine j_iload_n d_Modl_divisor_1 1 rfl ?_
    refine j_if_lt_t (tgt := 13) d_Modl_divisor_2 (by decide) h0 ?_
    refine j_iconst d_Modl_divisor_13 (v := 1) (by decide) ?_
    refine j_goto (tgt := 18) d_Modl_divisor_14 (by decide) ?_
    refine j_iconst d_Modl_divisor_18 (v := 1) (by decide) ?_
    refine j_callV (k_fails1 l Z mm _ _ _ 1 _ M0) ⟨⟨Nat.le_of_ble_eq_true rfl, Nat.le_of_ble_eq_true rfl⟩, g_970, g_973, g_10, (by decide +kernel), (by decide +kernel), (show _ = some 2 from by decide +kernel)⟩ g_972 gp_23 (ci := 9) rfl M0 ⟨(by first | exact Nat.le_of_ble_eq_true rfl | (simp only [jrm]; omega)), (by first | exact Nat.le_of_ble_eq_true rfl | (simp only [jrm]; omega))⟩ (Nat.le_of_ble_eq_true rfl) d_Modl_divisor_19 (fun r13 h13 n13 P13 => ?_)
    obtain ⟨rfl, rfl, O13, F13⟩ := P13
    have E13_0 := (F13 (mm + 1) (by omega)).trans M1
    have E13_1 := (F13 (mm + 2) (by omega)).trans M2
    have E13_2 := (F13 (mm + 3) (by omega)).trans M3
    have E13_3 := (F13 (mm + 4) (by omega)).trans M4
    have E13_4 := (F13 (mm + 5) (by omega)).trans M5
    have E13_5 := (F13 (mm + 6) (by omega)).trans M6
    have E13_6 := (F13 (mm + 7) (by omega)).trans M7
    have E13_7 := (F13 (mm + 8) (by omega)).trans M8
    have E13_8 := (F13 (mm + 9) (by omega)).trans M9
    have E13_9 := (F13 (mm + 18) (by omega)).trans M18
    have E13_10 := (F13 (mm + 19) (by omega)).trans M19
    have E13_11 := (F13 (mm + 22) (by omega)).trans M22
    refine j_if_eq_f (tgt := 29) d_Modl_divisor_22 (by decide) (by decide) ?_
    refine j_lconst d_Modl_divisor_25 (v := 0) (by decide) ?_
    refine j_goto (tgt := 35) d_Modl_divisor_26 (by decide) ?_
    refine j_lret rfl d_Modl_divisor_35 ⟨rfl, rfl, ⟨_, O13⟩, fun x hx => ?_⟩
    exact (F13 x (by omega))
  · refine j_aload_n d_Modl_divisor_0 0 rfl ?_
    refine j_iload_n d_Modl_divisor_1 1 rfl ?_
    refine j_if_lt_f (tgt := 13) d_Modl_divisor_2 (by decide) h0 ?_
    refine j_iload_n d_Modl_divisor_5 1 rfl ?_
    refine j_aload_n d_Modl_divisor_6 0 rfl ?_
    refine j_get iw_Modl (ci := 9) (kf := 6) rfl (by decide) g_861 d_Modl_divisor_7 M0 rfl ?_
    refine j_icmp_le_f (tgt := 17) d_Modl_divisor_10 (by decide) (fun h2 => h1 (Int32.le_antisymm h2 (Int32.not_lt.mp h0))) ?_
    refine j_iconst d_Modl_divisor_13 (v := 1) (by decide) ?_
    refine j_goto (tgt := 18) d_Modl_divisor_14 (by decide) ?_
    refine j_iconst d_Modl_divisor_18 (v := 1) (by decide) ?_
    refine j_callV (k_fails1 l Z mm _ _ _ 1 _ M0) ⟨⟨Nat.le_of_ble_eq_true rfl, Nat.le_of_ble_eq_true rfl⟩, g_970, g_973, g_10, (by decide +kernel), (by decide +kernel), (show _ = some 2 from by decide +kernel)⟩ g_972 gp_23 (ci := 9) rfl M0 ⟨(by first | exact Nat.le_of_ble_eq_true rfl | (simp only [jrm]; omega)), (by first | exact Nat.le_of_ble_eq_true rfl | (simp only [jrm]; omega))⟩ (Nat.le_of_ble_eq_true rfl) d_Modl_divisor_19 (fun r14 h14 n14 P14 => ?_)
    obtain ⟨rfl, rfl, O14, F14⟩ := P14
    have E14_0 := (F14 (mm + 1) (by omega)).trans M1
    have E14_1 := (F14 (mm + 2) (by omega)).trans M2
    have E14_2 := (F14 (mm + 3) (by omega)).trans M3
    have E14_3 := (F14 (mm + 4) (by omega)).trans M4
    have E14_4 := (F14 (mm + 5) (by omega)).trans M5
    have E14_5 := (F14 (mm + 6) (by omega)).trans M6
    have E14_6 := (F14 (mm + 7) (by omega)).trans M7
    have E14_7 := (F14 (mm + 8) (by omega)).trans M8
    have E14_8 := (F14 (mm + 9) (by omega)).trans M9
    have E14_9 := (F14 (mm + 18) (by omega)).trans M18
    have E14_10 := (F14 (mm + 19) (by omega)).trans M19
    have E14_11 := (F14 (mm + 22) (by omega)).trans M22
    refine j_if_eq_f (tgt := 29) d_Modl_divisor_22 (by decide) (by decide) ?_
    refine j_lconst d_Modl_divisor_25 (v := 0) (by decide) ?_
    refine j_goto (tgt := 35) d_Modl_divisor_26 (by decide) ?_
    refine j_lret rfl d_Modl_divisor_35 ⟨rfl, rfl, ⟨_, O14⟩, fun x hx => ?_⟩
    exact (F14 x (by omega))
end
section
abbrev c_Modl_finds : ByteArray := prog_11_method_47_code
abbrev y_Modl_finds : MethodName := ⟨"FactorDeskModel", "finds", "()V"⟩
theorem d_Modl_finds_0 : decode c_Modl_finds 0 = .ok (.aload_n 0, 1) := by decide +kernel
theorem d_Modl_finds_1 : decode c_Modl_finds 1 = .ok (.iconst 0, 1) := by decide +kernel
theorem d_Modl_finds_2 : decode c_Modl_finds 2 = .ok (.putfield 243, 3) := by decide +kernel
theorem d_Modl_finds_5 : decode c_Modl_finds 5 = .ok (.aload_n 0, 1) := by decide +kernel
theorem d_Modl_finds_6 : decode c_Modl_finds 6 = .ok (.getfield 153, 3) := by decide +kernel
theorem d_Modl_finds_9 : decode c_Modl_finds 9 = .ok (.ifCond .ne 4, 3) := by decide +kernel
theorem d_Modl_finds_12 : decode c_Modl_finds 12 = .ok (.return_, 1) := by decide +kernel
theorem d_Modl_finds_13 : decode c_Modl_finds 13 = .ok (.aload_n 0, 1) := by decide +kernel
theorem d_Modl_finds_14 : decode c_Modl_finds 14 = .ok (.invokevirtual 249, 3) := by decide +kernel
theorem d_Modl_finds_17 : decode c_Modl_finds 17 = .ok (.iconst 1, 1) := by decide +kernel
theorem d_Modl_finds_18 : decode c_Modl_finds 18 = .ok (.istore_n 1, 1) := by decide +kernel
theorem d_Modl_finds_19 : decode c_Modl_finds 19 = .ok (.iload_n 1, 1) := by decide +kernel
theorem d_Modl_finds_20 : decode c_Modl_finds 20 = .ok (.aload_n 0, 1) := by decide +kernel
theorem d_Modl_finds_21 : decode c_Modl_finds 21 = .ok (.getfield 153, 3) := by decide +kernel
theorem d_Modl_finds_24 : decode c_Modl_finds 24 = .ok (.if_icmp .gt 26, 3) := by decide +kernel
theorem d_Modl_finds_27 : decode c_Modl_finds 27 = .ok (.aload_n 0, 1) := by decide +kernel
theorem d_Modl_finds_28 : decode c_Modl_finds 28 = .ok (.getfield 79, 3) := by decide +kernel
theorem d_Modl_finds_31 : decode c_Modl_finds 31 = .ok (.iload_n 1, 1) := by decide +kernel
theorem d_Modl_finds_32 : decode c_Modl_finds 32 = .ok (.iconst 1, 1) := by decide +kernel
theorem d_Modl_finds_33 : decode c_Modl_finds 33 = .ok (.isub, 1) := by decide +kernel
theorem d_Modl_finds_34 : decode c_Modl_finds 34 = .ok (.aload_n 0, 1) := by decide +kernel
theorem d_Modl_finds_35 : decode c_Modl_finds 35 = .ok (.getfield 70, 3) := by decide +kernel
theorem d_Modl_finds_38 : decode c_Modl_finds 38 = .ok (.iload_n 1, 1) := by decide +kernel
theorem d_Modl_finds_39 : decode c_Modl_finds 39 = .ok (.laload, 1) := by decide +kernel
theorem d_Modl_finds_40 : decode c_Modl_finds 40 = .ok (.iload_n 1, 1) := by decide +kernel
theorem d_Modl_finds_41 : decode c_Modl_finds 41 = .ok (.i2l, 1) := by decide +kernel
theorem d_Modl_finds_42 : decode c_Modl_finds 42 = .ok (.lmul, 1) := by decide +kernel
theorem d_Modl_finds_43 : decode c_Modl_finds 43 = .ok (.lastore, 1) := by decide +kernel
theorem d_Modl_finds_44 : decode c_Modl_finds 44 = .ok (.iinc 1 1, 3) := by decide +kernel
theorem d_Modl_finds_47 : decode c_Modl_finds 47 = .ok (.goto (-28), 3) := by decide +kernel
theorem d_Modl_finds_50 : decode c_Modl_finds 50 = .ok (.aload_n 0, 1) := by decide +kernel
theorem d_Modl_finds_51 : decode c_Modl_finds 51 = .ok (.aload_n 0, 1) := by decide +kernel
theorem d_Modl_finds_52 : decode c_Modl_finds 52 = .ok (.getfield 70, 3) := by decide +kernel
theorem d_Modl_finds_55 : decode c_Modl_finds 55 = .ok (.aload_n 0, 1) := by decide +kernel
theorem d_Modl_finds_56 : decode c_Modl_finds 56 = .ok (.getfield 153, 3) := by decide +kernel
theorem d_Modl_finds_59 : decode c_Modl_finds 59 = .ok (.aload_n 0, 1) := by decide +kernel
theorem d_Modl_finds_60 : decode c_Modl_finds 60 = .ok (.getfield 79, 3) := by decide +kernel
theorem d_Modl_finds_63 : decode c_Modl_finds 63 = .ok (.aload_n 0, 1) := by decide +kernel
theorem d_Modl_finds_64 : decode c_Modl_finds 64 = .ok (.getfield 153, 3) := by decide +kernel
theorem d_Modl_finds_67 : decode c_Modl_finds 67 = .ok (.iconst 1, 1) := by decide +kernel
theorem d_Modl_finds_68 : decode c_Modl_finds 68 = .ok (.isub, 1) := by decide +kernel
theorem d_Modl_finds_69 : decode c_Modl_finds 69 = .ok (.invokevirtual 252, 3) := by decide +kernel
theorem d_Modl_finds_72 : decode c_Modl_finds 72 = .ok (.pop, 1) := by decide +kernel
theorem d_Modl_finds_73 : decode c_Modl_finds 73 = .ok (.aload_n 0, 1) := by decide +kernel
theorem d_Modl_finds_74 : decode c_Modl_finds 74 = .ok (.iconst 3, 1) := by decide +kernel
theorem d_Modl_finds_75 : decode c_Modl_finds 75 = .ok (.aload_n 0, 1) := by decide +kernel
theorem d_Modl_finds_76 : decode c_Modl_finds 76 = .ok (.getfield 70, 3) := by decide +kernel
theorem d_Modl_finds_79 : decode c_Modl_finds 79 = .ok (.aload_n 0, 1) := by decide +kernel
theorem d_Modl_finds_80 : decode c_Modl_finds 80 = .ok (.getfield 153, 3) := by decide +kernel
theorem d_Modl_finds_83 : decode c_Modl_finds 83 = .ok (.invokevirtual 191, 3) := by decide +kernel
theorem d_Modl_finds_86 : decode c_Modl_finds 86 = .ok (.aload_n 0, 1) := by decide +kernel
theorem d_Modl_finds_87 : decode c_Modl_finds 87 = .ok (.iconst 4, 1) := by decide +kernel
theorem d_Modl_finds_88 : decode c_Modl_finds 88 = .ok (.iconst 3, 1) := by decide +kernel
theorem d_Modl_finds_89 : decode c_Modl_finds 89 = .ok (.invokevirtual 256, 3) := by decide +kernel
theorem d_Modl_finds_92 : decode c_Modl_finds 92 = .ok (.aload_n 0, 1) := by decide +kernel
theorem d_Modl_finds_93 : decode c_Modl_finds 93 = .ok (.iconst 5, 1) := by decide +kernel
theorem d_Modl_finds_94 : decode c_Modl_finds 94 = .ok (.iconst 3, 1) := by decide +kernel
theorem d_Modl_finds_95 : decode c_Modl_finds 95 = .ok (.iconst 4, 1) := by decide +kernel
theorem d_Modl_finds_96 : decode c_Modl_finds 96 = .ok (.invokevirtual 195, 3) := by decide +kernel
theorem d_Modl_finds_99 : decode c_Modl_finds 99 = .ok (.aload_n 0, 1) := by decide +kernel
theorem d_Modl_finds_100 : decode c_Modl_finds 100 = .ok (.iconst 3, 1) := by decide +kernel
theorem d_Modl_finds_101 : decode c_Modl_finds 101 = .ok (.aload_n 0, 1) := by decide +kernel
theorem d_Modl_finds_102 : decode c_Modl_finds 102 = .ok (.getfield 70, 3) := by decide +kernel
theorem d_Modl_finds_105 : decode c_Modl_finds 105 = .ok (.aload_n 0, 1) := by decide +kernel
theorem d_Modl_finds_106 : decode c_Modl_finds 106 = .ok (.getfield 153, 3) := by decide +kernel
theorem d_Modl_finds_109 : decode c_Modl_finds 109 = .ok (.invokevirtual 191, 3) := by decide +kernel
theorem d_Modl_finds_112 : decode c_Modl_finds 112 = .ok (.aload_n 0, 1) := by decide +kernel
theorem d_Modl_finds_113 : decode c_Modl_finds 113 = .ok (.iconst 3, 1) := by decide +kernel
theorem d_Modl_finds_114 : decode c_Modl_finds 114 = .ok (.invokevirtual 141, 3) := by decide +kernel
theorem d_Modl_finds_117 : decode c_Modl_finds 117 = .ok (.aload_n 0, 1) := by decide +kernel
theorem d_Modl_finds_118 : decode c_Modl_finds 118 = .ok (.bipush 11, 2) := by decide +kernel
theorem d_Modl_finds_120 : decode c_Modl_finds 120 = .ok (.iconst 3, 1) := by decide +kernel
theorem d_Modl_finds_121 : decode c_Modl_finds 121 = .ok (.iconst 5, 1) := by decide +kernel
theorem d_Modl_finds_122 : decode c_Modl_finds 122 = .ok (.invokevirtual 221, 3) := by decide +kernel
theorem d_Modl_finds_125 : decode c_Modl_finds 125 = .ok (.aload_n 0, 1) := by decide +kernel
theorem d_Modl_finds_126 : decode c_Modl_finds 126 = .ok (.invokevirtual 259, 3) := by decide +kernel
theorem d_Modl_finds_129 : decode c_Modl_finds 129 = .ok (.iconst 0, 1) := by decide +kernel
theorem d_Modl_finds_130 : decode c_Modl_finds 130 = .ok (.istore_n 1, 1) := by decide +kernel
theorem d_Modl_finds_131 : decode c_Modl_finds 131 = .ok (.iload_n 1, 1) := by decide +kernel
theorem d_Modl_finds_132 : decode c_Modl_finds 132 = .ok (.aload_n 0, 1) := by decide +kernel
theorem d_Modl_finds_133 : decode c_Modl_finds 133 = .ok (.getfield 205, 3) := by decide +kernel
theorem d_Modl_finds_136 : decode c_Modl_finds 136 = .ok (.if_icmp .ge 14, 3) := by decide +kernel
theorem d_Modl_finds_139 : decode c_Modl_finds 139 = .ok (.aload_n 0, 1) := by decide +kernel
theorem d_Modl_finds_140 : decode c_Modl_finds 140 = .ok (.iload_n 1, 1) := by decide +kernel
theorem d_Modl_finds_141 : decode c_Modl_finds 141 = .ok (.invokevirtual 262, 3) := by decide +kernel
theorem d_Modl_finds_144 : decode c_Modl_finds 144 = .ok (.iinc 1 1, 3) := by decide +kernel
theorem d_Modl_finds_147 : decode c_Modl_finds 147 = .ok (.goto (-16), 3) := by decide +kernel
theorem d_Modl_finds_150 : decode c_Modl_finds 150 = .ok (.iconst 1, 1) := by decide +kernel
theorem d_Modl_finds_151 : decode c_Modl_finds 151 = .ok (.istore_n 1, 1) := by decide +kernel
theorem d_Modl_finds_152 : decode c_Modl_finds 152 = .ok (.iload_n 1, 1) := by decide +kernel
theorem d_Modl_finds_153 : decode c_Modl_finds 153 = .ok (.aload_n 0, 1) := by decide +kernel
theorem d_Modl_finds_154 : decode c_Modl_finds 154 = .ok (.getfield 153, 3) := by decide +kernel
theorem d_Modl_finds_157 : decode c_Modl_finds 157 = .ok (.if_icmp .gt 78, 3) := by decide +kernel
theorem d_Modl_finds_160 : decode c_Modl_finds 160 = .ok (.aload_n 0, 1) := by decide +kernel
theorem d_Modl_finds_161 : decode c_Modl_finds 161 = .ok (.iload_n 1, 1) := by decide +kernel
theorem d_Modl_finds_162 : decode c_Modl_finds 162 = .ok (.invokevirtual 265, 3) := by decide +kernel
theorem d_Modl_finds_165 : decode c_Modl_finds 165 = .ok (.istore_n 2, 1) := by decide +kernel
theorem d_Modl_finds_166 : decode c_Modl_finds 166 = .ok (.iload_n 2, 1) := by decide +kernel
theorem d_Modl_finds_167 : decode c_Modl_finds 167 = .ok (.ifCond .le 62, 3) := by decide +kernel
theorem d_Modl_finds_170 : decode c_Modl_finds 170 = .ok (.aload_n 0, 1) := by decide +kernel
theorem d_Modl_finds_171 : decode c_Modl_finds 171 = .ok (.iload_n 1, 1) := by decide +kernel
theorem d_Modl_finds_172 : decode c_Modl_finds 172 = .ok (.invokevirtual 268, 3) := by decide +kernel
theorem d_Modl_finds_175 : decode c_Modl_finds 175 = .ok (.iconst 0, 1) := by decide +kernel
theorem d_Modl_finds_176 : decode c_Modl_finds 176 = .ok (.istore_n 3, 1) := by decide +kernel
theorem d_Modl_finds_177 : decode c_Modl_finds 177 = .ok (.iload_n 3, 1) := by decide +kernel
theorem d_Modl_finds_178 : decode c_Modl_finds 178 = .ok (.aload_n 0, 1) := by decide +kernel
theorem d_Modl_finds_179 : decode c_Modl_finds 179 = .ok (.getfield 205, 3) := by decide +kernel
theorem d_Modl_finds_182 : decode c_Modl_finds 182 = .ok (.if_icmp .ge 38, 3) := by decide +kernel
theorem d_Modl_finds_185 : decode c_Modl_finds 185 = .ok (.aload_n 0, 1) := by decide +kernel
theorem d_Modl_finds_186 : decode c_Modl_finds 186 = .ok (.getfield 63, 3) := by decide +kernel
theorem d_Modl_finds_189 : decode c_Modl_finds 189 = .ok (.iload_n 3, 1) := by decide +kernel
theorem d_Modl_finds_190 : decode c_Modl_finds 190 = .ok (.aload_n 0, 1) := by decide +kernel
theorem d_Modl_finds_191 : decode c_Modl_finds 191 = .ok (.getfield 63, 3) := by decide +kernel
theorem d_Modl_finds_194 : decode c_Modl_finds 194 = .ok (.iload_n 3, 1) := by decide +kernel
theorem d_Modl_finds_195 : decode c_Modl_finds 195 = .ok (.baload, 1) := by decide +kernel
theorem d_Modl_finds_196 : decode c_Modl_finds 196 = .ok (.ifCond .ne 12, 3) := by decide +kernel
theorem d_Modl_finds_199 : decode c_Modl_finds 199 = .ok (.iload_n 2, 1) := by decide +kernel
theorem d_Modl_finds_200 : decode c_Modl_finds 200 = .ok (.iload_n 3, 1) := by decide +kernel
theorem d_Modl_finds_201 : decode c_Modl_finds 201 = .ok (.ishr, 1) := by decide +kernel
theorem d_Modl_finds_202 : decode c_Modl_finds 202 = .ok (.iconst 1, 1) := by decide +kernel
theorem d_Modl_finds_203 : decode c_Modl_finds 203 = .ok (.iand, 1) := by decide +kernel
theorem d_Modl_finds_204 : decode c_Modl_finds 204 = .ok (.iconst 1, 1) := by decide +kernel
theorem d_Modl_finds_205 : decode c_Modl_finds 205 = .ok (.if_icmp .ne 7, 3) := by decide +kernel
theorem d_Modl_finds_208 : decode c_Modl_finds 208 = .ok (.iconst 1, 1) := by decide +kernel
theorem d_Modl_finds_209 : decode c_Modl_finds 209 = .ok (.goto 4, 3) := by decide +kernel
theorem d_Modl_finds_212 : decode c_Modl_finds 212 = .ok (.iconst 0, 1) := by decide +kernel
theorem d_Modl_finds_213 : decode c_Modl_finds 213 = .ok (.bastore, 1) := by decide +kernel
theorem d_Modl_finds_214 : decode c_Modl_finds 214 = .ok (.iinc 3 1, 3) := by decide +kernel
theorem d_Modl_finds_217 : decode c_Modl_finds 217 = .ok (.goto (-40), 3) := by decide +kernel
theorem d_Modl_finds_220 : decode c_Modl_finds 220 = .ok (.aload_n 0, 1) := by decide +kernel
theorem d_Modl_finds_221 : decode c_Modl_finds 221 = .ok (.iload_n 1, 1) := by decide +kernel
theorem d_Modl_finds_222 : decode c_Modl_finds 222 = .ok (.invokevirtual 265, 3) := by decide +kernel
theorem d_Modl_finds_225 : decode c_Modl_finds 225 = .ok (.istore_n 2, 1) := by decide +kernel
theorem d_Modl_finds_226 : decode c_Modl_finds 226 = .ok (.goto (-60), 3) := by decide +kernel
theorem d_Modl_finds_229 : decode c_Modl_finds 229 = .ok (.iinc 1 1, 3) := by decide +kernel
theorem d_Modl_finds_232 : decode c_Modl_finds 232 = .ok (.goto (-80), 3) := by decide +kernel
theorem d_Modl_finds_235 : decode c_Modl_finds 235 = .ok (.return_, 1) := by decide +kernel
abbrev c_Modl_factors : ByteArray := prog_11_method_57_code
abbrev y_Modl_factors : MethodName := ⟨"FactorDeskModel", "factors", "()I"⟩
theorem d_Modl_factors_0 : decode c_Modl_factors 0 = .ok (.aload_n 0, 1) := by decide +kernel
theorem d_Modl_factors_1 : decode c_Modl_factors 1 = .ok (.iconst 0, 1) := by decide +kernel
theorem d_Modl_factors_2 : decode c_Modl_factors 2 = .ok (.putfield 82, 3) := by decide +kernel
theorem d_Modl_factors_5 : decode c_Modl_factors 5 = .ok (.aload_n 0, 1) := by decide +kernel
theorem d_Modl_factors_6 : decode c_Modl_factors 6 = .ok (.invokevirtual 290, 3) := by decide +kernel
theorem d_Modl_factors_9 : decode c_Modl_factors 9 = .ok (.aload_n 0, 1) := by decide +kernel
theorem d_Modl_factors_10 : decode c_Modl_factors 10 = .ok (.aload_n 0, 1) := by decide +kernel
theorem d_Modl_factors_11 : decode c_Modl_factors 11 = .ok (.getfield 243, 3) := by decide +kernel
theorem d_Modl_factors_14 : decode c_Modl_factors 14 = .ok (.putfield 293, 3) := by decide +kernel
theorem d_Modl_factors_17 : decode c_Modl_factors 17 = .ok (.iconst 0, 1) := by decide +kernel
theorem d_Modl_factors_18 : decode c_Modl_factors 18 = .ok (.istore_n 1, 1) := by decide +kernel
theorem d_Modl_factors_19 : decode c_Modl_factors 19 = .ok (.iload_n 1, 1) := by decide +kernel
theorem d_Modl_factors_20 : decode c_Modl_factors 20 = .ok (.sipush 156, 3) := by decide +kernel
theorem d_Modl_factors_23 : decode c_Modl_factors 23 = .ok (.if_icmp .ge 21, 3) := by decide +kernel
theorem d_Modl_factors_26 : decode c_Modl_factors 26 = .ok (.aload_n 0, 1) := by decide +kernel
theorem d_Modl_factors_27 : decode c_Modl_factors 27 = .ok (.getfield 19, 3) := by decide +kernel
theorem d_Modl_factors_30 : decode c_Modl_factors 30 = .ok (.iload_n 1, 1) := by decide +kernel
theorem d_Modl_factors_31 : decode c_Modl_factors 31 = .ok (.aload_n 0, 1) := by decide +kernel
theorem d_Modl_factors_32 : decode c_Modl_factors 32 = .ok (.getfield 29, 3) := by decide +kernel
theorem d_Modl_factors_35 : decode c_Modl_factors 35 = .ok (.iload_n 1, 1) := by decide +kernel
theorem d_Modl_factors_36 : decode c_Modl_factors 36 = .ok (.laload, 1) := by decide +kernel
theorem d_Modl_factors_37 : decode c_Modl_factors 37 = .ok (.lastore, 1) := by decide +kernel
theorem d_Modl_factors_38 : decode c_Modl_factors 38 = .ok (.iinc 1 1, 3) := by decide +kernel
theorem d_Modl_factors_41 : decode c_Modl_factors 41 = .ok (.goto (-22), 3) := by decide +kernel
theorem d_Modl_factors_44 : decode c_Modl_factors 44 = .ok (.iconst 0, 1) := by decide +kernel
theorem d_Modl_factors_45 : decode c_Modl_factors 45 = .ok (.istore_n 1, 1) := by decide +kernel
theorem d_Modl_factors_46 : decode c_Modl_factors 46 = .ok (.iload_n 1, 1) := by decide +kernel
theorem d_Modl_factors_47 : decode c_Modl_factors 47 = .ok (.aload_n 0, 1) := by decide +kernel
theorem d_Modl_factors_48 : decode c_Modl_factors 48 = .ok (.getfield 243, 3) := by decide +kernel
theorem d_Modl_factors_51 : decode c_Modl_factors 51 = .ok (.if_icmp .ge 33, 3) := by decide +kernel
theorem d_Modl_factors_54 : decode c_Modl_factors 54 = .ok (.aload_n 0, 1) := by decide +kernel
theorem d_Modl_factors_55 : decode c_Modl_factors 55 = .ok (.getfield 22, 3) := by decide +kernel
theorem d_Modl_factors_58 : decode c_Modl_factors 58 = .ok (.iload_n 1, 1) := by decide +kernel
theorem d_Modl_factors_59 : decode c_Modl_factors 59 = .ok (.aload_n 0, 1) := by decide +kernel
theorem d_Modl_factors_60 : decode c_Modl_factors 60 = .ok (.getfield 32, 3) := by decide +kernel
theorem d_Modl_factors_63 : decode c_Modl_factors 63 = .ok (.iload_n 1, 1) := by decide +kernel
theorem d_Modl_factors_64 : decode c_Modl_factors 64 = .ok (.iaload, 1) := by decide +kernel
theorem d_Modl_factors_65 : decode c_Modl_factors 65 = .ok (.iastore, 1) := by decide +kernel
theorem d_Modl_factors_66 : decode c_Modl_factors 66 = .ok (.aload_n 0, 1) := by decide +kernel
theorem d_Modl_factors_67 : decode c_Modl_factors 67 = .ok (.getfield 26, 3) := by decide +kernel
theorem d_Modl_factors_70 : decode c_Modl_factors 70 = .ok (.iload_n 1, 1) := by decide +kernel
theorem d_Modl_factors_71 : decode c_Modl_factors 71 = .ok (.aload_n 0, 1) := by decide +kernel
theorem d_Modl_factors_72 : decode c_Modl_factors 72 = .ok (.getfield 35, 3) := by decide +kernel
theorem d_Modl_factors_75 : decode c_Modl_factors 75 = .ok (.iload_n 1, 1) := by decide +kernel
theorem d_Modl_factors_76 : decode c_Modl_factors 76 = .ok (.iaload, 1) := by decide +kernel
theorem d_Modl_factors_77 : decode c_Modl_factors 77 = .ok (.iastore, 1) := by decide +kernel
theorem d_Modl_factors_78 : decode c_Modl_factors 78 = .ok (.iinc 1 1, 3) := by decide +kernel
theorem d_Modl_factors_81 : decode c_Modl_factors 81 = .ok (.goto (-35), 3) := by decide +kernel
theorem d_Modl_factors_84 : decode c_Modl_factors 84 = .ok (.aload_n 0, 1) := by decide +kernel
theorem d_Modl_factors_85 : decode c_Modl_factors 85 = .ok (.getfield 293, 3) := by decide +kernel
theorem d_Modl_factors_88 : decode c_Modl_factors 88 = .ok (.ireturn, 1) := by decide +kernel
abbrev c_Modl_ofDegree : ByteArray := prog_11_method_61_code
abbrev y_Modl_ofDegree : MethodName := ⟨"FactorDeskModel", "ofDegree", "(I)I"⟩
theorem d_Modl_ofDegree_0 : decode c_Modl_ofDegree 0 = .ok (.aload_n 0, 1) := by decide +kernel
theorem d_Modl_ofDegree_1 : decode c_Modl_ofDegree 1 = .ok (.iload_n 1, 1) := by decide +kernel
theorem d_Modl_ofDegree_2 : decode c_Modl_ofDegree 2 = .ok (.iconst 1, 1) := by decide +kernel
theorem d_Modl_ofDegree_3 : decode c_Modl_ofDegree 3 = .ok (.if_icmp .lt 9, 3) := by decide +kernel
theorem d_Modl_ofDegree_6 : decode c_Modl_ofDegree 6 = .ok (.iload_n 1, 1) := by decide +kernel
theorem d_Modl_ofDegree_7 : decode c_Modl_ofDegree 7 = .ok (.bipush 12, 2) := by decide +kernel
theorem d_Modl_ofDegree_9 : decode c_Modl_ofDegree 9 = .ok (.if_icmp .le 7, 3) := by decide +kernel
theorem d_Modl_ofDegree_12 : decode c_Modl_ofDegree 12 = .ok (.iconst 1, 1) := by decide +kernel
theorem d_Modl_ofDegree_13 : decode c_Modl_ofDegree 13 = .ok (.goto 4, 3) := by decide +kernel
theorem d_Modl_ofDegree_16 : decode c_Modl_ofDegree 16 = .ok (.iconst 0, 1) := by decide +kernel
theorem d_Modl_ofDegree_17 : decode c_Modl_ofDegree 17 = .ok (.iconst 1, 1) := by decide +kernel
theorem d_Modl_ofDegree_18 : decode c_Modl_ofDegree 18 = .ok (.invokevirtual 274, 3) := by decide +kernel
theorem d_Modl_ofDegree_21 : decode c_Modl_ofDegree 21 = .ok (.ifCond .eq 5, 3) := by decide +kernel
theorem d_Modl_ofDegree_24 : decode c_Modl_ofDegree 24 = .ok (.iconst 0, 1) := by decide +kernel
theorem d_Modl_ofDegree_25 : decode c_Modl_ofDegree 25 = .ok (.ireturn, 1) := by decide +kernel
theorem d_Modl_ofDegree_26 : decode c_Modl_ofDegree 26 = .ok (.aload_n 0, 1) := by decide +kernel
theorem d_Modl_ofDegree_27 : decode c_Modl_ofDegree 27 = .ok (.invokevirtual 290, 3) := by decide +kernel
theorem d_Modl_ofDegree_30 : decode c_Modl_ofDegree 30 = .ok (.iconst 0, 1) := by decide +kernel
theorem d_Modl_ofDegree_31 : decode c_Modl_ofDegree 31 = .ok (.istore_n 2, 1) := by decide +kernel
theorem d_Modl_ofDegree_32 : decode c_Modl_ofDegree 32 = .ok (.iconst 0, 1) := by decide +kernel
theorem d_Modl_ofDegree_33 : decode c_Modl_ofDegree 33 = .ok (.istore_n 3, 1) := by decide +kernel
theorem d_Modl_ofDegree_34 : decode c_Modl_ofDegree 34 = .ok (.iload_n 3, 1) := by decide +kernel
theorem d_Modl_ofDegree_35 : decode c_Modl_ofDegree 35 = .ok (.aload_n 0, 1) := by decide +kernel
theorem d_Modl_ofDegree_36 : decode c_Modl_ofDegree 36 = .ok (.getfield 243, 3) := by decide +kernel
theorem d_Modl_ofDegree_39 : decode c_Modl_ofDegree 39 = .ok (.if_icmp .ge 32, 3) := by decide +kernel
theorem d_Modl_ofDegree_42 : decode c_Modl_ofDegree 42 = .ok (.iload_n 2, 1) := by decide +kernel
theorem d_Modl_ofDegree_43 : decode c_Modl_ofDegree 43 = .ok (.aload_n 0, 1) := by decide +kernel
theorem d_Modl_ofDegree_44 : decode c_Modl_ofDegree 44 = .ok (.getfield 32, 3) := by decide +kernel
theorem d_Modl_ofDegree_47 : decode c_Modl_ofDegree 47 = .ok (.iload_n 3, 1) := by decide +kernel
theorem d_Modl_ofDegree_48 : decode c_Modl_ofDegree 48 = .ok (.iaload, 1) := by decide +kernel
theorem d_Modl_ofDegree_49 : decode c_Modl_ofDegree 49 = .ok (.iload_n 1, 1) := by decide +kernel
theorem d_Modl_ofDegree_50 : decode c_Modl_ofDegree 50 = .ok (.if_icmp .ne 12, 3) := by decide +kernel
theorem d_Modl_ofDegree_53 : decode c_Modl_ofDegree 53 = .ok (.aload_n 0, 1) := by decide +kernel
theorem d_Modl_ofDegree_54 : decode c_Modl_ofDegree 54 = .ok (.getfield 35, 3) := by decide +kernel
theorem d_Modl_ofDegree_57 : decode c_Modl_ofDegree 57 = .ok (.iload_n 3, 1) := by decide +kernel
theorem d_Modl_ofDegree_58 : decode c_Modl_ofDegree 58 = .ok (.iaload, 1) := by decide +kernel
theorem d_Modl_ofDegree_59 : decode c_Modl_ofDegree 59 = .ok (.goto 4, 3) := by decide +kernel
theorem d_Modl_ofDegree_62 : decode c_Modl_ofDegree 62 = .ok (.iconst 0, 1) := by decide +kernel
theorem d_Modl_ofDegree_63 : decode c_Modl_ofDegree 63 = .ok (.iadd, 1) := by decide +kernel
theorem d_Modl_ofDegree_64 : decode c_Modl_ofDegree 64 = .ok (.istore_n 2, 1) := by decide +kernel
theorem d_Modl_ofDegree_65 : decode c_Modl_ofDegree 65 = .ok (.iinc 3 1, 3) := by decide +kernel
theorem d_Modl_ofDegree_68 : decode c_Modl_ofDegree 68 = .ok (.goto (-34), 3) := by decide +kernel
theorem d_Modl_ofDegree_71 : decode c_Modl_ofDegree 71 = .ok (.iload_n 2, 1) := by decide +kernel
theorem d_Modl_ofDegree_72 : decode c_Modl_ofDegree 72 = .ok (.ireturn, 1) := by decide +kernel
abbrev c_Modl_value : ByteArray := prog_11_method_65_code
abbrev y_Modl_value : MethodName := ⟨"FactorDeskModel", "value", "(JI)J"⟩
theorem d_Modl_value_0 : decode c_Modl_value 0 = .ok (.aload_n 0, 1) := by decide +kernel
theorem d_Modl_value_1 : decode c_Modl_value 1 = .ok (.iload_n 3, 1) := by decide +kernel
theorem d_Modl_value_2 : decode c_Modl_value 2 = .ok (.iconst 1, 1) := by decide +kernel
theorem d_Modl_value_3 : decode c_Modl_value 3 = .ok (.if_icmp .ge 7, 3) := by decide +kernel
theorem d_Modl_value_6 : decode c_Modl_value 6 = .ok (.iconst 1, 1) := by decide +kernel
theorem d_Modl_value_7 : decode c_Modl_value 7 = .ok (.goto 4, 3) := by decide +kernel
theorem d_Modl_value_10 : decode c_Modl_value 10 = .ok (.iconst 0, 1) := by decide +kernel
theorem d_Modl_value_11 : decode c_Modl_value 11 = .ok (.iconst 1, 1) := by decide +kernel
theorem d_Modl_value_12 : decode c_Modl_value 12 = .ok (.invokevirtual 274, 3) := by decide +kernel
theorem d_Modl_value_15 : decode c_Modl_value 15 = .ok (.ifCond .eq 5, 3) := by decide +kernel
theorem d_Modl_value_18 : decode c_Modl_value 18 = .ok (.lconst 0, 1) := by decide +kernel
theorem d_Modl_value_19 : decode c_Modl_value 19 = .ok (.lreturn, 1) := by decide +kernel
theorem d_Modl_value_20 : decode c_Modl_value 20 = .ok (.lload_n 1, 1) := by decide +kernel
theorem d_Modl_value_21 : decode c_Modl_value 21 = .ok (.iload_n 3, 1) := by decide +kernel
theorem d_Modl_value_22 : decode c_Modl_value 22 = .ok (.i2l, 1) := by decide +kernel
theorem d_Modl_value_23 : decode c_Modl_value 23 = .ok (.lrem, 1) := by decide +kernel
theorem d_Modl_value_24 : decode c_Modl_value 24 = .ok (.iload_n 3, 1) := by decide +kernel
theorem d_Modl_value_25 : decode c_Modl_value 25 = .ok (.i2l, 1) := by decide +kernel
theorem d_Modl_value_26 : decode c_Modl_value 26 = .ok (.ladd, 1) := by decide +kernel
theorem d_Modl_value_27 : decode c_Modl_value 27 = .ok (.iload_n 3, 1) := by decide +kernel
theorem d_Modl_value_28 : decode c_Modl_value 28 = .ok (.i2l, 1) := by decide +kernel
theorem d_Modl_value_29 : decode c_Modl_value 29 = .ok (.lrem, 1) := by decide +kernel
theorem d_Modl_value_30 : decode c_Modl_value 30 = .ok (.lstore 4, 2) := by decide +kernel
theorem d_Modl_value_32 : decode c_Modl_value 32 = .ok (.lconst 0, 1) := by decide +kernel
theorem d_Modl_value_33 : decode c_Modl_value 33 = .ok (.lstore 6, 2) := by decide +kernel
theorem d_Modl_value_35 : decode c_Modl_value 35 = .ok (.aload_n 0, 1) := by decide +kernel
theorem d_Modl_value_36 : decode c_Modl_value 36 = .ok (.getfield 153, 3) := by decide +kernel
theorem d_Modl_value_39 : decode c_Modl_value 39 = .ok (.istore 8, 2) := by decide +kernel
theorem d_Modl_value_41 : decode c_Modl_value 41 = .ok (.iload 8, 2) := by decide +kernel
theorem d_Modl_value_43 : decode c_Modl_value 43 = .ok (.ifCond .lt 33, 3) := by decide +kernel
theorem d_Modl_value_46 : decode c_Modl_value 46 = .ok (.lload 6, 2) := by decide +kernel
theorem d_Modl_value_48 : decode c_Modl_value 48 = .ok (.lload 4, 2) := by decide +kernel
theorem d_Modl_value_50 : decode c_Modl_value 50 = .ok (.lmul, 1) := by decide +kernel
theorem d_Modl_value_51 : decode c_Modl_value 51 = .ok (.aload_n 0, 1) := by decide +kernel
theorem d_Modl_value_52 : decode c_Modl_value 52 = .ok (.getfield 13, 3) := by decide +kernel
theorem d_Modl_value_55 : decode c_Modl_value 55 = .ok (.iload 8, 2) := by decide +kernel
theorem d_Modl_value_57 : decode c_Modl_value 57 = .ok (.laload, 1) := by decide +kernel
theorem d_Modl_value_58 : decode c_Modl_value 58 = .ok (.ladd, 1) := by decide +kernel
theorem d_Modl_value_59 : decode c_Modl_value 59 = .ok (.iload_n 3, 1) := by decide +kernel
theorem d_Modl_value_60 : decode c_Modl_value 60 = .ok (.i2l, 1) := by decide +kernel
theorem d_Modl_value_61 : decode c_Modl_value 61 = .ok (.lrem, 1) := by decide +kernel
theorem d_Modl_value_62 : decode c_Modl_value 62 = .ok (.iload_n 3, 1) := by decide +kernel
theorem d_Modl_value_63 : decode c_Modl_value 63 = .ok (.i2l, 1) := by decide +kernel
theorem d_Modl_value_64 : decode c_Modl_value 64 = .ok (.ladd, 1) := by decide +kernel
theorem d_Modl_value_65 : decode c_Modl_value 65 = .ok (.iload_n 3, 1) := by decide +kernel
theorem d_Modl_value_66 : decode c_Modl_value 66 = .ok (.i2l, 1) := by decide +kernel
theorem d_Modl_value_67 : decode c_Modl_value 67 = .ok (.lrem, 1) := by decide +kernel
theorem d_Modl_value_68 : decode c_Modl_value 68 = .ok (.lstore 6, 2) := by decide +kernel
theorem d_Modl_value_70 : decode c_Modl_value 70 = .ok (.iinc 8 (-1), 3) := by decide +kernel
theorem d_Modl_value_73 : decode c_Modl_value 73 = .ok (.goto (-32), 3) := by decide +kernel
theorem d_Modl_value_76 : decode c_Modl_value 76 = .ok (.lload 6, 2) := by decide +kernel
theorem d_Modl_value_78 : decode c_Modl_value 78 = .ok (.lreturn, 1) := by decide +kernel
theorem g_866 : jG (Jvm.Cond.fieldLink "FactorDeskModel" (243 : Nat) "FactorDeskModel" "found" "I") := jG_of 931 (by decide +kernel) (by decide +kernel)
theorem g_1016 : jG (Jvm.Cond.methodLink "FactorDeskModel" (290 : Nat) ({ cls := "FactorDeskModel", name := "finds", desc := "()V" } : Jvm.MethodName)) := jG_of 1081 (by decide +kernel) (by decide +kernel)
theorem g_1019 : jG (Jvm.Cond.code ({ cls := "FactorDeskModel", name := "finds", desc := "()V" } : Jvm.MethodName) prog_11_method_47_code (4 : Nat) (Option.none : Option Jvm.ClassFile.FieldType)) := jG_of 1084 (by decide +kernel) (by decide +kernel)
theorem g_1018 : jG (Jvm.Cond.instanceMethod ({ cls := "FactorDeskModel", name := "finds", desc := "()V" } : Jvm.MethodName)) := jG_of 1083 (by decide +kernel) (by decide +kernel)
theorem gp_25 : jG (Jvm.Cond.selects "FactorDeskModel" ({ cls := "FactorDeskModel", name := "finds", desc := "()V" } : Jvm.MethodName) ({ cls := "FactorDeskModel", name := "finds", desc := "()V" } : Jvm.MethodName)) := jG_of 25 (by decide +kernel) (by decide +kernel)
set_option maxHeartbeats 4000000 in
set_option maxRecDepth 100000 in
theorem m_finds (l : Launch) {b : Nat} {D : va_G} {Y : Nat → ClassId} {s0 : State} (Z : jS0 b D Y s0) (mm n : Nat) (h : jH) (M0 : h mm = some (.inr (9, [.int 0, .ref (mm + 1), .int 0, .ref (mm + 2), .int 0, .ref (mm + 3), .int 0, .int 0, .ref (mm + 4), .ref (mm + 5), .ref (mm + 6), .int 0, .ref (mm + 7), .ref (mm + 8), .ref (mm + 9), .int 0, .int 0, .ref (mm + 10), .ref (mm + 11), .ref (mm + 12), .ref (mm + 13), .ref (mm + 14), .ref (mm + 15), .long 1, .int 0, .ref (mm + 16), .ref (mm + 17), .ref (mm + 18), .int 0, .long 0, .ref (mm + 19), .ref (mm + 20), .ref (mm + 21), .ref (mm + 22), .long 0]))) : jMet l D s0 y_Modl_finds c_Modl_finds 4 none 1 [.ref mm] h n 0 0 (fun r h2 n2 => r = none ∧ n = n2 ∧ h2 mm = some (.inr (9, [.int 0, .ref (mm + 1), .int 0, .ref (mm + 2), .int 0, .ref (mm + 3), .int 0, .int 0, .ref (mm + 4), .ref (mm + 5), .ref (mm + 6), .int 0, .ref (mm + 7), .ref (mm + 8), .ref (mm + 9), .int 0, .int 0, .ref (mm + 10), .ref (mm + 11), .ref (mm + 12), .ref (mm + 13), .ref (mm + 14), .ref (mm + 15), .long 1, .int 0, .ref (mm + 16), .ref (mm + 17), .ref (mm + 18), .int 0, .long 0, .ref (mm + 19), .ref (mm + 20), .ref (mm + 21), .ref (mm + 22), .long 0])) ∧ ∀ x, x ≠ mm → h2 x = h x) := by
  refine jMet_of Z (by decide) (Nat.le_of_ble_eq_true rfl) ?_
  intro p e s m below meth c
  refine j_aload_n d_Modl_finds_0 0 rfl ?_
  refine j_iconst d_Modl_finds_1 (v := 0) (by decide) ?_
  refine j_put iw_Modl t_Modl t_Modl_ok n_Modl (ci := 9) (kf := 11) rfl (by decide) g_866 rfl (t_Modl_ok 11 (by decide)) rfl rfl d_Modl_finds_2 M0 (Nat.le_of_ble_eq_true rfl) ?_
  refine j_upx (by simp only [List.set_cons_succ, List.set_cons_zero]; rfl) ?_
  refine j_aload_n d_Modl_finds_5 0 rfl ?_
  refine j_get iw_Modl (ci := 9) (kf := 4) rfl (by decide) g_859 d_Modl_finds_6 (jh_up_s _ _ _) rfl ?_
  refine j_if_ne_f (tgt := 13) d_Modl_finds_9 (by decide) (by decide) ?_
  exact j_vret rfl d_Modl_finds_12 ⟨rfl, rfl, (jh_up_s _ _ _), fun x h1 => (jh_up_n _ _ (by omega))⟩
set_option maxHeartbeats 4000000 in
set_option maxRecDepth 100000 in
theorem m_factors_loop (l : Launch) {b : Nat} {D : va_G} {Y : Nat → ClassId} {s0 : State} (Z : jS0 b D Y s0) {p : Program} {e : Env} {s : State} {m : MethodId} {below : List Frame} {meth : Method} {c : Code} {Q : State → Prop} (mm n : Nat) (hb : jH) (hx : ∀ h2 : jH, h2 mm = some (.inr (9, [.int 0, .ref (mm + 1), .int 0, .ref (mm + 2), .int 0, .ref (mm + 3), .int 0, .int 0, .ref (mm + 4), .ref (mm + 5), .ref (mm + 6), .int 0, .ref (mm + 7), .ref (mm + 8), .ref (mm + 9), .int 0, .int 0, .ref (mm + 10), .ref (mm + 11), .ref (mm + 12), .ref (mm + 13), .ref (mm + 14), .ref (mm + 15), .long 1, .int 0, .ref (mm + 16), .ref (mm + 17), .ref (mm + 18), .int 0, .long 0, .ref (mm + 19), .ref (mm + 20), .ref (mm + 21), .ref (mm + 22), .long 0])) → h2 (mm + 4) = some (.inl (Y 1, 156, .inr (.inl (fun _ => 0)))) → h2 (mm + 7) = some (.inl (Y 1, 156, .inr (.inl (fun _ => 0)))) → (∀ x, x ≠ mm + 4 → h2 x = hb x) → jW b D Y s0 p l e (jrm 4 0 0) s m [Value.ref mm].toArray below meth c y_Modl_factors.cls c_Modl_factors 2 (some .int) y_Modl_factors.name Q 44 [(1, .int 156), (0, .ref mm)] [] h2 n 0 0) :
    ∀ (j i : Nat), i + j = 156 → ∀ (h : jH), h mm = some (.inr (9, [.int 0, .ref (mm + 1), .int 0, .ref (mm + 2), .int 0, .ref (mm + 3), .int 0, .int 0, .ref (mm + 4), .ref (mm + 5), .ref (mm + 6), .int 0, .ref (mm + 7), .ref (mm + 8), .ref (mm + 9), .int 0, .int 0, .ref (mm + 10), .ref (mm + 11), .ref (mm + 12), .ref (mm + 13), .ref (mm + 14), .ref (mm + 15), .long 1, .int 0, .ref (mm + 16), .ref (mm + 17), .ref (mm + 18), .int 0, .long 0, .ref (mm + 19), .ref (mm + 20), .ref (mm + 21), .ref (mm + 22), .long 0])) → h (mm + 4) = some (.inl (Y 1, 156, .inr (.inl (fun _ => 0)))) → h (mm + 7) = some (.inl (Y 1, 156, .inr (.inl (fun _ => 0)))) → (∀ x, x ≠ mm + 4 → h x = hb x) → jW b D Y s0 p l e (jrm 4 0 0) s m [Value.ref mm].toArray below meth c y_Modl_factors.cls c_Modl_factors 2 (some .int) y_Modl_factors.name Q 19 [(1, .int (nI i)), (0, .ref mm)] [] h n 0 0 := by
  intro j
  induction j with
  | zero =>
    intro i hi h M0 H1 H2 HF
    obtain rfl : i = 156 := by omega
    refine j_iload_n d_Modl_factors_19 0 rfl ?_
    refine j_sipush d_Modl_factors_20 (v := 156) (by decide) ?_
    refine j_icmp_ge_t (tgt := 44) d_Modl_factors_23 (by decide) (by decide) ?_
    exact hx h M0 H1 H2 HF
  | succ j ih =>
    intro i hi h M0 H1 H2 HF
    have hi156 : i < 156 := by omega
    refine j_iload_n d_Modl_factors_19 0 rfl ?_
    refine j_sipush d_Modl_factors_20 (v := 156) (by decide) ?_
    refine j_icmp_ge_f (tgt := 44) d_Modl_factors_23 (by decide) (nI_ge (b := 156) hi156 (by decide)) ?_
    refine j_aload_n d_Modl_factors_26 1 rfl ?_
    refine j_get iw_Modl (ci := 9) (kf := 8) rfl (by decide) g_863 d_Modl_factors_27 M0 rfl ?_
    refine j_iload_n d_Modl_factors_30 0 rfl ?_
    refine j_aload_n d_Modl_factors_31 1 rfl ?_
    refine j_get iw_Modl (ci := 9) (kf := 12) rfl (by decide) g_867 d_Modl_factors_32 M0 rfl ?_
    refine j_iload_n d_Modl_factors_35 0 rfl ?_
    refine j_lald d_Modl_factors_36 H2 (nI_in hi156 (by omega)) ?_
    refine j_last d_Modl_factors_37 H1 (nI_in hi156 (by omega)) ?_
    refine j_iinc d_Modl_factors_38 0 rfl (v := nI (i + 1)) (nI_1 i) (Nat.le_of_ble_eq_true rfl) rfl ?_
    refine j_goto (tgt := 19) d_Modl_factors_41 (by decide) ?_
    exact ih (i + 1) (by omega) _ ((jh_up_n _ _ (by omega)).trans M0) ((jh_up_s _ _ _).trans (congrArg (fun f => some (Sum.inl (Y 1, 156, Sum.inr (Sum.inl f)))) (upd00 _))) ((jh_up_n _ _ (by omega)).trans H2) (fun x h1x => (jh_up_n _ _ (by omega)).trans (HF x h1x))
set_option maxHeartbeats 4000000 in
set_option maxRecDepth 100000 in
theorem m_factors (l : Launch) {b : Nat} {D : va_G} {Y : Nat → ClassId} {s0 : State} (Z : jS0 b D Y s0) (mm n : Nat) (h : jH) (HM : jModl Y h mm) : jMet l D s0 y_Modl_factors c_Modl_factors 2 (some .int) 4 [.ref mm] h n 0 0 (fun r h2 n2 => r = some (.int 0) ∧ n = n2 ∧ (∃ fs3, h2 mm = some (.inr (9, .int 0 :: fs3))) ∧ ∀ x, (x < mm ∨ mm + 23 ≤ x) → h2 x = h x) := by
  refine jMet_of Z (by decide) (Nat.le_of_ble_eq_true rfl) ?_
  intro p e s m below meth c
  obtain ⟨M0, M1, M2, M3, M4, M5, M6, M7, M8, M9, M18, M19, M22⟩ := HM
  refine j_aload_n d_Modl_factors_0 0 rfl ?_
  refine j_iconst d_Modl_factors_1 (v := 0) (by decide) ?_
  refine j_put iw_Modl t_Modl t_Modl_ok n_Modl (ci := 9) (kf := 0) rfl (by decide) g_855 rfl (t_Modl_ok 0 (by decide)) rfl rfl d_Modl_factors_2 M0 (Nat.le_of_ble_eq_true rfl) ?_
  refine j_upx (by simp only [List.set_cons_succ, List.set_cons_zero]; rfl) ?_
  refine j_aload_n d_Modl_factors_5 0 rfl ?_
  refine j_callV (m_finds l Z mm _ _ (jh_up_s _ _ _)) ⟨⟨Nat.le_of_ble_eq_true rfl, Nat.le_of_ble_eq_true rfl⟩, g_1016, g_1019, g_10, by decide +kernel⟩ g_1018 gp_25 (ci := 9) rfl (jh_up_s _ _ _) ⟨(by first | exact Nat.le_of_ble_eq_true rfl | (simp only [jrm]; omega)), (by first | exact Nat.le_of_ble_eq_true rfl | (simp only [jrm]; omega))⟩ (Nat.le_of_ble_eq_true rfl) d_Modl_factors_6 (fun r0 h0 n0 P0 => ?_)
  obtain ⟨rfl, rfl, O0, F0⟩ := P0
  have E0_0 := (F0 (mm + 1) (by omega)).trans ((jh_up_n _ _ (by omega)).trans M1)
  have E0_1 := (F0 (mm + 2) (by omega)).trans ((jh_up_n _ _ (by omega)).trans M2)
  have E0_2 := (F0 (mm + 3) (by omega)).trans ((jh_up_n _ _ (by omega)).trans M3)
  have E0_3 := (F0 (mm + 4) (by omega)).trans ((jh_up_n _ _ (by omega)).trans M4)
  have E0_4 := (F0 (mm + 5) (by omega)).trans ((jh_up_n _ _ (by omega)).trans M5)
  have E0_5 := (F0 (mm + 6) (by omega)).trans ((jh_up_n _ _ (by omega)).trans M6)
  have E0_6 := (F0 (mm + 7) (by omega)).trans ((jh_up_n _ _ (by omega)).trans M7)
  have E0_7 := (F0 (mm + 8) (by omega)).trans ((jh_up_n _ _ (by omega)).trans M8)
  have E0_8 := (F0 (mm + 9) (by omega)).trans ((jh_up_n _ _ (by omega)).trans M9)
  have E0_9 := (F0 (mm + 18) (by omega)).trans ((jh_up_n _ _ (by omega)).trans M18)
  have E0_10 := (F0 (mm + 19) (by omega)).trans ((jh_up_n _ _ (by omega)).trans M19)
  have E0_11 := (F0 (mm + 22) (by omega)).trans ((jh_up_n _ _ (by omega)).trans M22)
  refine j_aload_n d_Modl_factors_9 0 rfl ?_
  refine j_aload_n d_Modl_factors_10 0 rfl ?_
  refine j_get iw_Modl (ci := 9) (kf := 11) rfl (by decide) g_866 d_Modl_factors_11 O0 rfl ?_
  refine j_put iw_Modl t_Modl t_Modl_ok n_Modl (ci := 9) (kf := 7) rfl (by decide) g_862 rfl (t_Modl_ok 7 (by decide)) rfl rfl d_Modl_factors_14 O0 (Nat.le_of_ble_eq_true rfl) ?_
  refine j_upx (by simp only [List.set_cons_succ, List.set_cons_zero]; rfl) ?_
  refine j_iconst d_Modl_factors_17 (v := 0) (by decide) ?_
  refine j_istore_n d_Modl_factors_18 (Nat.le_of_ble_eq_true rfl) rfl ?_
  refine m_factors_loop l Z mm _ _ (fun h3 A3 B3 C3 G3 => ?_) 156 0 rfl _ (jh_up_s _ _ _) ((jh_up_n _ _ (by omega)).trans E0_3) ((jh_up_n _ _ (by omega)).trans E0_6) (fun x _ => rfl)
  refine j_iconst d_Modl_factors_44 (v := 0) (by decide) ?_
  refine j_istore_n d_Modl_factors_45 (Nat.le_of_ble_eq_true rfl) rfl ?_
  refine j_iload_n d_Modl_factors_46 0 rfl ?_
  refine j_aload_n d_Modl_factors_47 1 rfl ?_
  refine j_get iw_Modl (ci := 9) (kf := 11) rfl (by decide) g_866 d_Modl_factors_48 A3 rfl ?_
  refine j_icmp_ge_t (tgt := 84) d_Modl_factors_51 (by decide) (by decide) ?_
  refine j_aload_n d_Modl_factors_84 1 rfl ?_
  refine j_get iw_Modl (ci := 9) (kf := 7) rfl (by decide) g_862 d_Modl_factors_85 A3 rfl ?_
  refine j_iret rfl d_Modl_factors_88 ⟨rfl, rfl, ⟨_, A3⟩, fun x hx => ?_⟩
  exact ((G3 x (by omega)).trans ((jh_up_n _ _ (by omega)).trans ((F0 x (by omega)).trans (jh_up_n _ _ (by omega)))))
set_option maxHeartbeats 4000000 in
set_option maxRecDepth 100000 in
theorem m_ofDegree (l : Launch) {b : Nat} {D : va_G} {Y : Nat → ClassId} {s0 : State} (Z : jS0 b D Y s0) (mm n : Nat) (h : jH) (HM : jModl Y h mm) (x0 : Int32) (h1 : ¬ x0 < 1) (h2 : x0 ≤ 12) : jMet l D s0 y_Modl_ofDegree c_Modl_ofDegree 4 (some .int) 4 [.ref mm, .int x0] h n 0 0 (fun r h2 n2 => r = some (.int 0) ∧ n = n2 ∧ (∃ fs3, h2 mm = some (.inr (9, .int 0 :: fs3))) ∧ ∀ x, (x < mm ∨ mm + 23 ≤ x) → h2 x = h x) := by
  refine jMet_of Z (by decide) (Nat.le_of_ble_eq_true rfl) ?_
  intro p e s m below meth c
  obtain ⟨M0, M1, M2, M3, M4, M5, M6, M7, M8, M9, M18, M19, M22⟩ := HM
  refine j_aload_n d_Modl_ofDegree_0 0 rfl ?_
  refine j_iload_n d_Modl_ofDegree_1 1 rfl ?_
  refine j_iconst d_Modl_ofDegree_2 (v := 1) (by decide) ?_
  refine j_icmp_lt_f (tgt := 12) d_Modl_ofDegree_3 (by decide) h1 ?_
  refine j_iload_n d_Modl_ofDegree_6 1 rfl ?_
  refine j_bipush d_Modl_ofDegree_7 (v := 12) (by decide) ?_
  refine j_icmp_le_t (tgt := 16) d_Modl_ofDegree_9 (by decide) h2 ?_
  refine j_iconst d_Modl_ofDegree_16 (v := 0) (by decide) ?_
  refine j_iconst d_Modl_ofDegree_17 (v := 1) (by decide) ?_
  refine j_callV (k_fails0 l Z mm _ _ _ 1 _ M0) ⟨⟨Nat.le_of_ble_eq_true rfl, Nat.le_of_ble_eq_true rfl⟩, g_970, g_973, g_10, (by decide +kernel), (by decide +kernel), (show _ = some 2 from by decide +kernel)⟩ g_972 gp_23 (ci := 9) rfl M0 ⟨(by first | exact Nat.le_of_ble_eq_true rfl | (simp only [jrm]; omega)), (by first | exact Nat.le_of_ble_eq_true rfl | (simp only [jrm]; omega))⟩ (Nat.le_of_ble_eq_true rfl) d_Modl_ofDegree_18 (fun r15 h15 n15 P15 => ?_)
  obtain ⟨rfl, rfl, O15, F15⟩ := P15
  have E15_0 := (F15 (mm + 1) (by omega)).trans M1
  have E15_1 := (F15 (mm + 2) (by omega)).trans M2
  have E15_2 := (F15 (mm + 3) (by omega)).trans M3
  have E15_3 := (F15 (mm + 4) (by omega)).trans M4
  have E15_4 := (F15 (mm + 5) (by omega)).trans M5
  have E15_5 := (F15 (mm + 6) (by omega)).trans M6
  have E15_6 := (F15 (mm + 7) (by omega)).trans M7
  have E15_7 := (F15 (mm + 8) (by omega)).trans M8
  have E15_8 := (F15 (mm + 9) (by omega)).trans M9
  have E15_9 := (F15 (mm + 18) (by omega)).trans M18
  have E15_10 := (F15 (mm + 19) (by omega)).trans M19
  have E15_11 := (F15 (mm + 22) (by omega)).trans M22
  refine j_if_eq_t (tgt := 26) d_Modl_ofDegree_21 (by decide) (by decide) ?_
  refine j_aload_n d_Modl_ofDegree_26 0 rfl ?_
  refine j_callV (m_finds l Z mm _ _ O15) ⟨⟨Nat.le_of_ble_eq_true rfl, Nat.le_of_ble_eq_true rfl⟩, g_1016, g_1019, g_10, by decide +kernel⟩ g_1018 gp_25 (ci := 9) rfl O15 ⟨(by first | exact Nat.le_of_ble_eq_true rfl | (simp only [jrm]; omega)), (by first | exact Nat.le_of_ble_eq_true rfl | (simp only [jrm]; omega))⟩ (Nat.le_of_ble_eq_true rfl) d_Modl_ofDegree_27 (fun r950 h950 n950 P950 => ?_)
  obtain ⟨rfl, rfl, O950, F950⟩ := P950
  have E950_0 := (F950 (mm + 1) (by omega)).trans E15_0
  have E950_1 := (F950 (mm + 2) (by omega)).trans E15_1
  have E950_2 := (F950 (mm + 3) (by omega)).trans E15_2
  have E950_3 := (F950 (mm + 4) (by omega)).trans E15_3
  have E950_4 := (F950 (mm + 5) (by omega)).trans E15_4
  have E950_5 := (F950 (mm + 6) (by omega)).trans E15_5
  have E950_6 := (F950 (mm + 7) (by omega)).trans E15_6
  have E950_7 := (F950 (mm + 8) (by omega)).trans E15_7
  have E950_8 := (F950 (mm + 9) (by omega)).trans E15_8
  have E950_9 := (F950 (mm + 18) (by omega)).trans E15_9
  have E950_10 := (F950 (mm + 19) (by omega)).trans E15_10
  have E950_11 := (F950 (mm + 22) (by omega)).trans E15_11
  refine j_iconst d_Modl_ofDegree_30 (v := 0) (by decide) ?_
  refine j_istore_n d_Modl_ofDegree_31 (Nat.le_of_ble_eq_true rfl) rfl ?_
  refine j_iconst d_Modl_ofDegree_32 (v := 0) (by decide) ?_
  refine j_istore_n d_Modl_ofDegree_33 (Nat.le_of_ble_eq_true rfl) rfl ?_
  refine j_iload_n d_Modl_ofDegree_34 0 rfl ?_
  refine j_aload_n d_Modl_ofDegree_35 2 rfl ?_
  refine j_get iw_Modl (ci := 9) (kf := 11) rfl (by decide) g_866 d_Modl_ofDegree_36 O950 rfl ?_
  refine j_icmp_ge_t (tgt := 71) d_Modl_ofDegree_39 (by decide) (by decide) ?_
  refine j_iload_n d_Modl_ofDegree_71 1 rfl ?_
  refine j_iret rfl d_Modl_ofDegree_72 ⟨rfl, rfl, ⟨_, O950⟩, fun x hx => ?_⟩
  exact ((F950 x (by omega)).trans (F15 x (by omega)))
set_option maxHeartbeats 4000000 in
set_option maxRecDepth 100000 in
theorem n_ofDegree (l : Launch) {b : Nat} {D : va_G} {Y : Nat → ClassId} {s0 : State} (Z : jS0 b D Y s0) (mm n : Nat) (h : jH) (HM : jModl Y h mm) (x0 : Int32) (h1 : x0 < 1 ∨ ¬ x0 ≤ 12) : jMet l D s0 y_Modl_ofDegree c_Modl_ofDegree 4 (some .int) 4 [.ref mm, .int x0] h n 0 0 (fun r h2 n2 => r = some (.int 0) ∧ n = n2 ∧ (∃ fs3, h2 mm = some (.inr (9, .int 1 :: fs3))) ∧ ∀ x, (x < mm ∨ mm + 23 ≤ x) → h2 x = h x) := by
  refine jMet_of Z (by decide) (Nat.le_of_ble_eq_true rfl) ?_
  intro p e s m below meth c
  obtain ⟨M0, M1, M2, M3, M4, M5, M6, M7, M8, M9, M18, M19, M22⟩ := HM
  by_cases h0 : x0 < 1
  · refine j_aload_n d_Modl_ofDegree_0 0 rfl ?_
    refine j_iload_n d_Modl_ofDegree_1 1 rfl ?_
    refine j_iconst d_Modl_ofDegree_2 (v := 1) (by decide) ?_
    refine j_icmp_lt_t (tgt := 12) d_Modl_ofDegree_3 (by decide) h0 ?_
    refine j_iconst d_Modl_ofDegree_12 (v := 1) (by decide) ?_
    refine j_goto (tgt := 17) d_Modl_ofDegree_13 (by decide) ?_
    refine j_iconst d_Modl_ofDegree_17 (v := 1) (by decide) ?_
    refine j_callV (k_fails1 l Z mm _ _ _ 1 _ M0) ⟨⟨Nat.le_of_ble_eq_true rfl, Nat.le_of_ble_eq_true rfl⟩, g_970, g_973, g_10, (by decide +kernel), (by decide +kernel), (show _ = some 2 from by decide +kernel)⟩ g_972 gp_23 (ci := 9) rfl M0 ⟨(by first | exact Nat.le_of_ble_eq_true rfl | (simp only [jrm]; omega)), (by first | exact Nat.le_of_ble_eq_true rfl | (simp only [jrm]; omega))⟩ (Nat.le_of_ble_eq_true rfl) d_Modl_ofDegree_18 (fun r16 h16 n16 P16 => ?_)
    obtain ⟨rfl, rfl, O16, F16⟩ := P16
    have E16_0 := (F16 (mm + 1) (by omega)).trans M1
    have E16_1 := (F16 (mm + 2) (by omega)).trans M2
    have E16_2 := (F16 (mm + 3) (by omega)).trans M3
    have E16_3 := (F16 (mm + 4) (by omega)).trans M4
    have E16_4 := (F16 (mm + 5) (by omega)).trans M5
    have E16_5 := (F16 (mm + 6) (by omega)).trans M6
    have E16_6 := (F16 (mm + 7) (by omega)).trans M7
    have E16_7 := (F16 (mm + 8) (by omega)).trans M8
    have E16_8 := (F16 (mm + 9) (by omega)).trans M9
    have E16_9 := (F16 (mm + 18) (by omega)).trans M18
    have E16_10 := (F16 (mm + 19) (by omega)).trans M19
    have E16_11 := (F16 (mm + 22) (by omega)).trans M22
    refine j_if_eq_f (tgt := 26) d_Modl_ofDegree_21 (by decide) (by decide) ?_
    refine j_iconst d_Modl_ofDegree_24 (v := 0) (by decide) ?_
    refine j_iret rfl d_Modl_ofDegree_25 ⟨rfl, rfl, ⟨_, O16⟩, fun x hx => ?_⟩
    exact (F16 x (by omega))
  · refine j_aload_n d_Modl_ofDegree_0 0 rfl ?_
    refine j_iload_n d_Modl_ofDegree_1 1 rfl ?_
    refine j_iconst d_Modl_ofDegree_2 (v := 1) (by decide) ?_
    refine j_icmp_lt_f (tgt := 12) d_Modl_ofDegree_3 (by decide) h0 ?_
    refine j_iload_n d_Modl_ofDegree_6 1 rfl ?_
    refine j_bipush d_Modl_ofDegree_7 (v := 12) (by decide) ?_
    refine j_icmp_le_f (tgt := 16) d_Modl_ofDegree_9 (by decide) (h1.resolve_left h0) ?_
    refine j_iconst d_Modl_ofDegree_12 (v := 1) (by decide) ?_
    refine j_goto (tgt := 17) d_Modl_ofDegree_13 (by decide) ?_
    refine j_iconst d_Modl_ofDegree_17 (v := 1) (by decide) ?_
    refine j_callV (k_fails1 l Z mm _ _ _ 1 _ M0) ⟨⟨Nat.le_of_ble_eq_true rfl, Nat.le_of_ble_eq_true rfl⟩, g_970, g_973, g_10, (by decide +kernel), (by decide +kernel), (show _ = some 2 from by decide +kernel)⟩ g_972 gp_23 (ci := 9) rfl M0 ⟨(by first | exact Nat.le_of_ble_eq_true rfl | (simp only [jrm]; omega)), (by first | exact Nat.le_of_ble_eq_true rfl | (simp only [jrm]; omega))⟩ (Nat.le_of_ble_eq_true rfl) d_Modl_ofDegree_18 (fun r17 h17 n17 P17 => ?_)
    obtain ⟨rfl, rfl, O17, F17⟩ := P17
    have E17_0 := (F17 (mm + 1) (by omega)).trans M1
    have E17_1 := (F17 (mm + 2) (by omega)).trans M2
    have E17_2 := (F17 (mm + 3) (by omega)).trans M3
    have E17_3 := (F17 (mm + 4) (by omega)).trans M4
    have E17_4 := (F17 (mm + 5) (by omega)).trans M5
    have E17_5 := (F17 (mm + 6) (by omega)).trans M6
    have E17_6 := (F17 (mm + 7) (by omega)).trans M7
    have E17_7 := (F17 (mm + 8) (by omega)).trans M8
    have E17_8 := (F17 (mm + 9) (by omega)).trans M9
    have E17_9 := (F17 (mm + 18) (by omega)).trans M18
    have E17_10 := (F17 (mm + 19) (by omega)).trans M19
    have E17_11 := (F17 (mm + 22) (by omega)).trans M22
    refine j_if_eq_f (tgt := 26) d_Modl_ofDegree_21 (by decide) (by decide) ?_
    refine j_iconst d_Modl_ofDegree_24 (v := 0) (by decide) ?_
    refine j_iret rfl d_Modl_ofDegree_25 ⟨rfl, rfl, ⟨_, O17⟩, fun x hx => ?_⟩
    exact (F17 x (by omega))
def jr2 (x y : Int64) : Int64 := jr1 (jr1 x y + y) y
set_option maxHeartbeats 4000000 in
set_option maxRecDepth 100000 in
theorem m_value (l : Launch) {b : Nat} {D : va_G} {Y : Nat → ClassId} {s0 : State} (Z : jS0 b D Y s0) (mm n : Nat) (h : jH) (HM : jModl Y h mm) (x0 : Int64) (m0 : Int32) (h1 : 1 ≤ m0) (hm : ¬ m0.toInt64 = 0) : jMet l D s0 y_Modl_value c_Modl_value 9 (some .long) 4 [.ref mm, .long x0, .int m0] h n 0 0 (fun r h2 n2 => r = some (.long (jr2 (0 * jr2 x0 m0.toInt64 + 1) m0.toInt64)) ∧ n = n2 ∧ (∃ fs3, h2 mm = some (.inr (9, .int 0 :: fs3))) ∧ ∀ x, (x < mm ∨ mm + 23 ≤ x) → h2 x = h x) := by
  refine jMet_of Z (by decide) (Nat.le_of_ble_eq_true rfl) ?_
  intro p e s m below meth c
  obtain ⟨M0, M1, M2, M3, M4, M5, M6, M7, M8, M9, M18, M19, M22⟩ := HM
  refine j_aload_n d_Modl_value_0 0 rfl ?_
  refine j_iload_n d_Modl_value_1 2 rfl ?_
  refine j_iconst d_Modl_value_2 (v := 1) (by decide) ?_
  refine j_icmp_ge_t (tgt := 10) d_Modl_value_3 (by decide) h1 ?_
  refine j_iconst d_Modl_value_10 (v := 0) (by decide) ?_
  refine j_iconst d_Modl_value_11 (v := 1) (by decide) ?_
  refine j_callV (k_fails0 l Z mm _ _ _ 1 _ M0) ⟨⟨Nat.le_of_ble_eq_true rfl, Nat.le_of_ble_eq_true rfl⟩, g_970, g_973, g_10, (by decide +kernel), (by decide +kernel), (show _ = some 2 from by decide +kernel)⟩ g_972 gp_23 (ci := 9) rfl M0 ⟨(by first | exact Nat.le_of_ble_eq_true rfl | (simp only [jrm]; omega)), (by first | exact Nat.le_of_ble_eq_true rfl | (simp only [jrm]; omega))⟩ (Nat.le_of_ble_eq_true rfl) d_Modl_value_12 (fun r18 h18 n18 P18 => ?_)
  obtain ⟨rfl, rfl, O18, F18⟩ := P18
  have E18_0 := (F18 (mm + 1) (by omega)).trans M1
  have E18_1 := (F18 (mm + 2) (by omega)).trans M2
  have E18_2 := (F18 (mm + 3) (by omega)).trans M3
  have E18_3 := (F18 (mm + 4) (by omega)).trans M4
  have E18_4 := (F18 (mm + 5) (by omega)).trans M5
  have E18_5 := (F18 (mm + 6) (by omega)).trans M6
  have E18_6 := (F18 (mm + 7) (by omega)).trans M7
  have E18_7 := (F18 (mm + 8) (by omega)).trans M8
  have E18_8 := (F18 (mm + 9) (by omega)).trans M9
  have E18_9 := (F18 (mm + 18) (by omega)).trans M18
  have E18_10 := (F18 (mm + 19) (by omega)).trans M19
  have E18_11 := (F18 (mm + 22) (by omega)).trans M22
  refine j_if_eq_t (tgt := 20) d_Modl_value_15 (by decide) (by decide) ?_
  refine j_lload_n d_Modl_value_20 1 rfl ?_
  refine j_iload_n d_Modl_value_21 2 rfl ?_
  refine j_i2l d_Modl_value_22 rfl ?_
  refine j_lrem d_Modl_value_23 hm ?_
  refine j_iload_n d_Modl_value_24 2 rfl ?_
  refine j_i2l d_Modl_value_25 rfl ?_
  refine j_ladd d_Modl_value_26 ?_
  refine j_iload_n d_Modl_value_27 2 rfl ?_
  refine j_i2l d_Modl_value_28 rfl ?_
  refine j_lrem d_Modl_value_29 hm ?_
  refine j_lstore d_Modl_value_30 (Nat.le_of_ble_eq_true rfl) rfl ?_
  refine j_lconst d_Modl_value_32 (v := 0) (by decide) ?_
  refine j_lstore d_Modl_value_33 (Nat.le_of_ble_eq_true rfl) rfl ?_
  refine j_aload_n d_Modl_value_35 2 rfl ?_
  refine j_get iw_Modl (ci := 9) (kf := 4) rfl (by decide) g_859 d_Modl_value_36 O18 rfl ?_
  refine j_istore d_Modl_value_39 (Nat.le_of_ble_eq_true rfl) rfl ?_
  refine j_iload d_Modl_value_41 0 rfl ?_
  refine j_if_lt_f (tgt := 76) d_Modl_value_43 (by decide) (by decide) ?_
  refine j_lload d_Modl_value_46 1 rfl ?_
  refine j_lload d_Modl_value_48 2 rfl ?_
  refine j_lmul d_Modl_value_50 ?_
  refine j_aload_n d_Modl_value_51 3 rfl ?_
  refine j_get iw_Modl (ci := 9) (kf := 3) rfl (by decide) g_858 d_Modl_value_52 O18 rfl ?_
  refine j_iload d_Modl_value_55 0 rfl ?_
  refine j_lald d_Modl_value_57 E18_1 (by unfold vp_in; decide) ?_
  refine j_ladd d_Modl_value_58 ?_
  refine j_iload_n d_Modl_value_59 5 rfl ?_
  refine j_i2l d_Modl_value_60 rfl ?_
  refine j_lrem d_Modl_value_61 hm ?_
  refine j_iload_n d_Modl_value_62 5 rfl ?_
  refine j_i2l d_Modl_value_63 rfl ?_
  refine j_ladd d_Modl_value_64 ?_
  refine j_iload_n d_Modl_value_65 5 rfl ?_
  refine j_i2l d_Modl_value_66 rfl ?_
  refine j_lrem d_Modl_value_67 hm ?_
  refine j_lstore d_Modl_value_68 (Nat.le_of_ble_eq_true rfl) rfl ?_
  refine j_iinc d_Modl_value_70 1 rfl rfl (Nat.le_of_ble_eq_true rfl) rfl ?_
  refine j_goto (tgt := 41) d_Modl_value_73 (by decide) ?_
  refine j_iload d_Modl_value_41 0 rfl ?_
  refine j_if_lt_t (tgt := 76) d_Modl_value_43 (by decide) (by decide) ?_
  refine j_lload d_Modl_value_76 1 rfl ?_
  refine j_lret rfl d_Modl_value_78 ⟨rfl, rfl, ⟨_, O18⟩, fun x hx => ?_⟩
  exact (F18 x (by omega))
set_option maxHeartbeats 4000000 in
set_option maxRecDepth 100000 in
theorem n_value (l : Launch) {b : Nat} {D : va_G} {Y : Nat → ClassId} {s0 : State} (Z : jS0 b D Y s0) (mm n : Nat) (h : jH) (HM : jModl Y h mm) (x0 : Int64) (m0 : Int32) (h1 : ¬ 1 ≤ m0) : jMet l D s0 y_Modl_value c_Modl_value 9 (some .long) 4 [.ref mm, .long x0, .int m0] h n 0 0 (fun r h2 n2 => r = some (.long 0) ∧ n = n2 ∧ (∃ fs3, h2 mm = some (.inr (9, .int 1 :: fs3))) ∧ ∀ x, (x < mm ∨ mm + 23 ≤ x) → h2 x = h x) := by
  refine jMet_of Z (by decide) (Nat.le_of_ble_eq_true rfl) ?_
  intro p e s m below meth c
  obtain ⟨M0, M1, M2, M3, M4, M5, M6, M7, M8, M9, M18, M19, M22⟩ := HM
  refine j_aload_n d_Modl_value_0 0 rfl ?_
  refine j_iload_n d_Modl_value_1 2 rfl ?_
  refine j_iconst d_Modl_value_2 (v := 1) (by decide) ?_
  refine j_icmp_ge_f (tgt := 10) d_Modl_value_3 (by decide) h1 ?_
  refine j_iconst d_Modl_value_6 (v := 1) (by decide) ?_
  refine j_goto (tgt := 11) d_Modl_value_7 (by decide) ?_
  refine j_iconst d_Modl_value_11 (v := 1) (by decide) ?_
  refine j_callV (k_fails1 l Z mm _ _ _ 1 _ M0) ⟨⟨Nat.le_of_ble_eq_true rfl, Nat.le_of_ble_eq_true rfl⟩, g_970, g_973, g_10, (by decide +kernel), (by decide +kernel), (show _ = some 2 from by decide +kernel)⟩ g_972 gp_23 (ci := 9) rfl M0 ⟨(by first | exact Nat.le_of_ble_eq_true rfl | (simp only [jrm]; omega)), (by first | exact Nat.le_of_ble_eq_true rfl | (simp only [jrm]; omega))⟩ (Nat.le_of_ble_eq_true rfl) d_Modl_value_12 (fun r19 h19 n19 P19 => ?_)
  obtain ⟨rfl, rfl, O19, F19⟩ := P19
  have E19_0 := (F19 (mm + 1) (by omega)).trans M1
  have E19_1 := (F19 (mm + 2) (by omega)).trans M2
  have E19_2 := (F19 (mm + 3) (by omega)).trans M3
  have E19_3 := (F19 (mm + 4) (by omega)).trans M4
  have E19_4 := (F19 (mm + 5) (by omega)).trans M5
  have E19_5 := (F19 (mm + 6) (by omega)).trans M6
  have E19_6 := (F19 (mm + 7) (by omega)).trans M7
  have E19_7 := (F19 (mm + 8) (by omega)).trans M8
  have E19_8 := (F19 (mm + 9) (by omega)).trans M9
  have E19_9 := (F19 (mm + 18) (by omega)).trans M18
  have E19_10 := (F19 (mm + 19) (by omega)).trans M19
  have E19_11 := (F19 (mm + 22) (by omega)).trans M22
  refine j_if_eq_f (tgt := 20) d_Modl_value_15 (by decide) (by decide) ?_
  refine j_lconst d_Modl_value_18 (v := 0) (by decide) ?_
  refine j_lret rfl d_Modl_value_19 ⟨rfl, rfl, ⟨_, O19⟩, fun x hx => ?_⟩
  exact (F19 x (by omega))
end
section
abbrev c_Law_put : ByteArray := method_3_code
abbrev y_Law_put : MethodName := ⟨"FactorDeskLaw", "put", "(LFactorDesk;I[J)I"⟩
theorem d_Law_put_0 : decode c_Law_put 0 = .ok (.aload_n 2, 1) := by decide +kernel
theorem d_Law_put_1 : decode c_Law_put 1 = .ok (.iconst 0, 1) := by decide +kernel
theorem d_Law_put_2 : decode c_Law_put 2 = .ok (.aload_n 0, 1) := by decide +kernel
theorem d_Law_put_3 : decode c_Law_put 3 = .ok (.iload_n 1, 1) := by decide +kernel
theorem d_Law_put_4 : decode c_Law_put 4 = .ok (.invokevirtual 7, 3) := by decide +kernel
theorem d_Law_put_7 : decode c_Law_put 7 = .ok (.i2l, 1) := by decide +kernel
theorem d_Law_put_8 : decode c_Law_put 8 = .ok (.lastore, 1) := by decide +kernel
theorem d_Law_put_9 : decode c_Law_put 9 = .ok (.goto 6, 3) := by decide +kernel
theorem d_Law_put_12 : decode c_Law_put 12 = .ok (.astore_n 3, 1) := by decide +kernel
theorem d_Law_put_13 : decode c_Law_put 13 = .ok (.iconst 1, 1) := by decide +kernel
theorem d_Law_put_14 : decode c_Law_put 14 = .ok (.ireturn, 1) := by decide +kernel
theorem d_Law_put_15 : decode c_Law_put 15 = .ok (.iconst 0, 1) := by decide +kernel
theorem d_Law_put_16 : decode c_Law_put 16 = .ok (.ireturn, 1) := by decide +kernel
abbrev c_Law_at : ByteArray := method_6_code
abbrev y_Law_at : MethodName := ⟨"FactorDeskLaw", "at", "(LFactorDesk;I[J)I"⟩
theorem d_Law_at_0 : decode c_Law_at 0 = .ok (.aload_n 2, 1) := by decide +kernel
theorem d_Law_at_1 : decode c_Law_at 1 = .ok (.iconst 0, 1) := by decide +kernel
theorem d_Law_at_2 : decode c_Law_at 2 = .ok (.aload_n 0, 1) := by decide +kernel
theorem d_Law_at_3 : decode c_Law_at 3 = .ok (.iload_n 1, 1) := by decide +kernel
theorem d_Law_at_4 : decode c_Law_at 4 = .ok (.invokevirtual 24, 3) := by decide +kernel
theorem d_Law_at_7 : decode c_Law_at 7 = .ok (.i2l, 1) := by decide +kernel
theorem d_Law_at_8 : decode c_Law_at 8 = .ok (.lastore, 1) := by decide +kernel
theorem d_Law_at_9 : decode c_Law_at 9 = .ok (.goto 6, 3) := by decide +kernel
theorem d_Law_at_12 : decode c_Law_at 12 = .ok (.astore_n 3, 1) := by decide +kernel
theorem d_Law_at_13 : decode c_Law_at 13 = .ok (.iconst 1, 1) := by decide +kernel
theorem d_Law_at_14 : decode c_Law_at 14 = .ok (.ireturn, 1) := by decide +kernel
theorem d_Law_at_15 : decode c_Law_at 15 = .ok (.iconst 0, 1) := by decide +kernel
theorem d_Law_at_16 : decode c_Law_at 16 = .ok (.ireturn, 1) := by decide +kernel
abbrev c_Law_ofDegree : ByteArray := method_9_code
abbrev y_Law_ofDegree : MethodName := ⟨"FactorDeskLaw", "ofDegree", "(LFactorDesk;I[J)I"⟩
theorem d_Law_ofDegree_0 : decode c_Law_ofDegree 0 = .ok (.aload_n 2, 1) := by decide +kernel
theorem d_Law_ofDegree_1 : decode c_Law_ofDegree 1 = .ok (.iconst 0, 1) := by decide +kernel
theorem d_Law_ofDegree_2 : decode c_Law_ofDegree 2 = .ok (.aload_n 0, 1) := by decide +kernel
theorem d_Law_ofDegree_3 : decode c_Law_ofDegree 3 = .ok (.iload_n 1, 1) := by decide +kernel
theorem d_Law_ofDegree_4 : decode c_Law_ofDegree 4 = .ok (.invokevirtual 37, 3) := by decide +kernel
theorem d_Law_ofDegree_7 : decode c_Law_ofDegree 7 = .ok (.i2l, 1) := by decide +kernel
theorem d_Law_ofDegree_8 : decode c_Law_ofDegree 8 = .ok (.lastore, 1) := by decide +kernel
theorem d_Law_ofDegree_9 : decode c_Law_ofDegree 9 = .ok (.goto 6, 3) := by decide +kernel
theorem d_Law_ofDegree_12 : decode c_Law_ofDegree 12 = .ok (.astore_n 3, 1) := by decide +kernel
theorem d_Law_ofDegree_13 : decode c_Law_ofDegree 13 = .ok (.iconst 1, 1) := by decide +kernel
theorem d_Law_ofDegree_14 : decode c_Law_ofDegree 14 = .ok (.ireturn, 1) := by decide +kernel
theorem d_Law_ofDegree_15 : decode c_Law_ofDegree 15 = .ok (.iconst 0, 1) := by decide +kernel
theorem d_Law_ofDegree_16 : decode c_Law_ofDegree 16 = .ok (.ireturn, 1) := by decide +kernel
abbrev c_Law_divisor : ByteArray := method_11_code
abbrev y_Law_divisor : MethodName := ⟨"FactorDeskLaw", "divisor", "(LFactorDesk;I[J)I"⟩
theorem d_Law_divisor_0 : decode c_Law_divisor 0 = .ok (.aload_n 2, 1) := by decide +kernel
theorem d_Law_divisor_1 : decode c_Law_divisor 1 = .ok (.iconst 0, 1) := by decide +kernel
theorem d_Law_divisor_2 : decode c_Law_divisor 2 = .ok (.aload_n 0, 1) := by decide +kernel
theorem d_Law_divisor_3 : decode c_Law_divisor 3 = .ok (.iload_n 1, 1) := by decide +kernel
theorem d_Law_divisor_4 : decode c_Law_divisor 4 = .ok (.invokevirtual 43, 3) := by decide +kernel
theorem d_Law_divisor_7 : decode c_Law_divisor 7 = .ok (.lastore, 1) := by decide +kernel
theorem d_Law_divisor_8 : decode c_Law_divisor 8 = .ok (.goto 6, 3) := by decide +kernel
theorem d_Law_divisor_11 : decode c_Law_divisor 11 = .ok (.astore_n 3, 1) := by decide +kernel
theorem d_Law_divisor_12 : decode c_Law_divisor 12 = .ok (.iconst 1, 1) := by decide +kernel
theorem d_Law_divisor_13 : decode c_Law_divisor 13 = .ok (.ireturn, 1) := by decide +kernel
theorem d_Law_divisor_14 : decode c_Law_divisor 14 = .ok (.iconst 0, 1) := by decide +kernel
theorem d_Law_divisor_15 : decode c_Law_divisor 15 = .ok (.ireturn, 1) := by decide +kernel
abbrev c_Law_value : ByteArray := method_13_code
abbrev y_Law_value : MethodName := ⟨"FactorDeskLaw", "value", "(LFactorDesk;JI[J)I"⟩
theorem d_Law_value_0 : decode c_Law_value 0 = .ok (.aload 4, 2) := by decide +kernel
theorem d_Law_value_2 : decode c_Law_value 2 = .ok (.iconst 0, 1) := by decide +kernel
theorem d_Law_value_3 : decode c_Law_value 3 = .ok (.aload_n 0, 1) := by decide +kernel
theorem d_Law_value_4 : decode c_Law_value 4 = .ok (.lload_n 1, 1) := by decide +kernel
theorem d_Law_value_5 : decode c_Law_value 5 = .ok (.iload_n 3, 1) := by decide +kernel
theorem d_Law_value_6 : decode c_Law_value 6 = .ok (.invokevirtual 51, 3) := by decide +kernel
theorem d_Law_value_9 : decode c_Law_value 9 = .ok (.lastore, 1) := by decide +kernel
theorem d_Law_value_10 : decode c_Law_value 10 = .ok (.goto 7, 3) := by decide +kernel
theorem d_Law_value_13 : decode c_Law_value 13 = .ok (.astore 5, 2) := by decide +kernel
theorem d_Law_value_15 : decode c_Law_value 15 = .ok (.iconst 1, 1) := by decide +kernel
theorem d_Law_value_16 : decode c_Law_value 16 = .ok (.ireturn, 1) := by decide +kernel
theorem d_Law_value_17 : decode c_Law_value 17 = .ok (.iconst 0, 1) := by decide +kernel
theorem d_Law_value_18 : decode c_Law_value 18 = .ok (.ireturn, 1) := by decide +kernel
abbrev c_Law_take : ByteArray := method_4_code
abbrev y_Law_take : MethodName := ⟨"FactorDeskLaw", "take", "(LFactorDesk;[J)I"⟩
theorem d_Law_take_0 : decode c_Law_take 0 = .ok (.aload_n 1, 1) := by decide +kernel
theorem d_Law_take_1 : decode c_Law_take 1 = .ok (.iconst 0, 1) := by decide +kernel
theorem d_Law_take_2 : decode c_Law_take 2 = .ok (.aload_n 0, 1) := by decide +kernel
theorem d_Law_take_3 : decode c_Law_take 3 = .ok (.invokevirtual 15, 3) := by decide +kernel
theorem d_Law_take_6 : decode c_Law_take 6 = .ok (.i2l, 1) := by decide +kernel
theorem d_Law_take_7 : decode c_Law_take 7 = .ok (.lastore, 1) := by decide +kernel
theorem d_Law_take_8 : decode c_Law_take 8 = .ok (.goto 6, 3) := by decide +kernel
theorem d_Law_take_11 : decode c_Law_take 11 = .ok (.astore_n 2, 1) := by decide +kernel
theorem d_Law_take_12 : decode c_Law_take 12 = .ok (.iconst 1, 1) := by decide +kernel
theorem d_Law_take_13 : decode c_Law_take 13 = .ok (.ireturn, 1) := by decide +kernel
theorem d_Law_take_14 : decode c_Law_take 14 = .ok (.iconst 0, 1) := by decide +kernel
theorem d_Law_take_15 : decode c_Law_take 15 = .ok (.ireturn, 1) := by decide +kernel
abbrev c_Law_times : ByteArray := method_5_code
abbrev y_Law_times : MethodName := ⟨"FactorDeskLaw", "times", "(LFactorDesk;[J)I"⟩
theorem d_Law_times_0 : decode c_Law_times 0 = .ok (.aload_n 1, 1) := by decide +kernel
theorem d_Law_times_1 : decode c_Law_times 1 = .ok (.iconst 0, 1) := by decide +kernel
theorem d_Law_times_2 : decode c_Law_times 2 = .ok (.aload_n 0, 1) := by decide +kernel
theorem d_Law_times_3 : decode c_Law_times 3 = .ok (.invokevirtual 21, 3) := by decide +kernel
theorem d_Law_times_6 : decode c_Law_times 6 = .ok (.i2l, 1) := by decide +kernel
theorem d_Law_times_7 : decode c_Law_times 7 = .ok (.lastore, 1) := by decide +kernel
theorem d_Law_times_8 : decode c_Law_times 8 = .ok (.goto 9, 3) := by decide +kernel
theorem d_Law_times_11 : decode c_Law_times 11 = .ok (.astore_n 2, 1) := by decide +kernel
theorem d_Law_times_12 : decode c_Law_times 12 = .ok (.iconst 1, 1) := by decide +kernel
theorem d_Law_times_13 : decode c_Law_times 13 = .ok (.ireturn, 1) := by decide +kernel
theorem d_Law_times_14 : decode c_Law_times 14 = .ok (.astore_n 2, 1) := by decide +kernel
theorem d_Law_times_15 : decode c_Law_times 15 = .ok (.iconst 2, 1) := by decide +kernel
theorem d_Law_times_16 : decode c_Law_times 16 = .ok (.ireturn, 1) := by decide +kernel
theorem d_Law_times_17 : decode c_Law_times 17 = .ok (.iconst 0, 1) := by decide +kernel
theorem d_Law_times_18 : decode c_Law_times 18 = .ok (.ireturn, 1) := by decide +kernel
abbrev c_Law_common : ByteArray := method_10_code
abbrev y_Law_common : MethodName := ⟨"FactorDeskLaw", "common", "(LFactorDesk;[J)I"⟩
theorem d_Law_common_0 : decode c_Law_common 0 = .ok (.aload_n 1, 1) := by decide +kernel
theorem d_Law_common_1 : decode c_Law_common 1 = .ok (.iconst 0, 1) := by decide +kernel
theorem d_Law_common_2 : decode c_Law_common 2 = .ok (.aload_n 0, 1) := by decide +kernel
theorem d_Law_common_3 : decode c_Law_common 3 = .ok (.invokevirtual 40, 3) := by decide +kernel
theorem d_Law_common_6 : decode c_Law_common 6 = .ok (.i2l, 1) := by decide +kernel
theorem d_Law_common_7 : decode c_Law_common 7 = .ok (.lastore, 1) := by decide +kernel
theorem d_Law_common_8 : decode c_Law_common 8 = .ok (.goto 6, 3) := by decide +kernel
theorem d_Law_common_11 : decode c_Law_common 11 = .ok (.astore_n 2, 1) := by decide +kernel
theorem d_Law_common_12 : decode c_Law_common 12 = .ok (.iconst 1, 1) := by decide +kernel
theorem d_Law_common_13 : decode c_Law_common 13 = .ok (.ireturn, 1) := by decide +kernel
theorem d_Law_common_14 : decode c_Law_common 14 = .ok (.iconst 0, 1) := by decide +kernel
theorem d_Law_common_15 : decode c_Law_common 15 = .ok (.ireturn, 1) := by decide +kernel
abbrev c_Law_divides : ByteArray := method_12_code
abbrev y_Law_divides : MethodName := ⟨"FactorDeskLaw", "divides", "(LFactorDesk;[J)I"⟩
theorem d_Law_divides_0 : decode c_Law_divides 0 = .ok (.aload_n 1, 1) := by decide +kernel
theorem d_Law_divides_1 : decode c_Law_divides 1 = .ok (.iconst 0, 1) := by decide +kernel
theorem d_Law_divides_2 : decode c_Law_divides 2 = .ok (.aload_n 0, 1) := by decide +kernel
theorem d_Law_divides_3 : decode c_Law_divides 3 = .ok (.invokevirtual 47, 3) := by decide +kernel
theorem d_Law_divides_6 : decode c_Law_divides 6 = .ok (.ifCond .eq 7, 3) := by decide +kernel
theorem d_Law_divides_9 : decode c_Law_divides 9 = .ok (.lconst 1, 1) := by decide +kernel
theorem d_Law_divides_10 : decode c_Law_divides 10 = .ok (.goto 4, 3) := by decide +kernel
theorem d_Law_divides_13 : decode c_Law_divides 13 = .ok (.lconst 0, 1) := by decide +kernel
theorem d_Law_divides_14 : decode c_Law_divides 14 = .ok (.lastore, 1) := by decide +kernel
theorem d_Law_divides_15 : decode c_Law_divides 15 = .ok (.goto 6, 3) := by decide +kernel
theorem d_Law_divides_18 : decode c_Law_divides 18 = .ok (.astore_n 2, 1) := by decide +kernel
theorem d_Law_divides_19 : decode c_Law_divides 19 = .ok (.iconst 1, 1) := by decide +kernel
theorem d_Law_divides_20 : decode c_Law_divides 20 = .ok (.ireturn, 1) := by decide +kernel
theorem d_Law_divides_21 : decode c_Law_divides 21 = .ok (.iconst 0, 1) := by decide +kernel
theorem d_Law_divides_22 : decode c_Law_divides 22 = .ok (.ireturn, 1) := by decide +kernel
abbrev c_Law_factor : ByteArray := method_7_code
abbrev y_Law_factor : MethodName := ⟨"FactorDeskLaw", "factor", "(LFactorDesk;II[J)I"⟩
theorem d_Law_factor_0 : decode c_Law_factor 0 = .ok (.aload_n 3, 1) := by decide +kernel
theorem d_Law_factor_1 : decode c_Law_factor 1 = .ok (.iconst 0, 1) := by decide +kernel
theorem d_Law_factor_2 : decode c_Law_factor 2 = .ok (.aload_n 0, 1) := by decide +kernel
theorem d_Law_factor_3 : decode c_Law_factor 3 = .ok (.iload_n 1, 1) := by decide +kernel
theorem d_Law_factor_4 : decode c_Law_factor 4 = .ok (.iload_n 2, 1) := by decide +kernel
theorem d_Law_factor_5 : decode c_Law_factor 5 = .ok (.invokevirtual 27, 3) := by decide +kernel
theorem d_Law_factor_8 : decode c_Law_factor 8 = .ok (.i2l, 1) := by decide +kernel
theorem d_Law_factor_9 : decode c_Law_factor 9 = .ok (.lastore, 1) := by decide +kernel
theorem d_Law_factor_10 : decode c_Law_factor 10 = .ok (.goto 7, 3) := by decide +kernel
theorem d_Law_factor_13 : decode c_Law_factor 13 = .ok (.astore 4, 2) := by decide +kernel
theorem d_Law_factor_15 : decode c_Law_factor 15 = .ok (.iconst 1, 1) := by decide +kernel
theorem d_Law_factor_16 : decode c_Law_factor 16 = .ok (.ireturn, 1) := by decide +kernel
theorem d_Law_factor_17 : decode c_Law_factor 17 = .ok (.iconst 0, 1) := by decide +kernel
theorem d_Law_factor_18 : decode c_Law_factor 18 = .ok (.ireturn, 1) := by decide +kernel
abbrev c_Law_part : ByteArray := method_8_code
abbrev y_Law_part : MethodName := ⟨"FactorDeskLaw", "part", "(LFactorDesk;II[J)I"⟩
theorem d_Law_part_0 : decode c_Law_part 0 = .ok (.aload_n 3, 1) := by decide +kernel
theorem d_Law_part_1 : decode c_Law_part 1 = .ok (.iconst 0, 1) := by decide +kernel
theorem d_Law_part_2 : decode c_Law_part 2 = .ok (.aload_n 0, 1) := by decide +kernel
theorem d_Law_part_3 : decode c_Law_part 3 = .ok (.iload_n 1, 1) := by decide +kernel
theorem d_Law_part_4 : decode c_Law_part 4 = .ok (.iload_n 2, 1) := by decide +kernel
theorem d_Law_part_5 : decode c_Law_part 5 = .ok (.invokevirtual 33, 3) := by decide +kernel
theorem d_Law_part_8 : decode c_Law_part 8 = .ok (.lastore, 1) := by decide +kernel
theorem d_Law_part_9 : decode c_Law_part 9 = .ok (.goto 7, 3) := by decide +kernel
theorem d_Law_part_12 : decode c_Law_part 12 = .ok (.astore 4, 2) := by decide +kernel
theorem d_Law_part_14 : decode c_Law_part 14 = .ok (.iconst 1, 1) := by decide +kernel
theorem d_Law_part_15 : decode c_Law_part 15 = .ok (.ireturn, 1) := by decide +kernel
theorem d_Law_part_16 : decode c_Law_part 16 = .ok (.iconst 0, 1) := by decide +kernel
theorem d_Law_part_17 : decode c_Law_part 17 = .ok (.ireturn, 1) := by decide +kernel
theorem g_637 : jG (Jvm.Cond.methodLink "FactorDeskLaw" (7 : Nat) ({ cls := "FactorDesk", name := "put", desc := "(I)I" } : Jvm.MethodName)) := jG_of 702 (by decide +kernel) (by decide +kernel)
theorem g_640 : jG (Jvm.Cond.code ({ cls := "FactorDesk", name := "put", desc := "(I)I" } : Jvm.MethodName) prog_1_method_2_code (2 : Nat) (Option.some Jvm.ClassFile.FieldType.int)) := jG_of 705 (by decide +kernel) (by decide +kernel)
theorem g_638 : jG (Jvm.Cond.instanceMethod ({ cls := "FactorDesk", name := "put", desc := "(I)I" } : Jvm.MethodName)) := jG_of 703 (by decide +kernel) (by decide +kernel)
theorem g_639 : jG (Jvm.Cond.selects "FactorDesk" ({ cls := "FactorDesk", name := "put", desc := "(I)I" } : Jvm.MethodName) ({ cls := "FactorDesk", name := "put", desc := "(I)I" } : Jvm.MethodName)) := jG_of 704 (by decide +kernel) (by decide +kernel)
theorem g_766 : jG (Jvm.Cond.methodLink "FactorDeskLaw" (24 : Nat) ({ cls := "FactorDesk", name := "at", desc := "(I)I" } : Jvm.MethodName)) := jG_of 831 (by decide +kernel) (by decide +kernel)
theorem g_769 : jG (Jvm.Cond.code ({ cls := "FactorDesk", name := "at", desc := "(I)I" } : Jvm.MethodName) prog_1_method_6_code (2 : Nat) (Option.some Jvm.ClassFile.FieldType.int)) := jG_of 834 (by decide +kernel) (by decide +kernel)
theorem g_767 : jG (Jvm.Cond.instanceMethod ({ cls := "FactorDesk", name := "at", desc := "(I)I" } : Jvm.MethodName)) := jG_of 832 (by decide +kernel) (by decide +kernel)
theorem g_768 : jG (Jvm.Cond.selects "FactorDesk" ({ cls := "FactorDesk", name := "at", desc := "(I)I" } : Jvm.MethodName) ({ cls := "FactorDesk", name := "at", desc := "(I)I" } : Jvm.MethodName)) := jG_of 833 (by decide +kernel) (by decide +kernel)
theorem g_806 : jG (Jvm.Cond.methodLink "FactorDeskLaw" (37 : Nat) ({ cls := "FactorDesk", name := "ofDegree", desc := "(I)I" } : Jvm.MethodName)) := jG_of 871 (by decide +kernel) (by decide +kernel)
theorem g_809 : jG (Jvm.Cond.code ({ cls := "FactorDesk", name := "ofDegree", desc := "(I)I" } : Jvm.MethodName) prog_1_method_13_code (2 : Nat) (Option.some Jvm.ClassFile.FieldType.int)) := jG_of 874 (by decide +kernel) (by decide +kernel)
theorem g_807 : jG (Jvm.Cond.instanceMethod ({ cls := "FactorDesk", name := "ofDegree", desc := "(I)I" } : Jvm.MethodName)) := jG_of 872 (by decide +kernel) (by decide +kernel)
theorem g_808 : jG (Jvm.Cond.selects "FactorDesk" ({ cls := "FactorDesk", name := "ofDegree", desc := "(I)I" } : Jvm.MethodName) ({ cls := "FactorDesk", name := "ofDegree", desc := "(I)I" } : Jvm.MethodName)) := jG_of 873 (by decide +kernel) (by decide +kernel)
theorem g_826 : jG (Jvm.Cond.methodLink "FactorDeskLaw" (43 : Nat) ({ cls := "FactorDesk", name := "divisor", desc := "(I)J" } : Jvm.MethodName)) := jG_of 891 (by decide +kernel) (by decide +kernel)
theorem g_829 : jG (Jvm.Cond.code ({ cls := "FactorDesk", name := "divisor", desc := "(I)J" } : Jvm.MethodName) prog_1_method_15_code (2 : Nat) (Option.some Jvm.ClassFile.FieldType.long)) := jG_of 894 (by decide +kernel) (by decide +kernel)
theorem g_827 : jG (Jvm.Cond.instanceMethod ({ cls := "FactorDesk", name := "divisor", desc := "(I)J" } : Jvm.MethodName)) := jG_of 892 (by decide +kernel) (by decide +kernel)
theorem g_828 : jG (Jvm.Cond.selects "FactorDesk" ({ cls := "FactorDesk", name := "divisor", desc := "(I)J" } : Jvm.MethodName) ({ cls := "FactorDesk", name := "divisor", desc := "(I)J" } : Jvm.MethodName)) := jG_of 893 (by decide +kernel) (by decide +kernel)
theorem g_843 : jG (Jvm.Cond.methodLink "FactorDeskLaw" (51 : Nat) ({ cls := "FactorDesk", name := "value", desc := "(JI)J" } : Jvm.MethodName)) := jG_of 908 (by decide +kernel) (by decide +kernel)
theorem g_846 : jG (Jvm.Cond.code ({ cls := "FactorDesk", name := "value", desc := "(JI)J" } : Jvm.MethodName) prog_1_method_17_code (11 : Nat) (Option.some Jvm.ClassFile.FieldType.long)) := jG_of 911 (by decide +kernel) (by decide +kernel)
theorem g_844 : jG (Jvm.Cond.instanceMethod ({ cls := "FactorDesk", name := "value", desc := "(JI)J" } : Jvm.MethodName)) := jG_of 909 (by decide +kernel) (by decide +kernel)
theorem g_845 : jG (Jvm.Cond.selects "FactorDesk" ({ cls := "FactorDesk", name := "value", desc := "(JI)J" } : Jvm.MethodName) ({ cls := "FactorDesk", name := "value", desc := "(JI)J" } : Jvm.MethodName)) := jG_of 910 (by decide +kernel) (by decide +kernel)
theorem g_713 : jG (Jvm.Cond.methodLink "FactorDeskLaw" (15 : Nat) ({ cls := "FactorDesk", name := "take", desc := "()I" } : Jvm.MethodName)) := jG_of 778 (by decide +kernel) (by decide +kernel)
theorem g_716 : jG (Jvm.Cond.code ({ cls := "FactorDesk", name := "take", desc := "()I" } : Jvm.MethodName) prog_1_method_4_code (2 : Nat) (Option.some Jvm.ClassFile.FieldType.int)) := jG_of 781 (by decide +kernel) (by decide +kernel)
theorem g_714 : jG (Jvm.Cond.instanceMethod ({ cls := "FactorDesk", name := "take", desc := "()I" } : Jvm.MethodName)) := jG_of 779 (by decide +kernel) (by decide +kernel)
theorem g_715 : jG (Jvm.Cond.selects "FactorDesk" ({ cls := "FactorDesk", name := "take", desc := "()I" } : Jvm.MethodName) ({ cls := "FactorDesk", name := "take", desc := "()I" } : Jvm.MethodName)) := jG_of 780 (by decide +kernel) (by decide +kernel)
theorem g_712 : jG (Jvm.Cond.classLink "FactorDeskLaw" (19 : Nat) "java/lang/IllegalArgumentException") := jG_of 777 (by decide +kernel) (by decide +kernel)
theorem g_748 : jG (Jvm.Cond.methodLink "FactorDeskLaw" (21 : Nat) ({ cls := "FactorDesk", name := "times", desc := "()I" } : Jvm.MethodName)) := jG_of 813 (by decide +kernel) (by decide +kernel)
theorem g_751 : jG (Jvm.Cond.code ({ cls := "FactorDesk", name := "times", desc := "()I" } : Jvm.MethodName) prog_1_method_5_code (2 : Nat) (Option.some Jvm.ClassFile.FieldType.int)) := jG_of 816 (by decide +kernel) (by decide +kernel)
theorem g_749 : jG (Jvm.Cond.instanceMethod ({ cls := "FactorDesk", name := "times", desc := "()I" } : Jvm.MethodName)) := jG_of 814 (by decide +kernel) (by decide +kernel)
theorem g_750 : jG (Jvm.Cond.selects "FactorDesk" ({ cls := "FactorDesk", name := "times", desc := "()I" } : Jvm.MethodName) ({ cls := "FactorDesk", name := "times", desc := "()I" } : Jvm.MethodName)) := jG_of 815 (by decide +kernel) (by decide +kernel)
theorem g_818 : jG (Jvm.Cond.methodLink "FactorDeskLaw" (40 : Nat) ({ cls := "FactorDesk", name := "common", desc := "()I" } : Jvm.MethodName)) := jG_of 883 (by decide +kernel) (by decide +kernel)
theorem g_821 : jG (Jvm.Cond.code ({ cls := "FactorDesk", name := "common", desc := "()I" } : Jvm.MethodName) prog_1_method_14_code (2 : Nat) (Option.some Jvm.ClassFile.FieldType.int)) := jG_of 886 (by decide +kernel) (by decide +kernel)
theorem g_819 : jG (Jvm.Cond.instanceMethod ({ cls := "FactorDesk", name := "common", desc := "()I" } : Jvm.MethodName)) := jG_of 884 (by decide +kernel) (by decide +kernel)
theorem g_820 : jG (Jvm.Cond.selects "FactorDesk" ({ cls := "FactorDesk", name := "common", desc := "()I" } : Jvm.MethodName) ({ cls := "FactorDesk", name := "common", desc := "()I" } : Jvm.MethodName)) := jG_of 885 (by decide +kernel) (by decide +kernel)
theorem g_834 : jG (Jvm.Cond.methodLink "FactorDeskLaw" (47 : Nat) ({ cls := "FactorDesk", name := "divides", desc := "()Z" } : Jvm.MethodName)) := jG_of 899 (by decide +kernel) (by decide +kernel)
theorem g_837 : jG (Jvm.Cond.code ({ cls := "FactorDesk", name := "divides", desc := "()Z" } : Jvm.MethodName) prog_1_method_16_code (2 : Nat) (Option.some Jvm.ClassFile.FieldType.boolean)) := jG_of 902 (by decide +kernel) (by decide +kernel)
theorem g_835 : jG (Jvm.Cond.instanceMethod ({ cls := "FactorDesk", name := "divides", desc := "()Z" } : Jvm.MethodName)) := jG_of 900 (by decide +kernel) (by decide +kernel)
theorem g_836 : jG (Jvm.Cond.selects "FactorDesk" ({ cls := "FactorDesk", name := "divides", desc := "()Z" } : Jvm.MethodName) ({ cls := "FactorDesk", name := "divides", desc := "()Z" } : Jvm.MethodName)) := jG_of 901 (by decide +kernel) (by decide +kernel)
theorem g_775 : jG (Jvm.Cond.methodLink "FactorDeskLaw" (27 : Nat) ({ cls := "FactorDesk", name := "factor", desc := "(II)I" } : Jvm.MethodName)) := jG_of 840 (by decide +kernel) (by decide +kernel)
theorem g_778 : jG (Jvm.Cond.code ({ cls := "FactorDesk", name := "factor", desc := "(II)I" } : Jvm.MethodName) prog_1_method_10_code (3 : Nat) (Option.some Jvm.ClassFile.FieldType.int)) := jG_of 843 (by decide +kernel) (by decide +kernel)
theorem g_776 : jG (Jvm.Cond.instanceMethod ({ cls := "FactorDesk", name := "factor", desc := "(II)I" } : Jvm.MethodName)) := jG_of 841 (by decide +kernel) (by decide +kernel)
theorem g_777 : jG (Jvm.Cond.selects "FactorDesk" ({ cls := "FactorDesk", name := "factor", desc := "(II)I" } : Jvm.MethodName) ({ cls := "FactorDesk", name := "factor", desc := "(II)I" } : Jvm.MethodName)) := jG_of 842 (by decide +kernel) (by decide +kernel)
theorem g_774 : jG (Jvm.Cond.classLink "FactorDeskLaw" (31 : Nat) "java/util/NoSuchElementException") := jG_of 839 (by decide +kernel) (by decide +kernel)
theorem g_798 : jG (Jvm.Cond.methodLink "FactorDeskLaw" (33 : Nat) ({ cls := "FactorDesk", name := "part", desc := "(II)J" } : Jvm.MethodName)) := jG_of 863 (by decide +kernel) (by decide +kernel)
theorem g_801 : jG (Jvm.Cond.code ({ cls := "FactorDesk", name := "part", desc := "(II)J" } : Jvm.MethodName) prog_1_method_11_code (3 : Nat) (Option.some Jvm.ClassFile.FieldType.long)) := jG_of 866 (by decide +kernel) (by decide +kernel)
theorem g_799 : jG (Jvm.Cond.instanceMethod ({ cls := "FactorDesk", name := "part", desc := "(II)J" } : Jvm.MethodName)) := jG_of 864 (by decide +kernel) (by decide +kernel)
theorem g_800 : jG (Jvm.Cond.selects "FactorDesk" ({ cls := "FactorDesk", name := "part", desc := "(II)J" } : Jvm.MethodName) ({ cls := "FactorDesk", name := "part", desc := "(II)J" } : Jvm.MethodName)) := jG_of 865 (by decide +kernel) (by decide +kernel)
theorem vcl_ok : ∀ q ∈ vcl, (∀ w ∈ u_ws q.1 q.2.1 q.2.2, w ∈ lw_tbl) ∧ ∃ n, Cond.instantiable q.1 n ∈ lw_tbl := by
  intro q hq
  simp only [vcl, List.mem_cons, List.not_mem_nil, or_false] at hq
  rcases hq with rfl | rfl | rfl | rfl | rfl | rfl | rfl | rfl | rfl | rfl
  · exact ⟨fun w hw => (iw_Poly w hw).1, 2, by decide +kernel⟩
  · exact ⟨fun w hw => (iw_FList w hw).1, 3, by decide +kernel⟩
  · exact ⟨fun w hw => (iw_Divn w hw).1, 2, by decide +kernel⟩
  · exact ⟨fun w hw => (iw_Resi w hw).1, 5, by decide +kernel⟩
  · exact ⟨fun w hw => (iw_CDiv w hw).1, 7, by decide +kernel⟩
  · exact ⟨fun w hw => (iw_MSpl w hw).1, 11, by decide +kernel⟩
  · exact ⟨fun w hw => (iw_Lift w hw).1, 11, by decide +kernel⟩
  · exact ⟨fun w hw => (iw_Splt w hw).1, 9, by decide +kernel⟩
  · exact ⟨fun w hw => (iw_Desk w hw).1, 10, by decide +kernel⟩
  · exact ⟨fun w hw => (iw_Modl w hw).1, 35, by decide +kernel⟩
theorem j_start {b : Nat} {s : State} (hts : ∀ w ∈ lw_tbl, w.before #[Value.ref b] s = true) (hg : (Jvm.Cond.and given_1 narrow_1).before #[Value.ref b] s = true) : ∃ (D : va_G) (Y : Nat → ClassId), jS0 b D Y s := by
  have HC : ∀ c : Nat, ∃ f : ClassId × (Nat → Nat), ∀ q : vw_C, vcl[c]? = some q → u_Kn s q.1 q.2.1 q.2.2 f.1 f.2 := by
    intro c
    by_cases hc : ∃ q, vcl[c]? = some q
    · obtain ⟨q, hq⟩ := hc
      obtain ⟨h1, n, h2⟩ := vcl_ok q (List.mem_of_getElem? hq)
      obtain ⟨cC, iS, hK⟩ := u_known (ws := lw_tbl) hts h1 (hts _ h2)
      exact ⟨(cC, iS), fun q2 h2 => by rw [hq] at h2; cases h2; exact hK⟩
    · exact ⟨(0, fun _ => 0), fun q hq => absurd ⟨q, hq⟩ hc⟩
  obtain ⟨f, hf⟩ := Classical.skolem.mp HC
  have wk : ∀ {w : Cond}, w ∈ lw_tbl → w.before #[Value.ref b] s = true := fun hw => hts _ hw
  obtain ⟨c0, k0, m0, a0, b0, d0⟩ := Cond.arrayClass_spec (wk (w := .arrayClass .int) (by decide +kernel))
  obtain ⟨c1, k1, m1, a1, b1, d1⟩ := Cond.arrayClass_spec (wk (w := .arrayClass .long) (by decide +kernel))
  obtain ⟨c2, k2, m2, a2, b2, d2⟩ := Cond.arrayClass_spec (wk (w := .arrayClass .boolean) (by decide +kernel))
  obtain ⟨m3, c3, k3, g3, -, b3, d3, a3⟩ := Cond.arrayOver_spec (wk (w := .arrayOver (.object "FactorDesk$Poly")) (by decide +kernel))
  obtain ⟨m4, c4, k4, -, b4, d4, a4⟩ := jao_spec (wk (w := .arrayOver (.array .long)) (by decide +kernel))
  refine ⟨(fun c => (f c).1, fun c => (f c).2), fun i => [c0, c1, c2, c3, c4].getD i 0, hts, hg, fun c q hq => hf c q hq, fun k q hk => ?_⟩
  match k, hk with
  | 0, hk => cases hk; exact ⟨fun N z => ⟨(fun k h => by cases h), k0, b0, m0, d0⟩, a0⟩
  | 1, hk => cases hk; exact ⟨fun N z => ⟨(fun k h => by cases h), k1, b1, m1, d1⟩, a1⟩
  | 2, hk => cases hk; exact ⟨fun N z => ⟨(fun k h => by cases h), k2, b2, m2, d2⟩, a2⟩
  | 3, hk => cases hk; exact ⟨fun N z => ⟨(fun k h => by cases h), k3, b3, m3, d3⟩, k3, m3, b3, d3, g3, a3⟩
  | 4, hk => cases hk; exact ⟨fun N z => ⟨(fun k h => by cases h), k4, b4, m4, d4⟩, a4⟩
  | k + 5, hk => cases hk
theorem jx_tab {es : List ExceptionTableEntry} {s e hp ct : Nat} {hh : List (Nat × Nat × Nat × Nat)} (h : es.map (fun h => (h.startPc, h.endPc, h.handlerPc, h.catchType)) = (s, e, hp, ct) :: hh) : ∃ rest, es = ⟨s, e, hp, ct⟩ :: rest := by
  cases es with
  | nil => cases h
  | cons x rest =>
    obtain ⟨a, b, c, d⟩ := x
    simp only [List.map_cons, List.cons.injEq, Prod.mk.injEq] at h
    obtain ⟨⟨rfl, rfl, rfl, rfl⟩, -⟩ := h
    exact ⟨rest, rfl⟩
set_option maxHeartbeats 4000000 in
set_option maxRecDepth 100000 in
theorem w_put (l : Launch) {b : Nat} {D : va_G} {Y : Nat → ClassId} {s0 : State} (Z : jS0 b D Y s0) (d rr n : Nat) (h : jH) (HD : jDesk Y h d) (x0 : Int32) (f : Nat → Int64) (hrr : d + 208 ≤ rr) (HR : h rr = some (.inl (Y 1, 1, .inr (.inl f)))) : jMetW l D s0 y_Law_put c_Law_put 4 (some .int) [((0 : Nat), (9 : Nat), (12 : Nat), (13 : Nat))] 7 [.ref d, .int x0, .ref rr] h n 0 0 (fun r h2 n2 => r = some (.int 0) ∧ n = n2 ∧ h2 rr = some (.inl (Y 1, 1, .inr (.inl (vp_updL f 0 ((1 : Int32).toInt64))))) ∧ ∀ x, (x < d ∨ d + 208 ≤ x) → x ≠ rr → h2 x = h x) := by
  refine jMetW_of Z (by decide) (Nat.le_of_ble_eq_true rfl) ?_
  intro p e s m below meth c hnl
  refine j_aload_n d_Law_put_0 2 rfl ?_
  refine j_iconst d_Law_put_1 (v := 0) (by decide) ?_
  refine j_aload_n d_Law_put_2 0 rfl ?_
  refine j_iload_n d_Law_put_3 1 rfl ?_
  refine j_callV (k_put l Z d _ _ HD x0) ⟨⟨Nat.le_of_ble_eq_true rfl, Nat.le_of_ble_eq_true rfl⟩, g_637, g_640, g_1, (by decide +kernel), (by decide +kernel), (show _ = some 1 from by decide +kernel)⟩ g_638 g_639 (ci := 8) rfl HD.1 ⟨(by first | exact Nat.le_of_ble_eq_true rfl | (simp only [jrm]; omega)), (by first | exact Nat.le_of_ble_eq_true rfl | (simp only [jrm]; omega))⟩ (Nat.le_of_ble_eq_true rfl) d_Law_put_4 (fun r0 h0 n0 P0 => ?_)
  obtain ⟨rfl, rfl, F0⟩ := P0
  refine j_i2l d_Law_put_7 rfl ?_
  refine j_last d_Law_put_8 ((F0 rr (by omega)).trans HR) (by unfold vp_in; decide) ?_
  refine j_goto (tgt := 15) d_Law_put_9 (by decide) ?_
  refine j_iconst d_Law_put_15 (v := 0) (by decide) ?_
  exact j_iret rfl d_Law_put_16 ⟨rfl, rfl, (jh_up_s _ _ _), fun x hx hx2 => ((jh_up_n _ _ (by omega)).trans (F0 x (by omega)))⟩
set_option maxHeartbeats 4000000 in
set_option maxRecDepth 100000 in
theorem w_at (l : Launch) {b : Nat} {D : va_G} {Y : Nat → ClassId} {s0 : State} (Z : jS0 b D Y s0) (d rr n : Nat) (h : jH) (HD : jDesk Y h d) (x0 : Int32) (h1 : ¬ x0 < 0) (h2 : x0 ≤ 12) (f : Nat → Int64) (hrr : d + 208 ≤ rr) (HR : h rr = some (.inl (Y 1, 1, .inr (.inl f)))) : jMetW l D s0 y_Law_at c_Law_at 4 (some .int) [((0 : Nat), (9 : Nat), (12 : Nat), (19 : Nat))] 7 [.ref d, .int x0, .ref rr] h n 0 0 (fun r h2 n2 => r = some (.int 0) ∧ n = n2 ∧ h2 rr = some (.inl (Y 1, 1, .inr (.inl (vp_updL f 0 ((jOne x0.toNatClampNeg).toInt32.toInt64))))) ∧ ∀ x, (x < d ∨ d + 208 ≤ x) → x ≠ rr → h2 x = h x) := by
  refine jMetW_of Z (by decide) (Nat.le_of_ble_eq_true rfl) ?_
  intro p e s m below meth c hnl
  refine j_aload_n d_Law_at_0 2 rfl ?_
  refine j_iconst d_Law_at_1 (v := 0) (by decide) ?_
  refine j_aload_n d_Law_at_2 0 rfl ?_
  refine j_iload_n d_Law_at_3 1 rfl ?_
  refine j_callV (k_at l Z d _ _ HD x0 h1 h2) ⟨⟨Nat.le_of_ble_eq_true rfl, Nat.le_of_ble_eq_true rfl⟩, g_766, g_769, g_1, (by decide +kernel), (by decide +kernel), (show _ = some 1 from by decide +kernel)⟩ g_767 g_768 (ci := 8) rfl HD.1 ⟨(by first | exact Nat.le_of_ble_eq_true rfl | (simp only [jrm]; omega)), (by first | exact Nat.le_of_ble_eq_true rfl | (simp only [jrm]; omega))⟩ (Nat.le_of_ble_eq_true rfl) d_Law_at_4 (fun r0 h0 n0 P0 => ?_)
  obtain ⟨rfl, rfl, F0⟩ := P0
  refine j_i2l d_Law_at_7 rfl ?_
  refine j_last d_Law_at_8 ((F0 rr (by omega)).trans HR) (by unfold vp_in; decide) ?_
  refine j_goto (tgt := 15) d_Law_at_9 (by decide) ?_
  refine j_iconst d_Law_at_15 (v := 0) (by decide) ?_
  exact j_iret rfl d_Law_at_16 ⟨rfl, rfl, (jh_up_s _ _ _), fun x hx hx2 => ((jh_up_n _ _ (by omega)).trans (F0 x (by omega)))⟩
set_option maxHeartbeats 4000000 in
set_option maxRecDepth 100000 in
theorem w_ofDegree (l : Launch) {b : Nat} {D : va_G} {Y : Nat → ClassId} {s0 : State} (Z : jS0 b D Y s0) (d rr n : Nat) (h : jH) (HD : jDesk Y h d) (x0 : Int32) (h1 : ¬ x0 < 1) (h2 : x0 ≤ 12) (f : Nat → Int64) (hrr : d + 208 ≤ rr) (HR : h rr = some (.inl (Y 1, 1, .inr (.inl f)))) : jMetW l D s0 y_Law_ofDegree c_Law_ofDegree 4 (some .int) [((0 : Nat), (9 : Nat), (12 : Nat), (19 : Nat))] 7 [.ref d, .int x0, .ref rr] h n 0 0 (fun r h2 n2 => r = some (.int 0) ∧ n = n2 ∧ h2 rr = some (.inl (Y 1, 1, .inr (.inl (vp_updL f 0 ((0 : Int32).toInt64))))) ∧ ∀ x, (x < d ∨ d + 208 ≤ x) → x ≠ rr → h2 x = h x) := by
  refine jMetW_of Z (by decide) (Nat.le_of_ble_eq_true rfl) ?_
  intro p e s m below meth c hnl
  refine j_aload_n d_Law_ofDegree_0 2 rfl ?_
  refine j_iconst d_Law_ofDegree_1 (v := 0) (by decide) ?_
  refine j_aload_n d_Law_ofDegree_2 0 rfl ?_
  refine j_iload_n d_Law_ofDegree_3 1 rfl ?_
  refine j_callV (k_ofDegree l Z d _ _ HD x0 h1 h2) ⟨⟨Nat.le_of_ble_eq_true rfl, Nat.le_of_ble_eq_true rfl⟩, g_806, g_809, g_1, (by decide +kernel), (by decide +kernel), (show _ = some 1 from by decide +kernel)⟩ g_807 g_808 (ci := 8) rfl HD.1 ⟨(by first | exact Nat.le_of_ble_eq_true rfl | (simp only [jrm]; omega)), (by first | exact Nat.le_of_ble_eq_true rfl | (simp only [jrm]; omega))⟩ (Nat.le_of_ble_eq_true rfl) d_Law_ofDegree_4 (fun r0 h0 n0 P0 => ?_)
  obtain ⟨rfl, rfl, F0⟩ := P0
  refine j_i2l d_Law_ofDegree_7 rfl ?_
  refine j_last d_Law_ofDegree_8 ((F0 rr (by omega)).trans HR) (by unfold vp_in; decide) ?_
  refine j_goto (tgt := 15) d_Law_ofDegree_9 (by decide) ?_
  refine j_iconst d_Law_ofDegree_15 (v := 0) (by decide) ?_
  exact j_iret rfl d_Law_ofDegree_16 ⟨rfl, rfl, (jh_up_s _ _ _), fun x hx hx2 => ((jh_up_n _ _ (by omega)).trans (F0 x (by omega)))⟩
set_option maxHeartbeats 4000000 in
set_option maxRecDepth 100000 in
theorem w_divisor (l : Launch) {b : Nat} {D : va_G} {Y : Nat → ClassId} {s0 : State} (Z : jS0 b D Y s0) (d rr n : Nat) (h : jH) (HD : jDesk Y h d) (f : Nat → Int64) (hrr : d + 208 ≤ rr) (HR : h rr = some (.inl (Y 1, 1, .inr (.inl f)))) : jMetW l D s0 y_Law_divisor c_Law_divisor 4 (some .int) [((0 : Nat), (8 : Nat), (11 : Nat), (31 : Nat))] 7 [.ref d, .int 0, .ref rr] h n 0 0 (fun r h2 n2 => r = some (.int 0) ∧ n = n2 ∧ h2 rr = some (.inl (Y 1, 1, .inr (.inl (vp_updL f 0 (1))))) ∧ ∀ x, (x < d ∨ d + 208 ≤ x) → x ≠ rr → h2 x = h x) := by
  refine jMetW_of Z (by decide) (Nat.le_of_ble_eq_true rfl) ?_
  intro p e s m below meth c hnl
  refine j_aload_n d_Law_divisor_0 2 rfl ?_
  refine j_iconst d_Law_divisor_1 (v := 0) (by decide) ?_
  refine j_aload_n d_Law_divisor_2 0 rfl ?_
  refine j_iload_n d_Law_divisor_3 1 rfl ?_
  refine j_callV (k_divisor l Z d _ _ HD) ⟨⟨Nat.le_of_ble_eq_true rfl, Nat.le_of_ble_eq_true rfl⟩, g_826, g_829, g_1, (by decide +kernel), (by decide +kernel), (show _ = some 1 from by decide +kernel)⟩ g_827 g_828 (ci := 8) rfl HD.1 ⟨(by first | exact Nat.le_of_ble_eq_true rfl | (simp only [jrm]; omega)), (by first | exact Nat.le_of_ble_eq_true rfl | (simp only [jrm]; omega))⟩ (Nat.le_of_ble_eq_true rfl) d_Law_divisor_4 (fun r0 h0 n0 P0 => ?_)
  obtain ⟨rfl, rfl, F0⟩ := P0
  refine j_last d_Law_divisor_7 ((F0 rr (by omega)).trans HR) (by unfold vp_in; decide) ?_
  refine j_goto (tgt := 14) d_Law_divisor_8 (by decide) ?_
  refine j_iconst d_Law_divisor_14 (v := 0) (by decide) ?_
  exact j_iret rfl d_Law_divisor_15 ⟨rfl, rfl, (jh_up_s _ _ _), fun x hx hx2 => ((jh_up_n _ _ (by omega)).trans (F0 x (by omega)))⟩
set_option maxHeartbeats 4000000 in
set_option maxRecDepth 100000 in
theorem w_value (l : Launch) {b : Nat} {D : va_G} {Y : Nat → ClassId} {s0 : State} (Z : jS0 b D Y s0) (d rr n : Nat) (h : jH) (HD : jDesk Y h d) (x0 : Int64) (m0 : Int32) (h1 : 1 ≤ m0) (hm : ¬ m0.toInt64 = 0) (f : Nat → Int64) (hrr : d + 208 ≤ rr) (HR : h rr = some (.inl (Y 1, 1, .inr (.inl f)))) : jMetW l D s0 y_Law_value c_Law_value 6 (some .int) [((0 : Nat), (10 : Nat), (13 : Nat), (19 : Nat))] 7 [.ref d, .long x0, .int m0, .ref rr] h n 0 0 (fun r h2 n2 => r = some (.int 0) ∧ n = n2 ∧ h2 rr = some (.inl (Y 1, 1, .inr (.inl (vp_updL f 0 (jfm (0 * jfm x0 m0.toInt64 + 1) m0.toInt64))))) ∧ ∀ x, (x < d ∨ d + 208 ≤ x) → x ≠ rr → h2 x = h x) := by
  refine jMetW_of Z (by decide) (Nat.le_of_ble_eq_true rfl) ?_
  intro p e s m below meth c hnl
  refine j_aload d_Law_value_0 3 rfl ?_
  refine j_iconst d_Law_value_2 (v := 0) (by decide) ?_
  refine j_aload_n d_Law_value_3 0 rfl ?_
  refine j_lload_n d_Law_value_4 1 rfl ?_
  refine j_iload_n d_Law_value_5 2 rfl ?_
  refine j_callV (k_value l Z d _ _ HD x0 m0 h1 hm) ⟨⟨Nat.le_of_ble_eq_true rfl, Nat.le_of_ble_eq_true rfl⟩, g_843, g_846, g_1, (by decide +kernel), (by decide +kernel), (show _ = some 2 from by decide +kernel)⟩ g_844 g_845 (ci := 8) rfl HD.1 ⟨(by first | exact Nat.le_of_ble_eq_true rfl | (simp only [jrm]; omega)), (by first | exact Nat.le_of_ble_eq_true rfl | (simp only [jrm]; omega))⟩ (Nat.le_of_ble_eq_true rfl) d_Law_value_6 (fun r0 h0 n0 P0 => ?_)
  obtain ⟨rfl, rfl, F0⟩ := P0
  refine j_last d_Law_value_9 ((F0 rr (by omega)).trans HR) (by unfold vp_in; decide) ?_
  refine j_goto (tgt := 17) d_Law_value_10 (by decide) ?_
  refine j_iconst d_Law_value_17 (v := 0) (by decide) ?_
  exact j_iret rfl d_Law_value_18 ⟨rfl, rfl, (jh_up_s _ _ _), fun x hx hx2 => ((jh_up_n _ _ (by omega)).trans (F0 x (by omega)))⟩
set_option maxHeartbeats 4000000 in
set_option maxRecDepth 100000 in
theorem wx_take (l : Launch) {b : Nat} {D : va_G} {Y : Nat → ClassId} {s0 : State} (Z : jS0 b D Y s0) (hlt : l.stackTraces = false) (d rr n : Nat) (h : jH) (HD : jDesk Y h d) : jMetW l D s0 y_Law_take c_Law_take 3 (some .int) [((0 : Nat), (8 : Nat), (11 : Nat), (19 : Nat))] 7 [.ref d, .ref rr] h n 1 6 (fun r h2 n2 => r = some (.int 1) ∧ h = h2 ∧ n + 1 = n2) := by
  refine jMetW_of Z (by decide) (Nat.le_of_ble_eq_true rfl) ?_
  intro p e s m below meth c hnl
  obtain ⟨rest, hx⟩ := jx_tab hnl
  refine j_aload_n d_Law_take_0 1 rfl ?_
  refine j_iconst d_Law_take_1 (v := 0) (by decide) ?_
  refine j_aload_n d_Law_take_2 0 rfl ?_
  refine j_callVX (x_take l Z hlt d _ _ HD) ⟨⟨Nat.le_of_ble_eq_true rfl, Nat.le_of_ble_eq_true rfl⟩, g_713, g_716, g_1, by decide +kernel⟩ g_714 g_715 (ci := 8) rfl HD.1 ⟨(by first | exact Nat.le_of_ble_eq_true rfl | (simp only [jrm]; omega)), (by first | exact Nat.le_of_ble_eq_true rfl | (simp only [jrm]; omega))⟩ (Nat.le_of_ble_eq_true rfl) d_Law_take_3 hx (by decide) (by decide) g_712 (fun q h0 n0 P0 => ?_)
  obtain ⟨e1, e2⟩ := P0
  subst e1
  subst e2
  refine j_astore_n d_Law_take_11 (Nat.le_of_ble_eq_true rfl) rfl ?_
  refine j_iconst d_Law_take_12 (v := 1) (by decide) ?_
  exact j_iret rfl d_Law_take_13 ⟨rfl, rfl, rfl⟩
set_option maxHeartbeats 4000000 in
set_option maxRecDepth 100000 in
theorem wx_times (l : Launch) {b : Nat} {D : va_G} {Y : Nat → ClassId} {s0 : State} (Z : jS0 b D Y s0) (hlt : l.stackTraces = false) (d rr n : Nat) (h : jH) (HD : jDesk Y h d) : jMetW l D s0 y_Law_times c_Law_times 3 (some .int) [((0 : Nat), (8 : Nat), (11 : Nat), (19 : Nat)), ((0 : Nat), (8 : Nat), (14 : Nat), (13 : Nat))] 7 [.ref d, .ref rr] h n 1 6 (fun r h2 n2 => r = some (.int 1) ∧ h = h2 ∧ n + 1 = n2) := by
  refine jMetW_of Z (by decide) (Nat.le_of_ble_eq_true rfl) ?_
  intro p e s m below meth c hnl
  obtain ⟨rest, hx⟩ := jx_tab hnl
  refine j_aload_n d_Law_times_0 1 rfl ?_
  refine j_iconst d_Law_times_1 (v := 0) (by decide) ?_
  refine j_aload_n d_Law_times_2 0 rfl ?_
  refine j_callVX (x_times l Z hlt d _ _ HD) ⟨⟨Nat.le_of_ble_eq_true rfl, Nat.le_of_ble_eq_true rfl⟩, g_748, g_751, g_1, by decide +kernel⟩ g_749 g_750 (ci := 8) rfl HD.1 ⟨(by first | exact Nat.le_of_ble_eq_true rfl | (simp only [jrm]; omega)), (by first | exact Nat.le_of_ble_eq_true rfl | (simp only [jrm]; omega))⟩ (Nat.le_of_ble_eq_true rfl) d_Law_times_3 hx (by decide) (by decide) g_712 (fun q h0 n0 P0 => ?_)
  obtain ⟨e1, e2⟩ := P0
  subst e1
  subst e2
  refine j_astore_n d_Law_times_11 (Nat.le_of_ble_eq_true rfl) rfl ?_
  refine j_iconst d_Law_times_12 (v := 1) (by decide) ?_
  exact j_iret rfl d_Law_times_13 ⟨rfl, rfl, rfl⟩
set_option maxHeartbeats 4000000 in
set_option maxRecDepth 100000 in
theorem wx_common (l : Launch) {b : Nat} {D : va_G} {Y : Nat → ClassId} {s0 : State} (Z : jS0 b D Y s0) (hlt : l.stackTraces = false) (d rr n : Nat) (h : jH) (HD : jDesk Y h d) : jMetW l D s0 y_Law_common c_Law_common 3 (some .int) [((0 : Nat), (8 : Nat), (11 : Nat), (19 : Nat))] 7 [.ref d, .ref rr] h n 1 6 (fun r h2 n2 => r = some (.int 1) ∧ h = h2 ∧ n + 1 = n2) := by
  refine jMetW_of Z (by decide) (Nat.le_of_ble_eq_true rfl) ?_
  intro p e s m below meth c hnl
  obtain ⟨rest, hx⟩ := jx_tab hnl
  refine j_aload_n d_Law_common_0 1 rfl ?_
  refine j_iconst d_Law_common_1 (v := 0) (by decide) ?_
  refine j_aload_n d_Law_common_2 0 rfl ?_
  refine j_callVX (x_common l Z hlt d _ _ HD) ⟨⟨Nat.le_of_ble_eq_true rfl, Nat.le_of_ble_eq_true rfl⟩, g_818, g_821, g_1, by decide +kernel⟩ g_819 g_820 (ci := 8) rfl HD.1 ⟨(by first | exact Nat.le_of_ble_eq_true rfl | (simp only [jrm]; omega)), (by first | exact Nat.le_of_ble_eq_true rfl | (simp only [jrm]; omega))⟩ (Nat.le_of_ble_eq_true rfl) d_Law_common_3 hx (by decide) (by decide) g_712 (fun q h0 n0 P0 => ?_)
  obtain ⟨e1, e2⟩ := P0
  subst e1
  subst e2
  refine j_astore_n d_Law_common_11 (Nat.le_of_ble_eq_true rfl) rfl ?_
  refine j_iconst d_Law_common_12 (v := 1) (by decide) ?_
  exact j_iret rfl d_Law_common_13 ⟨rfl, rfl, rfl⟩
set_option maxHeartbeats 4000000 in
set_option maxRecDepth 100000 in
theorem wx_divides (l : Launch) {b : Nat} {D : va_G} {Y : Nat → ClassId} {s0 : State} (Z : jS0 b D Y s0) (hlt : l.stackTraces = false) (d rr n : Nat) (h : jH) (HD : jDesk Y h d) : jMetW l D s0 y_Law_divides c_Law_divides 3 (some .int) [((0 : Nat), (15 : Nat), (18 : Nat), (19 : Nat))] 7 [.ref d, .ref rr] h n 1 6 (fun r h2 n2 => r = some (.int 1) ∧ h = h2 ∧ n + 1 = n2) := by
  refine jMetW_of Z (by decide) (Nat.le_of_ble_eq_true rfl) ?_
  intro p e s m below meth c hnl
  obtain ⟨rest, hx⟩ := jx_tab hnl
  refine j_aload_n d_Law_divides_0 1 rfl ?_
  refine j_iconst d_Law_divides_1 (v := 0) (by decide) ?_
  refine j_aload_n d_Law_divides_2 0 rfl ?_
  refine j_callVX (x_divides l Z hlt d _ _ HD) ⟨⟨Nat.le_of_ble_eq_true rfl, Nat.le_of_ble_eq_true rfl⟩, g_834, g_837, g_1, by decide +kernel⟩ g_835 g_836 (ci := 8) rfl HD.1 ⟨(by first | exact Nat.le_of_ble_eq_true rfl | (simp only [jrm]; omega)), (by first | exact Nat.le_of_ble_eq_true rfl | (simp only [jrm]; omega))⟩ (Nat.le_of_ble_eq_true rfl) d_Law_divides_3 hx (by decide) (by decide) g_712 (fun q h0 n0 P0 => ?_)
  obtain ⟨e1, e2⟩ := P0
  subst e1
  subst e2
  refine j_astore_n d_Law_divides_18 (Nat.le_of_ble_eq_true rfl) rfl ?_
  refine j_iconst d_Law_divides_19 (v := 1) (by decide) ?_
  exact j_iret rfl d_Law_divides_20 ⟨rfl, rfl, rfl⟩
set_option maxHeartbeats 4000000 in
set_option maxRecDepth 100000 in
theorem wx_at (l : Launch) {b : Nat} {D : va_G} {Y : Nat → ClassId} {s0 : State} (Z : jS0 b D Y s0) (hlt : l.stackTraces = false) (d rr n : Nat) (h : jH) (HD : jDesk Y h d) (x0 : Int32) (h1 : x0 < 0 ∨ ¬ x0 ≤ 12) : jMetW l D s0 y_Law_at c_Law_at 4 (some .int) [((0 : Nat), (9 : Nat), (12 : Nat), (19 : Nat))] 7 [.ref d, .int x0, .ref rr] h n 1 6 (fun r h2 n2 => r = some (.int 1) ∧ h = h2 ∧ n + 1 = n2) := by
  refine jMetW_of Z (by decide) (Nat.le_of_ble_eq_true rfl) ?_
  intro p e s m below meth c hnl
  obtain ⟨rest, hx⟩ := jx_tab hnl
  refine j_aload_n d_Law_at_0 2 rfl ?_
  refine j_iconst d_Law_at_1 (v := 0) (by decide) ?_
  refine j_aload_n d_Law_at_2 0 rfl ?_
  refine j_iload_n d_Law_at_3 1 rfl ?_
  refine j_callVX (x_at l Z hlt d _ _ HD x0 h1) ⟨⟨Nat.le_of_ble_eq_true rfl, Nat.le_of_ble_eq_true rfl⟩, g_766, g_769, g_1, (by decide +kernel), (by decide +kernel), (show _ = some 1 from by decide +kernel)⟩ g_767 g_768 (ci := 8) rfl HD.1 ⟨(by first | exact Nat.le_of_ble_eq_true rfl | (simp only [jrm]; omega)), (by first | exact Nat.le_of_ble_eq_true rfl | (simp only [jrm]; omega))⟩ (Nat.le_of_ble_eq_true rfl) d_Law_at_4 hx (by decide) (by decide) g_712 (fun q h0 n0 P0 => ?_)
  obtain ⟨e1, e2⟩ := P0
  subst e1
  subst e2
  refine j_astore_n d_Law_at_12 (Nat.le_of_ble_eq_true rfl) rfl ?_
  refine j_iconst d_Law_at_13 (v := 1) (by decide) ?_
  exact j_iret rfl d_Law_at_14 ⟨rfl, rfl, rfl⟩
set_option maxHeartbeats 4000000 in
set_option maxRecDepth 100000 in
theorem wx_ofDegree (l : Launch) {b : Nat} {D : va_G} {Y : Nat → ClassId} {s0 : State} (Z : jS0 b D Y s0) (hlt : l.stackTraces = false) (d rr n : Nat) (h : jH) (HD : jDesk Y h d) (x0 : Int32) (h1 : x0 < 1 ∨ ¬ x0 ≤ 12) : jMetW l D s0 y_Law_ofDegree c_Law_ofDegree 4 (some .int) [((0 : Nat), (9 : Nat), (12 : Nat), (19 : Nat))] 7 [.ref d, .int x0, .ref rr] h n 1 6 (fun r h2 n2 => r = some (.int 1) ∧ h = h2 ∧ n + 1 = n2) := by
  refine jMetW_of Z (by decide) (Nat.le_of_ble_eq_true rfl) ?_
  intro p e s m below meth c hnl
  obtain ⟨rest, hx⟩ := jx_tab hnl
  refine j_aload_n d_Law_ofDegree_0 2 rfl ?_
  refine j_iconst d_Law_ofDegree_1 (v := 0) (by decide) ?_
  refine j_aload_n d_Law_ofDegree_2 0 rfl ?_
  refine j_iload_n d_Law_ofDegree_3 1 rfl ?_
  refine j_callVX (x_ofDegree l Z hlt d _ _ HD x0 h1) ⟨⟨Nat.le_of_ble_eq_true rfl, Nat.le_of_ble_eq_true rfl⟩, g_806, g_809, g_1, (by decide +kernel), (by decide +kernel), (show _ = some 1 from by decide +kernel)⟩ g_807 g_808 (ci := 8) rfl HD.1 ⟨(by first | exact Nat.le_of_ble_eq_true rfl | (simp only [jrm]; omega)), (by first | exact Nat.le_of_ble_eq_true rfl | (simp only [jrm]; omega))⟩ (Nat.le_of_ble_eq_true rfl) d_Law_ofDegree_4 hx (by decide) (by decide) g_712 (fun q h0 n0 P0 => ?_)
  obtain ⟨e1, e2⟩ := P0
  subst e1
  subst e2
  refine j_astore_n d_Law_ofDegree_12 (Nat.le_of_ble_eq_true rfl) rfl ?_
  refine j_iconst d_Law_ofDegree_13 (v := 1) (by decide) ?_
  exact j_iret rfl d_Law_ofDegree_14 ⟨rfl, rfl, rfl⟩
set_option maxHeartbeats 4000000 in
set_option maxRecDepth 100000 in
theorem wx_factor (l : Launch) {b : Nat} {D : va_G} {Y : Nat → ClassId} {s0 : State} (Z : jS0 b D Y s0) (hlt : l.stackTraces = false) (d rr n : Nat) (h : jH) (HD : jDesk Y h d) (x0 x1 : Int32) : jMetW l D s0 y_Law_factor c_Law_factor 5 (some .int) [((0 : Nat), (10 : Nat), (13 : Nat), (31 : Nat))] 7 [.ref d, .int x0, .int x1, .ref rr] h n 1 6 (fun r h2 n2 => r = some (.int 1) ∧ h = h2 ∧ n + 1 = n2) := by
  refine jMetW_of Z (by decide) (Nat.le_of_ble_eq_true rfl) ?_
  intro p e s m below meth c hnl
  obtain ⟨rest, hx⟩ := jx_tab hnl
  refine j_aload_n d_Law_factor_0 3 rfl ?_
  refine j_iconst d_Law_factor_1 (v := 0) (by decide) ?_
  refine j_aload_n d_Law_factor_2 0 rfl ?_
  refine j_iload_n d_Law_factor_3 1 rfl ?_
  refine j_iload_n d_Law_factor_4 2 rfl ?_
  refine j_callVX (x_factor l Z hlt d _ _ HD x0 x1) ⟨⟨Nat.le_of_ble_eq_true rfl, Nat.le_of_ble_eq_true rfl⟩, g_775, g_778, g_1, (by decide +kernel), (by decide +kernel), (show _ = some 2 from by decide +kernel)⟩ g_776 g_777 (ci := 8) rfl HD.1 ⟨(by first | exact Nat.le_of_ble_eq_true rfl | (simp only [jrm]; omega)), (by first | exact Nat.le_of_ble_eq_true rfl | (simp only [jrm]; omega))⟩ (Nat.le_of_ble_eq_true rfl) d_Law_factor_5 hx (by decide) (by decide) g_774 (fun q h0 n0 P0 => ?_)
  obtain ⟨e1, e2⟩ := P0
  subst e1
  subst e2
  refine j_astore d_Law_factor_13 (Nat.le_of_ble_eq_true rfl) rfl ?_
  refine j_iconst d_Law_factor_15 (v := 1) (by decide) ?_
  exact j_iret rfl d_Law_factor_16 ⟨rfl, rfl, rfl⟩
set_option maxHeartbeats 4000000 in
set_option maxRecDepth 100000 in
theorem wx_part (l : Launch) {b : Nat} {D : va_G} {Y : Nat → ClassId} {s0 : State} (Z : jS0 b D Y s0) (hlt : l.stackTraces = false) (d rr n : Nat) (h : jH) (HD : jDesk Y h d) (x0 x1 : Int32) : jMetW l D s0 y_Law_part c_Law_part 5 (some .int) [((0 : Nat), (9 : Nat), (12 : Nat), (31 : Nat))] 7 [.ref d, .int x0, .int x1, .ref rr] h n 1 6 (fun r h2 n2 => r = some (.int 1) ∧ h = h2 ∧ n + 1 = n2) := by
  refine jMetW_of Z (by decide) (Nat.le_of_ble_eq_true rfl) ?_
  intro p e s m below meth c hnl
  obtain ⟨rest, hx⟩ := jx_tab hnl
  refine j_aload_n d_Law_part_0 3 rfl ?_
  refine j_iconst d_Law_part_1 (v := 0) (by decide) ?_
  refine j_aload_n d_Law_part_2 0 rfl ?_
  refine j_iload_n d_Law_part_3 1 rfl ?_
  refine j_iload_n d_Law_part_4 2 rfl ?_
  refine j_callVX (x_part l Z hlt d _ _ HD x0 x1) ⟨⟨Nat.le_of_ble_eq_true rfl, Nat.le_of_ble_eq_true rfl⟩, g_798, g_801, g_1, (by decide +kernel), (by decide +kernel), (show _ = some 2 from by decide +kernel)⟩ g_799 g_800 (ci := 8) rfl HD.1 ⟨(by first | exact Nat.le_of_ble_eq_true rfl | (simp only [jrm]; omega)), (by first | exact Nat.le_of_ble_eq_true rfl | (simp only [jrm]; omega))⟩ (Nat.le_of_ble_eq_true rfl) d_Law_part_5 hx (by decide) (by decide) g_774 (fun q h0 n0 P0 => ?_)
  obtain ⟨e1, e2⟩ := P0
  subst e1
  subst e2
  refine j_astore d_Law_part_12 (Nat.le_of_ble_eq_true rfl) rfl ?_
  refine j_iconst d_Law_part_14 (v := 1) (by decide) ?_
  exact j_iret rfl d_Law_part_15 ⟨rfl, rfl, rfl⟩
set_option maxHeartbeats 4000000 in
set_option maxRecDepth 100000 in
theorem wx_divisor (l : Launch) {b : Nat} {D : va_G} {Y : Nat → ClassId} {s0 : State} (Z : jS0 b D Y s0) (hlt : l.stackTraces = false) (d rr n : Nat) (h : jH) (HD : jDesk Y h d) (x0 : Int32) (h1 : ¬ x0 = 0) : jMetW l D s0 y_Law_divisor c_Law_divisor 4 (some .int) [((0 : Nat), (8 : Nat), (11 : Nat), (31 : Nat))] 7 [.ref d, .int x0, .ref rr] h n 1 6 (fun r h2 n2 => r = some (.int 1) ∧ h = h2 ∧ n + 1 = n2) := by
  refine jMetW_of Z (by decide) (Nat.le_of_ble_eq_true rfl) ?_
  intro p e s m below meth c hnl
  obtain ⟨rest, hx⟩ := jx_tab hnl
  refine j_aload_n d_Law_divisor_0 2 rfl ?_
  refine j_iconst d_Law_divisor_1 (v := 0) (by decide) ?_
  refine j_aload_n d_Law_divisor_2 0 rfl ?_
  refine j_iload_n d_Law_divisor_3 1 rfl ?_
  refine j_callVX (x_divisor l Z hlt d _ _ HD x0 h1) ⟨⟨Nat.le_of_ble_eq_true rfl, Nat.le_of_ble_eq_true rfl⟩, g_826, g_829, g_1, (by decide +kernel), (by decide +kernel), (show _ = some 1 from by decide +kernel)⟩ g_827 g_828 (ci := 8) rfl HD.1 ⟨(by first | exact Nat.le_of_ble_eq_true rfl | (simp only [jrm]; omega)), (by first | exact Nat.le_of_ble_eq_true rfl | (simp only [jrm]; omega))⟩ (Nat.le_of_ble_eq_true rfl) d_Law_divisor_4 hx (by decide) (by decide) g_774 (fun q h0 n0 P0 => ?_)
  obtain ⟨e1, e2⟩ := P0
  subst e1
  subst e2
  refine j_astore_n d_Law_divisor_11 (Nat.le_of_ble_eq_true rfl) rfl ?_
  refine j_iconst d_Law_divisor_12 (v := 1) (by decide) ?_
  exact j_iret rfl d_Law_divisor_13 ⟨rfl, rfl, rfl⟩
set_option maxHeartbeats 4000000 in
set_option maxRecDepth 100000 in
theorem wx_value (l : Launch) {b : Nat} {D : va_G} {Y : Nat → ClassId} {s0 : State} (Z : jS0 b D Y s0) (hlt : l.stackTraces = false) (d rr n : Nat) (h : jH) (HD : jDesk Y h d) (x0 : Int64) (m0 : Int32) (h1 : ¬ 1 ≤ m0) : jMetW l D s0 y_Law_value c_Law_value 6 (some .int) [((0 : Nat), (10 : Nat), (13 : Nat), (19 : Nat))] 7 [.ref d, .long x0, .int m0, .ref rr] h n 1 6 (fun r h2 n2 => r = some (.int 1) ∧ h = h2 ∧ n + 1 = n2) := by
  refine jMetW_of Z (by decide) (Nat.le_of_ble_eq_true rfl) ?_
  intro p e s m below meth c hnl
  obtain ⟨rest, hx⟩ := jx_tab hnl
  refine j_aload d_Law_value_0 3 rfl ?_
  refine j_iconst d_Law_value_2 (v := 0) (by decide) ?_
  refine j_aload_n d_Law_value_3 0 rfl ?_
  refine j_lload_n d_Law_value_4 1 rfl ?_
  refine j_iload_n d_Law_value_5 2 rfl ?_
  refine j_callVX (x_value l Z hlt d _ _ HD x0 m0 h1) ⟨⟨Nat.le_of_ble_eq_true rfl, Nat.le_of_ble_eq_true rfl⟩, g_843, g_846, g_1, (by decide +kernel), (by decide +kernel), (show _ = some 2 from by decide +kernel)⟩ g_844 g_845 (ci := 8) rfl HD.1 ⟨(by first | exact Nat.le_of_ble_eq_true rfl | (simp only [jrm]; omega)), (by first | exact Nat.le_of_ble_eq_true rfl | (simp only [jrm]; omega))⟩ (Nat.le_of_ble_eq_true rfl) d_Law_value_6 hx (by decide) (by decide) g_712 (fun q h0 n0 P0 => ?_)
  obtain ⟨e1, e2⟩ := P0
  subst e1
  subst e2
  refine j_astore d_Law_value_13 (Nat.le_of_ble_eq_true rfl) rfl ?_
  refine j_iconst d_Law_value_15 (v := 1) (by decide) ?_
  exact j_iret rfl d_Law_value_16 ⟨rfl, rfl, rfl⟩
end
section
theorem m64_ne {m0 : Int32} (h1 : 1 ≤ m0) : ¬ m0.toInt64 = 0 := by
  intro h
  have h2 := congrArg Int64.toInt h
  rw [Int32.toInt_toInt64] at h2
  have h4 : (1 : Int32).toInt ≤ m0.toInt := Int32.le_iff_toInt_le.mp h1
  have h5 : (1 : Int32).toInt = 1 := by decide
  have h6 : (0 : Int64).toInt = 0 := by decide
  omega
theorem jv_eq {m0 : Int32} (h1 : 1 ≤ m0) (a b : Int64) : jfm (0 * a + 1) m0.toInt64 = jr2 (0 * b + 1) m0.toInt64 := by
  rw [Int64.zero_mul, Int64.zero_mul, Int64.zero_add]
  by_cases he : m0 = 1
  · subst he; decide
  · have h4 : (1 : Int32).toInt ≤ m0.toInt := Int32.le_iff_toInt_le.mp h1
    have h5 : (1 : Int32).toInt = 1 := by decide
    have h7 : m0.toInt ≠ 1 := fun h => he (Int32.toInt_inj.mp (h.trans h5.symm))
    have h8 : m0.toInt < 2 ^ 31 := Int32.toInt_lt m0
    have hM : m0.toInt64.toInt = m0.toInt := Int32.toInt_toInt64 m0
    generalize m0.toInt64 = M at hM ⊢
    generalize m0.toInt = z at *
    have h1i : (1 : Int64).toInt = 1 := by decide
    have h0i : (0 : Int64).toInt = 0 := by decide
    have d1 : (1 : Int64) / M = 0 := by
      apply Int64.toInt_inj.mp
      rw [Int64.toInt_div, h1i, hM, h0i, Int.tdiv_eq_zero_of_lt (by omega) (by omega)]
      decide
    have sM : (1 + M).toInt = 1 + z := by
      rw [Int64.toInt_add, h1i, hM]
      exact Int.bmod_eq_of_le (by omega) (by omega)
    have d2 : (1 + M) / M = 1 := by
      apply Int64.toInt_inj.mp
      rw [Int64.toInt_div, sM, hM, h1i]
      have : Int.tdiv (1 + z) z = 1 := by
        rw [Int.tdiv_eq_ediv_of_nonneg (by omega)]
        rw [Int.add_ediv_of_dvd_right (Int.dvd_refl z), Int.ediv_self (by omega), Int.ediv_eq_zero_of_lt (by omega) (by omega)]
        rfl
      rw [this]; decide
    have e1 : jr1 1 M = 1 := by unfold jr1; rw [d1, Int64.zero_mul]; decide
    have e2 : jr2 1 M = 1 := by
      unfold jr2; rw [e1]; unfold jr1; rw [d2, Int64.one_mul]; exact Int64.add_sub_cancel _ _
    have hx : ¬ (1 ^^^ M) < 0 := by
      intro hlt
      have hlt2 := Int64.lt_iff_toInt_lt.mp hlt
      rw [h0i] at hlt2
      have hm : M.toBitVec.msb = false := by
        have hh : 0 ≤ M.toBitVec.toInt := by show 0 ≤ M.toInt; omega
        rw [BitVec.msb_eq_toInt]; simpa using hh
      have hm2 : (1 ^^^ M).toBitVec.msb = false := by
        rw [Int64.toBitVec_xor, BitVec.msb_xor, hm]; decide
      have : 0 ≤ (1 ^^^ M).toInt := by
        show 0 ≤ (1 ^^^ M).toBitVec.toInt
        rw [BitVec.msb_eq_toInt] at hm2; simpa using hm2
      omega
    rw [e2]; unfold jfm; rw [if_pos ((lg_cmp_ge _ _).mpr (Int64.not_lt.mp hx))]
    exact e1
def R_law : String := "FactorDeskLaw"
def lw_P (b : Addr) (xs : List Int32) (args : Array Value) (s : State) : Prop := args = #[.ref b] ∧ s.IntsAt b xs ∧ xs.length ≤ 4 ∧ (Jvm.Cond.and given_1 narrow_1).before args s = true
def lw_Q (_ : Array Value) (s : State) (o : Outcome) (t : State) : Prop := o = .returned (some (.int 1)) ∧ Framed s o t [] 600002 7302232
def lw_Z (below : List Frame) (a : Array Value) (s : State) : State → Prop := fun t => ∃ o, t.status = .running ∧ Ended t below o ∧ lw_Q a s o t
/-- the law's own end, with 1 on the stack, nothing written that was there before, its room as the claim has it -/
theorem lw_ret {p : Program} {l : Launch} {e : Env} {s : State} {m : MethodId} {below : List Frame} {meth : Method} {c : Code} {b : Nat} (hx : p.tables.exec = Jvm.exec) (hb : c.code = code) (hr : meth.sig.returnType = ret) (hlocks : meth.locks = false) {pc : Nat} {H : Heap} {ls : Array Slot} (hdg : decode code pc = .ok (.ireturn, 1)) : W p l e room_1 s m #[Value.ref b] below meth c H [] 600002 7302232 (lw_Z below #[Value.ref b] s) (F0 m pc ls [.int 1]) := by
  intro T hT X
  obtain ⟨fs, hret, hrun, hended, hW, hframe⟩ := X.leave (v := some (.int 1)) (hlocks := hlocks) (fun h => by rw [hr] at h; cases h)
  have hmeth' : T.vm.method? m = some meth := X.method'
  refine ⟨T.setFrames fs, ?_, .returned (some (.int 1)), hrun, hended, rfl, ⟨_, rfl⟩, hW, hframe⟩
  jvm_step X.here [X.here.top, hx, hb, hdg, hmeth', hr, ret, narrow_b1]
  (try refine ⟨rfl, ?_⟩); (try refine ⟨rfl, ?_⟩)
  first | (intro acts; rw [hret _ acts rfl rfl rfl]) | rw [hret _ _ rfl rfl rfl]
  exact Steps.refl _
/-- what holds at the law's entry: the machine, the code, the tables' words (any of lw_tbl by 'hts w (by decide +kernel)'), the script of L ints xs at the cell b, what the Statement gives of the start (any of its parts by flat_of_before) -/
def lw_At (p : Program) (s : State) (m : MethodId) (meth : Method) (c : Code) (b L : Nat) (xs : Nat → Int32) : Prop :=
  p.tables.exec = Jvm.exec ∧ c.code = code ∧ meth.sig.returnType = ret ∧ c.maxLocals = 8 ∧ s.vm.findClass R_law = some m.cls ∧ (∀ w ∈ lw_tbl, w.before #[Value.ref b] s = true) ∧ va_X b L xs s s.heap ∧ b < s.heap.size ∧ meth.locks = false ∧ (Jvm.Cond.and given_1 narrow_1).before #[Value.ref b] s = true
theorem j_sld {b : Nat} {D : va_G} {Y : Nat → ClassId} {p : Program} {l : Launch} {e : Env} {s : State} {m : MethodId} {below : List Frame} {meth : Method} {c : Code} {R : Room} {args : Array Value} {own : String} {cc : ByteArray} {nL : Nat} {ret : Option FieldType} {nm : String} {Q : State → Prop} {pc : Nat} {lv : List (Nat × Value)} {st : List Value} {h : jH} {n k sl : Nat} {xs : Nat → Int32} {L : Nat} {i v : Int32} (hX : va_X b L xs s s.heap) (hbl : b < s.heap.size) (hin : vp_in i L) (hv : xs i.toNatClampNeg = v) (hd : decode cc pc = .ok (.iaload, 1)) (kk : jW b D Y s p l e R s m args below meth c own cc nL ret nm Q (pc + 1) lv (.int v :: st) h n k sl) : jW b D Y s p l e R s m args below meth c own cc nL ret nm Q pc lv (.int i :: .ref b :: st) h n k sl := fun C H locs ls hR hS hl => by
  subst hv
  exact va_sld C.ex C.by hX hbl (Nat.not_le.mpr hbl) hS hin hd (kk C H locs ls hR hS hl)
theorem j_slen {b : Nat} {D : va_G} {Y : Nat → ClassId} {p : Program} {l : Launch} {e : Env} {s : State} {m : MethodId} {below : List Frame} {meth : Method} {c : Code} {R : Room} {args : Array Value} {own : String} {cc : ByteArray} {nL : Nat} {ret : Option FieldType} {nm : String} {Q : State → Prop} {pc : Nat} {lv : List (Nat × Value)} {st : List Value} {h : jH} {n k sl : Nat} {xs : Nat → Int32} {L : Nat} (hX : va_X b L xs s s.heap) (hbl : b < s.heap.size) (hd : decode cc pc = .ok (.arraylength, 1)) (kk : jW b D Y s p l e R s m args below meth c own cc nL ret nm Q (pc + 1) lv (.int (Int32.ofNat L) :: st) h n k sl) : jW b D Y s p l e R s m args below meth c own cc nL ret nm Q pc lv (.ref b :: st) h n k sl := fun C H locs ls hR hS hl =>
  va_slen C.ex C.by hX hbl (Nat.not_le.mpr hbl) hS hd (kk C H locs ls hR hS hl)
theorem j_lawEnd {b : Nat} {D : va_G} {Y : Nat → ClassId} {p : Program} {l : Launch} {e : Env} {s : State} {m : MethodId} {below : List Frame} {meth : Method} {c : Code} {lv : List (Nat × Value)} {h : jH} {n k sl : Nat} (hk : k ≤ 600002) (hs : sl ≤ 7302232) : jW b D Y s p l e room_1 s m #[Value.ref b] below meth c "FactorDeskLaw" code 8 ret meth.name (lw_Z below #[Value.ref b] s) 829 lv [.int 1] h n k sl := fun C H locs ls hR hS hl =>
  va_forget (fun q hq => hS.2.2 q hq) (W.widen hk hs (lw_ret C.ex C.by C.rt C.lk (by decide +kernel)))
theorem jModl.keep {Y : Nat → ClassId} {h h2 : jH} {mm : Nat} (HM : jModl Y h mm) (F : ∀ x, mm ≤ x → x < mm + 23 → h2 x = h x) : jModl Y h2 mm := by
  obtain ⟨M0, M1, M2, M3, M4, M5, M6, M7, M8, M9, M18, M19, M22⟩ := HM
  exact ⟨(F mm (by omega) (by omega)).trans M0, (F (mm + 1) (by omega) (by omega)).trans M1, (F (mm + 2) (by omega) (by omega)).trans M2, (F (mm + 3) (by omega) (by omega)).trans M3, (F (mm + 4) (by omega) (by omega)).trans M4, (F (mm + 5) (by omega) (by omega)).trans M5, (F (mm + 6) (by omega) (by omega)).trans M6, (F (mm + 7) (by omega) (by omega)).trans M7, (F (mm + 8) (by omega) (by omega)).trans M8, (F (mm + 9) (by omega) (by omega)).trans M9, (F (mm + 18) (by omega) (by omega)).trans M18, (F (mm + 19) (by omega) (by omega)).trans M19, (F (mm + 22) (by omega) (by omega)).trans M22⟩
theorem lgc {x y : Int64} (h : x = y) : lg_cmp x y = 0 := by subst h; unfold lg_cmp; simp
end
section
abbrev c_Law_law : ByteArray := code
abbrev y_Law_law : MethodName := ⟨"FactorDeskLaw", "law", "([I)Z"⟩
theorem d_Law_law_0 : decode c_Law_law 0 = .ok (.new 8, 3) := by decide +kernel
theorem d_Law_law_3 : decode c_Law_law 3 = .ok (.dup, 1) := by decide +kernel
theorem d_Law_law_4 : decode c_Law_law 4 = .ok (.invokespecial 55, 3) := by decide +kernel
theorem d_Law_law_7 : decode c_Law_law 7 = .ok (.astore_n 1, 1) := by decide +kernel
theorem d_Law_law_8 : decode c_Law_law 8 = .ok (.new 56, 3) := by decide +kernel
theorem d_Law_law_11 : decode c_Law_law 11 = .ok (.dup, 1) := by decide +kernel
theorem d_Law_law_12 : decode c_Law_law 12 = .ok (.invokespecial 58, 3) := by decide +kernel
theorem d_Law_law_15 : decode c_Law_law 15 = .ok (.astore_n 2, 1) := by decide +kernel
theorem d_Law_law_16 : decode c_Law_law 16 = .ok (.iconst 1, 1) := by decide +kernel
theorem d_Law_law_17 : decode c_Law_law 17 = .ok (.newarray .long, 2) := by decide +kernel
theorem d_Law_law_19 : decode c_Law_law 19 = .ok (.astore_n 3, 1) := by decide +kernel
theorem d_Law_law_20 : decode c_Law_law 20 = .ok (.iconst 0, 1) := by decide +kernel
theorem d_Law_law_21 : decode c_Law_law 21 = .ok (.istore 4, 2) := by decide +kernel
theorem d_Law_law_23 : decode c_Law_law 23 = .ok (.iload 4, 2) := by decide +kernel
theorem d_Law_law_25 : decode c_Law_law 25 = .ok (.aload_n 0, 1) := by decide +kernel
theorem d_Law_law_26 : decode c_Law_law 26 = .ok (.arraylength, 1) := by decide +kernel
theorem d_Law_law_27 : decode c_Law_law 27 = .ok (.iconst 4, 1) := by decide +kernel
theorem d_Law_law_28 : decode c_Law_law 28 = .ok (.isub, 1) := by decide +kernel
theorem d_Law_law_29 : decode c_Law_law 29 = .ok (.if_icmp .gt 799, 3) := by decide +kernel
theorem d_Law_law_32 : decode c_Law_law 32 = .ok (.aload_n 0, 1) := by decide +kernel
theorem d_Law_law_33 : decode c_Law_law 33 = .ok (.iload 4, 2) := by decide +kernel
theorem d_Law_law_35 : decode c_Law_law 35 = .ok (.iaload, 1) := by decide +kernel
theorem d_Law_law_36 : decode c_Law_law 36 = .ok (.bipush 15, 2) := by decide +kernel
theorem d_Law_law_38 : decode c_Law_law 38 = .ok (.iand, 1) := by decide +kernel
theorem d_Law_law_116 : decode c_Law_law 116 = .ok (.aload_n 1, 1) := by decide +kernel
theorem d_Law_law_117 : decode c_Law_law 117 = .ok (.aload_n 0, 1) := by decide +kernel
theorem d_Law_law_118 : decode c_Law_law 118 = .ok (.iload 4, 2) := by decide +kernel
theorem d_Law_law_120 : decode c_Law_law 120 = .ok (.iconst 1, 1) := by decide +kernel
theorem d_Law_law_121 : decode c_Law_law 121 = .ok (.iadd, 1) := by decide +kernel
theorem d_Law_law_122 : decode c_Law_law 122 = .ok (.iaload, 1) := by decide +kernel
theorem d_Law_law_123 : decode c_Law_law 123 = .ok (.aload_n 3, 1) := by decide +kernel
theorem d_Law_law_124 : decode c_Law_law 124 = .ok (.invokestatic 59, 3) := by decide +kernel
theorem d_Law_law_127 : decode c_Law_law 127 = .ok (.istore 5, 2) := by decide +kernel
theorem d_Law_law_129 : decode c_Law_law 129 = .ok (.aload_n 2, 1) := by decide +kernel
theorem d_Law_law_130 : decode c_Law_law 130 = .ok (.aload_n 0, 1) := by decide +kernel
theorem d_Law_law_131 : decode c_Law_law 131 = .ok (.iload 4, 2) := by decide +kernel
theorem d_Law_law_133 : decode c_Law_law 133 = .ok (.iconst 1, 1) := by decide +kernel
theorem d_Law_law_134 : decode c_Law_law 134 = .ok (.iadd, 1) := by decide +kernel
theorem d_Law_law_135 : decode c_Law_law 135 = .ok (.iaload, 1) := by decide +kernel
theorem d_Law_law_136 : decode c_Law_law 136 = .ok (.invokevirtual 64, 3) := by decide +kernel
theorem d_Law_law_139 : decode c_Law_law 139 = .ok (.istore 6, 2) := by decide +kernel
theorem d_Law_law_141 : decode c_Law_law 141 = .ok (.aload_n 2, 1) := by decide +kernel
theorem d_Law_law_142 : decode c_Law_law 142 = .ok (.invokevirtual 65, 3) := by decide +kernel
theorem d_Law_law_145 : decode c_Law_law 145 = .ok (.iload 5, 2) := by decide +kernel
theorem d_Law_law_147 : decode c_Law_law 147 = .ok (.if_icmp .eq 5, 3) := by decide +kernel
theorem d_Law_law_150 : decode c_Law_law 150 = .ok (.iconst 0, 1) := by decide +kernel
theorem d_Law_law_151 : decode c_Law_law 151 = .ok (.ireturn, 1) := by decide +kernel
theorem d_Law_law_152 : decode c_Law_law 152 = .ok (.iload 5, 2) := by decide +kernel
theorem d_Law_law_154 : decode c_Law_law 154 = .ok (.ifCond .ne 15, 3) := by decide +kernel
theorem d_Law_law_157 : decode c_Law_law 157 = .ok (.aload_n 3, 1) := by decide +kernel
theorem d_Law_law_158 : decode c_Law_law 158 = .ok (.iconst 0, 1) := by decide +kernel
theorem d_Law_law_159 : decode c_Law_law 159 = .ok (.laload, 1) := by decide +kernel
theorem d_Law_law_160 : decode c_Law_law 160 = .ok (.iload 6, 2) := by decide +kernel
theorem d_Law_law_162 : decode c_Law_law 162 = .ok (.i2l, 1) := by decide +kernel
theorem d_Law_law_163 : decode c_Law_law 163 = .ok (.lcmp, 1) := by decide +kernel
theorem d_Law_law_164 : decode c_Law_law 164 = .ok (.ifCond .eq 5, 3) := by decide +kernel
theorem d_Law_law_167 : decode c_Law_law 167 = .ok (.iconst 0, 1) := by decide +kernel
theorem d_Law_law_168 : decode c_Law_law 168 = .ok (.ireturn, 1) := by decide +kernel
theorem d_Law_law_169 : decode c_Law_law 169 = .ok (.goto 653, 3) := by decide +kernel
theorem d_Law_law_172 : decode c_Law_law 172 = .ok (.aload_n 1, 1) := by decide +kernel
theorem d_Law_law_173 : decode c_Law_law 173 = .ok (.invokevirtual 68, 3) := by decide +kernel
theorem d_Law_law_176 : decode c_Law_law 176 = .ok (.aload_n 2, 1) := by decide +kernel
theorem d_Law_law_177 : decode c_Law_law 177 = .ok (.invokevirtual 71, 3) := by decide +kernel
theorem d_Law_law_180 : decode c_Law_law 180 = .ok (.if_icmp .eq 642, 3) := by decide +kernel
theorem d_Law_law_183 : decode c_Law_law 183 = .ok (.iconst 0, 1) := by decide +kernel
theorem d_Law_law_184 : decode c_Law_law 184 = .ok (.ireturn, 1) := by decide +kernel
theorem d_Law_law_185 : decode c_Law_law 185 = .ok (.aload_n 1, 1) := by decide +kernel
theorem d_Law_law_186 : decode c_Law_law 186 = .ok (.aload_n 3, 1) := by decide +kernel
theorem d_Law_law_187 : decode c_Law_law 187 = .ok (.invokestatic 72, 3) := by decide +kernel
theorem d_Law_law_190 : decode c_Law_law 190 = .ok (.istore 5, 2) := by decide +kernel
theorem d_Law_law_192 : decode c_Law_law 192 = .ok (.aload_n 2, 1) := by decide +kernel
theorem d_Law_law_193 : decode c_Law_law 193 = .ok (.invokevirtual 75, 3) := by decide +kernel
theorem d_Law_law_196 : decode c_Law_law 196 = .ok (.istore 6, 2) := by decide +kernel
theorem d_Law_law_198 : decode c_Law_law 198 = .ok (.aload_n 2, 1) := by decide +kernel
theorem d_Law_law_199 : decode c_Law_law 199 = .ok (.invokevirtual 65, 3) := by decide +kernel
theorem d_Law_law_202 : decode c_Law_law 202 = .ok (.iload 5, 2) := by decide +kernel
theorem d_Law_law_204 : decode c_Law_law 204 = .ok (.if_icmp .eq 5, 3) := by decide +kernel
theorem d_Law_law_207 : decode c_Law_law 207 = .ok (.iconst 0, 1) := by decide +kernel
theorem d_Law_law_208 : decode c_Law_law 208 = .ok (.ireturn, 1) := by decide +kernel
theorem d_Law_law_209 : decode c_Law_law 209 = .ok (.iload 5, 2) := by decide +kernel
theorem d_Law_law_211 : decode c_Law_law 211 = .ok (.ifCond .ne 15, 3) := by decide +kernel
theorem d_Law_law_214 : decode c_Law_law 214 = .ok (.aload_n 3, 1) := by decide +kernel
theorem d_Law_law_215 : decode c_Law_law 215 = .ok (.iconst 0, 1) := by decide +kernel
theorem d_Law_law_216 : decode c_Law_law 216 = .ok (.laload, 1) := by decide +kernel
theorem d_Law_law_217 : decode c_Law_law 217 = .ok (.iload 6, 2) := by decide +kernel
theorem d_Law_law_219 : decode c_Law_law 219 = .ok (.i2l, 1) := by decide +kernel
theorem d_Law_law_220 : decode c_Law_law 220 = .ok (.lcmp, 1) := by decide +kernel
theorem d_Law_law_221 : decode c_Law_law 221 = .ok (.ifCond .eq 5, 3) := by decide +kernel
theorem d_Law_law_224 : decode c_Law_law 224 = .ok (.iconst 0, 1) := by decide +kernel
theorem d_Law_law_225 : decode c_Law_law 225 = .ok (.ireturn, 1) := by decide +kernel
theorem d_Law_law_226 : decode c_Law_law 226 = .ok (.goto 596, 3) := by decide +kernel
theorem d_Law_law_229 : decode c_Law_law 229 = .ok (.aload_n 1, 1) := by decide +kernel
theorem d_Law_law_230 : decode c_Law_law 230 = .ok (.aload_n 3, 1) := by decide +kernel
theorem d_Law_law_231 : decode c_Law_law 231 = .ok (.invokestatic 76, 3) := by decide +kernel
theorem d_Law_law_234 : decode c_Law_law 234 = .ok (.istore 5, 2) := by decide +kernel
theorem d_Law_law_236 : decode c_Law_law 236 = .ok (.aload_n 2, 1) := by decide +kernel
theorem d_Law_law_237 : decode c_Law_law 237 = .ok (.invokevirtual 78, 3) := by decide +kernel
theorem d_Law_law_240 : decode c_Law_law 240 = .ok (.istore 6, 2) := by decide +kernel
theorem d_Law_law_242 : decode c_Law_law 242 = .ok (.aload_n 2, 1) := by decide +kernel
theorem d_Law_law_243 : decode c_Law_law 243 = .ok (.invokevirtual 65, 3) := by decide +kernel
theorem d_Law_law_246 : decode c_Law_law 246 = .ok (.iload 5, 2) := by decide +kernel
theorem d_Law_law_248 : decode c_Law_law 248 = .ok (.if_icmp .eq 5, 3) := by decide +kernel
theorem d_Law_law_251 : decode c_Law_law 251 = .ok (.iconst 0, 1) := by decide +kernel
theorem d_Law_law_252 : decode c_Law_law 252 = .ok (.ireturn, 1) := by decide +kernel
theorem d_Law_law_253 : decode c_Law_law 253 = .ok (.iload 5, 2) := by decide +kernel
theorem d_Law_law_255 : decode c_Law_law 255 = .ok (.ifCond .ne 15, 3) := by decide +kernel
theorem d_Law_law_258 : decode c_Law_law 258 = .ok (.aload_n 3, 1) := by decide +kernel
theorem d_Law_law_259 : decode c_Law_law 259 = .ok (.iconst 0, 1) := by decide +kernel
theorem d_Law_law_260 : decode c_Law_law 260 = .ok (.laload, 1) := by decide +kernel
theorem d_Law_law_261 : decode c_Law_law 261 = .ok (.iload 6, 2) := by decide +kernel
theorem d_Law_law_263 : decode c_Law_law 263 = .ok (.i2l, 1) := by decide +kernel
theorem d_Law_law_264 : decode c_Law_law 264 = .ok (.lcmp, 1) := by decide +kernel
theorem d_Law_law_265 : decode c_Law_law 265 = .ok (.ifCond .eq 5, 3) := by decide +kernel
theorem d_Law_law_268 : decode c_Law_law 268 = .ok (.iconst 0, 1) := by decide +kernel
theorem d_Law_law_269 : decode c_Law_law 269 = .ok (.ireturn, 1) := by decide +kernel
theorem d_Law_law_270 : decode c_Law_law 270 = .ok (.goto 552, 3) := by decide +kernel
theorem d_Law_law_273 : decode c_Law_law 273 = .ok (.aload_n 1, 1) := by decide +kernel
theorem d_Law_law_274 : decode c_Law_law 274 = .ok (.aload_n 0, 1) := by decide +kernel
theorem d_Law_law_275 : decode c_Law_law 275 = .ok (.iload 4, 2) := by decide +kernel
theorem d_Law_law_277 : decode c_Law_law 277 = .ok (.iconst 1, 1) := by decide +kernel
theorem d_Law_law_278 : decode c_Law_law 278 = .ok (.iadd, 1) := by decide +kernel
theorem d_Law_law_279 : decode c_Law_law 279 = .ok (.iaload, 1) := by decide +kernel
theorem d_Law_law_280 : decode c_Law_law 280 = .ok (.aload_n 3, 1) := by decide +kernel
theorem d_Law_law_281 : decode c_Law_law 281 = .ok (.invokestatic 79, 3) := by decide +kernel
theorem d_Law_law_284 : decode c_Law_law 284 = .ok (.istore 5, 2) := by decide +kernel
theorem d_Law_law_286 : decode c_Law_law 286 = .ok (.aload_n 2, 1) := by decide +kernel
theorem d_Law_law_287 : decode c_Law_law 287 = .ok (.aload_n 0, 1) := by decide +kernel
theorem d_Law_law_288 : decode c_Law_law 288 = .ok (.iload 4, 2) := by decide +kernel
theorem d_Law_law_290 : decode c_Law_law 290 = .ok (.iconst 1, 1) := by decide +kernel
theorem d_Law_law_291 : decode c_Law_law 291 = .ok (.iadd, 1) := by decide +kernel
theorem d_Law_law_292 : decode c_Law_law 292 = .ok (.iaload, 1) := by decide +kernel
theorem d_Law_law_293 : decode c_Law_law 293 = .ok (.invokevirtual 81, 3) := by decide +kernel
theorem d_Law_law_296 : decode c_Law_law 296 = .ok (.istore 6, 2) := by decide +kernel
theorem d_Law_law_298 : decode c_Law_law 298 = .ok (.aload_n 2, 1) := by decide +kernel
theorem d_Law_law_299 : decode c_Law_law 299 = .ok (.invokevirtual 65, 3) := by decide +kernel
theorem d_Law_law_302 : decode c_Law_law 302 = .ok (.iload 5, 2) := by decide +kernel
theorem d_Law_law_304 : decode c_Law_law 304 = .ok (.if_icmp .eq 5, 3) := by decide +kernel
theorem d_Law_law_307 : decode c_Law_law 307 = .ok (.iconst 0, 1) := by decide +kernel
theorem d_Law_law_308 : decode c_Law_law 308 = .ok (.ireturn, 1) := by decide +kernel
theorem d_Law_law_309 : decode c_Law_law 309 = .ok (.iload 5, 2) := by decide +kernel
theorem d_Law_law_311 : decode c_Law_law 311 = .ok (.ifCond .ne 15, 3) := by decide +kernel
theorem d_Law_law_314 : decode c_Law_law 314 = .ok (.aload_n 3, 1) := by decide +kernel
theorem d_Law_law_315 : decode c_Law_law 315 = .ok (.iconst 0, 1) := by decide +kernel
theorem d_Law_law_316 : decode c_Law_law 316 = .ok (.laload, 1) := by decide +kernel
theorem d_Law_law_317 : decode c_Law_law 317 = .ok (.iload 6, 2) := by decide +kernel
theorem d_Law_law_319 : decode c_Law_law 319 = .ok (.i2l, 1) := by decide +kernel
theorem d_Law_law_320 : decode c_Law_law 320 = .ok (.lcmp, 1) := by decide +kernel
theorem d_Law_law_321 : decode c_Law_law 321 = .ok (.ifCond .eq 5, 3) := by decide +kernel
theorem d_Law_law_324 : decode c_Law_law 324 = .ok (.iconst 0, 1) := by decide +kernel
theorem d_Law_law_325 : decode c_Law_law 325 = .ok (.ireturn, 1) := by decide +kernel
theorem d_Law_law_326 : decode c_Law_law 326 = .ok (.goto 496, 3) := by decide +kernel
theorem d_Law_law_329 : decode c_Law_law 329 = .ok (.aload_n 1, 1) := by decide +kernel
theorem d_Law_law_330 : decode c_Law_law 330 = .ok (.invokevirtual 82, 3) := by decide +kernel
theorem d_Law_law_333 : decode c_Law_law 333 = .ok (.aload_n 2, 1) := by decide +kernel
theorem d_Law_law_334 : decode c_Law_law 334 = .ok (.invokevirtual 85, 3) := by decide +kernel
theorem d_Law_law_337 : decode c_Law_law 337 = .ok (.if_icmp .eq 485, 3) := by decide +kernel
theorem d_Law_law_340 : decode c_Law_law 340 = .ok (.iconst 0, 1) := by decide +kernel
theorem d_Law_law_341 : decode c_Law_law 341 = .ok (.ireturn, 1) := by decide +kernel
theorem d_Law_law_342 : decode c_Law_law 342 = .ok (.aload_n 1, 1) := by decide +kernel
theorem d_Law_law_343 : decode c_Law_law 343 = .ok (.invokevirtual 86, 3) := by decide +kernel
theorem d_Law_law_346 : decode c_Law_law 346 = .ok (.aload_n 2, 1) := by decide +kernel
theorem d_Law_law_347 : decode c_Law_law 347 = .ok (.invokevirtual 90, 3) := by decide +kernel
theorem d_Law_law_350 : decode c_Law_law 350 = .ok (.lcmp, 1) := by decide +kernel
theorem d_Law_law_351 : decode c_Law_law 351 = .ok (.ifCond .eq 471, 3) := by decide +kernel
theorem d_Law_law_354 : decode c_Law_law 354 = .ok (.iconst 0, 1) := by decide +kernel
theorem d_Law_law_355 : decode c_Law_law 355 = .ok (.ireturn, 1) := by decide +kernel
theorem d_Law_law_356 : decode c_Law_law 356 = .ok (.aload_n 1, 1) := by decide +kernel
theorem d_Law_law_357 : decode c_Law_law 357 = .ok (.invokevirtual 91, 3) := by decide +kernel
theorem d_Law_law_360 : decode c_Law_law 360 = .ok (.aload_n 2, 1) := by decide +kernel
theorem d_Law_law_361 : decode c_Law_law 361 = .ok (.invokevirtual 94, 3) := by decide +kernel
theorem d_Law_law_364 : decode c_Law_law 364 = .ok (.if_icmp .eq 458, 3) := by decide +kernel
theorem d_Law_law_367 : decode c_Law_law 367 = .ok (.iconst 0, 1) := by decide +kernel
theorem d_Law_law_368 : decode c_Law_law 368 = .ok (.ireturn, 1) := by decide +kernel
theorem d_Law_law_369 : decode c_Law_law 369 = .ok (.aload_n 1, 1) := by decide +kernel
theorem d_Law_law_370 : decode c_Law_law 370 = .ok (.aload_n 0, 1) := by decide +kernel
theorem d_Law_law_371 : decode c_Law_law 371 = .ok (.iload 4, 2) := by decide +kernel
theorem d_Law_law_373 : decode c_Law_law 373 = .ok (.iconst 1, 1) := by decide +kernel
theorem d_Law_law_374 : decode c_Law_law 374 = .ok (.iadd, 1) := by decide +kernel
theorem d_Law_law_375 : decode c_Law_law 375 = .ok (.iaload, 1) := by decide +kernel
theorem d_Law_law_376 : decode c_Law_law 376 = .ok (.aload_n 0, 1) := by decide +kernel
theorem d_Law_law_377 : decode c_Law_law 377 = .ok (.iload 4, 2) := by decide +kernel
theorem d_Law_law_379 : decode c_Law_law 379 = .ok (.iconst 2, 1) := by decide +kernel
theorem d_Law_law_380 : decode c_Law_law 380 = .ok (.iadd, 1) := by decide +kernel
theorem d_Law_law_381 : decode c_Law_law 381 = .ok (.iaload, 1) := by decide +kernel
theorem d_Law_law_382 : decode c_Law_law 382 = .ok (.aload_n 3, 1) := by decide +kernel
theorem d_Law_law_383 : decode c_Law_law 383 = .ok (.invokestatic 95, 3) := by decide +kernel
theorem d_Law_law_386 : decode c_Law_law 386 = .ok (.istore 5, 2) := by decide +kernel
theorem d_Law_law_388 : decode c_Law_law 388 = .ok (.aload_n 2, 1) := by decide +kernel
theorem d_Law_law_389 : decode c_Law_law 389 = .ok (.aload_n 0, 1) := by decide +kernel
theorem d_Law_law_390 : decode c_Law_law 390 = .ok (.iload 4, 2) := by decide +kernel
theorem d_Law_law_392 : decode c_Law_law 392 = .ok (.iconst 1, 1) := by decide +kernel
theorem d_Law_law_393 : decode c_Law_law 393 = .ok (.iadd, 1) := by decide +kernel
theorem d_Law_law_394 : decode c_Law_law 394 = .ok (.iaload, 1) := by decide +kernel
theorem d_Law_law_395 : decode c_Law_law 395 = .ok (.aload_n 0, 1) := by decide +kernel
theorem d_Law_law_396 : decode c_Law_law 396 = .ok (.iload 4, 2) := by decide +kernel
theorem d_Law_law_398 : decode c_Law_law 398 = .ok (.iconst 2, 1) := by decide +kernel
theorem d_Law_law_399 : decode c_Law_law 399 = .ok (.iadd, 1) := by decide +kernel
theorem d_Law_law_400 : decode c_Law_law 400 = .ok (.iaload, 1) := by decide +kernel
theorem d_Law_law_401 : decode c_Law_law 401 = .ok (.invokevirtual 98, 3) := by decide +kernel
theorem d_Law_law_404 : decode c_Law_law 404 = .ok (.istore 6, 2) := by decide +kernel
theorem d_Law_law_406 : decode c_Law_law 406 = .ok (.aload_n 2, 1) := by decide +kernel
theorem d_Law_law_407 : decode c_Law_law 407 = .ok (.invokevirtual 65, 3) := by decide +kernel
theorem d_Law_law_410 : decode c_Law_law 410 = .ok (.iload 5, 2) := by decide +kernel
theorem d_Law_law_412 : decode c_Law_law 412 = .ok (.if_icmp .eq 5, 3) := by decide +kernel
theorem d_Law_law_415 : decode c_Law_law 415 = .ok (.iconst 0, 1) := by decide +kernel
theorem d_Law_law_416 : decode c_Law_law 416 = .ok (.ireturn, 1) := by decide +kernel
theorem d_Law_law_417 : decode c_Law_law 417 = .ok (.iload 5, 2) := by decide +kernel
theorem d_Law_law_419 : decode c_Law_law 419 = .ok (.ifCond .ne 15, 3) := by decide +kernel
theorem d_Law_law_422 : decode c_Law_law 422 = .ok (.aload_n 3, 1) := by decide +kernel
theorem d_Law_law_423 : decode c_Law_law 423 = .ok (.iconst 0, 1) := by decide +kernel
theorem d_Law_law_424 : decode c_Law_law 424 = .ok (.laload, 1) := by decide +kernel
theorem d_Law_law_425 : decode c_Law_law 425 = .ok (.iload 6, 2) := by decide +kernel
theorem d_Law_law_427 : decode c_Law_law 427 = .ok (.i2l, 1) := by decide +kernel
theorem d_Law_law_428 : decode c_Law_law 428 = .ok (.lcmp, 1) := by decide +kernel
theorem d_Law_law_429 : decode c_Law_law 429 = .ok (.ifCond .eq 5, 3) := by decide +kernel
theorem d_Law_law_432 : decode c_Law_law 432 = .ok (.iconst 0, 1) := by decide +kernel
theorem d_Law_law_433 : decode c_Law_law 433 = .ok (.ireturn, 1) := by decide +kernel
theorem d_Law_law_434 : decode c_Law_law 434 = .ok (.goto 388, 3) := by decide +kernel
theorem d_Law_law_437 : decode c_Law_law 437 = .ok (.aload_n 1, 1) := by decide +kernel
theorem d_Law_law_438 : decode c_Law_law 438 = .ok (.aload_n 0, 1) := by decide +kernel
theorem d_Law_law_439 : decode c_Law_law 439 = .ok (.iload 4, 2) := by decide +kernel
theorem d_Law_law_441 : decode c_Law_law 441 = .ok (.iconst 1, 1) := by decide +kernel
theorem d_Law_law_442 : decode c_Law_law 442 = .ok (.iadd, 1) := by decide +kernel
theorem d_Law_law_443 : decode c_Law_law 443 = .ok (.iaload, 1) := by decide +kernel
theorem d_Law_law_444 : decode c_Law_law 444 = .ok (.aload_n 0, 1) := by decide +kernel
theorem d_Law_law_445 : decode c_Law_law 445 = .ok (.iload 4, 2) := by decide +kernel
theorem d_Law_law_447 : decode c_Law_law 447 = .ok (.iconst 2, 1) := by decide +kernel
theorem d_Law_law_448 : decode c_Law_law 448 = .ok (.iadd, 1) := by decide +kernel
theorem d_Law_law_449 : decode c_Law_law 449 = .ok (.iaload, 1) := by decide +kernel
theorem d_Law_law_450 : decode c_Law_law 450 = .ok (.aload_n 3, 1) := by decide +kernel
theorem d_Law_law_451 : decode c_Law_law 451 = .ok (.invokestatic 99, 3) := by decide +kernel
theorem d_Law_law_454 : decode c_Law_law 454 = .ok (.istore 5, 2) := by decide +kernel
theorem d_Law_law_456 : decode c_Law_law 456 = .ok (.aload_n 2, 1) := by decide +kernel
theorem d_Law_law_457 : decode c_Law_law 457 = .ok (.aload_n 0, 1) := by decide +kernel
theorem d_Law_law_458 : decode c_Law_law 458 = .ok (.iload 4, 2) := by decide +kernel
theorem d_Law_law_460 : decode c_Law_law 460 = .ok (.iconst 1, 1) := by decide +kernel
theorem d_Law_law_461 : decode c_Law_law 461 = .ok (.iadd, 1) := by decide +kernel
theorem d_Law_law_462 : decode c_Law_law 462 = .ok (.iaload, 1) := by decide +kernel
theorem d_Law_law_463 : decode c_Law_law 463 = .ok (.aload_n 0, 1) := by decide +kernel
theorem d_Law_law_464 : decode c_Law_law 464 = .ok (.iload 4, 2) := by decide +kernel
theorem d_Law_law_466 : decode c_Law_law 466 = .ok (.iconst 2, 1) := by decide +kernel
theorem d_Law_law_467 : decode c_Law_law 467 = .ok (.iadd, 1) := by decide +kernel
theorem d_Law_law_468 : decode c_Law_law 468 = .ok (.iaload, 1) := by decide +kernel
theorem d_Law_law_469 : decode c_Law_law 469 = .ok (.invokevirtual 101, 3) := by decide +kernel
theorem d_Law_law_472 : decode c_Law_law 472 = .ok (.lstore 6, 2) := by decide +kernel
theorem d_Law_law_474 : decode c_Law_law 474 = .ok (.aload_n 2, 1) := by decide +kernel
theorem d_Law_law_475 : decode c_Law_law 475 = .ok (.invokevirtual 65, 3) := by decide +kernel
theorem d_Law_law_478 : decode c_Law_law 478 = .ok (.iload 5, 2) := by decide +kernel
theorem d_Law_law_480 : decode c_Law_law 480 = .ok (.if_icmp .eq 5, 3) := by decide +kernel
theorem d_Law_law_483 : decode c_Law_law 483 = .ok (.iconst 0, 1) := by decide +kernel
theorem d_Law_law_484 : decode c_Law_law 484 = .ok (.ireturn, 1) := by decide +kernel
theorem d_Law_law_485 : decode c_Law_law 485 = .ok (.iload 5, 2) := by decide +kernel
theorem d_Law_law_487 : decode c_Law_law 487 = .ok (.ifCond .ne 14, 3) := by decide +kernel
theorem d_Law_law_490 : decode c_Law_law 490 = .ok (.aload_n 3, 1) := by decide +kernel
theorem d_Law_law_491 : decode c_Law_law 491 = .ok (.iconst 0, 1) := by decide +kernel
theorem d_Law_law_492 : decode c_Law_law 492 = .ok (.laload, 1) := by decide +kernel
theorem d_Law_law_493 : decode c_Law_law 493 = .ok (.lload 6, 2) := by decide +kernel
theorem d_Law_law_495 : decode c_Law_law 495 = .ok (.lcmp, 1) := by decide +kernel
theorem d_Law_law_496 : decode c_Law_law 496 = .ok (.ifCond .eq 5, 3) := by decide +kernel
theorem d_Law_law_499 : decode c_Law_law 499 = .ok (.iconst 0, 1) := by decide +kernel
theorem d_Law_law_500 : decode c_Law_law 500 = .ok (.ireturn, 1) := by decide +kernel
theorem d_Law_law_501 : decode c_Law_law 501 = .ok (.goto 321, 3) := by decide +kernel
theorem d_Law_law_504 : decode c_Law_law 504 = .ok (.aload_n 1, 1) := by decide +kernel
theorem d_Law_law_505 : decode c_Law_law 505 = .ok (.invokevirtual 102, 3) := by decide +kernel
theorem d_Law_law_508 : decode c_Law_law 508 = .ok (.aload_n 2, 1) := by decide +kernel
theorem d_Law_law_509 : decode c_Law_law 509 = .ok (.invokevirtual 105, 3) := by decide +kernel
theorem d_Law_law_512 : decode c_Law_law 512 = .ok (.if_icmp .eq 310, 3) := by decide +kernel
theorem d_Law_law_515 : decode c_Law_law 515 = .ok (.iconst 0, 1) := by decide +kernel
theorem d_Law_law_516 : decode c_Law_law 516 = .ok (.ireturn, 1) := by decide +kernel
theorem d_Law_law_517 : decode c_Law_law 517 = .ok (.aload_n 1, 1) := by decide +kernel
theorem d_Law_law_518 : decode c_Law_law 518 = .ok (.aload_n 0, 1) := by decide +kernel
theorem d_Law_law_519 : decode c_Law_law 519 = .ok (.iload 4, 2) := by decide +kernel
theorem d_Law_law_521 : decode c_Law_law 521 = .ok (.iconst 1, 1) := by decide +kernel
theorem d_Law_law_522 : decode c_Law_law 522 = .ok (.iadd, 1) := by decide +kernel
theorem d_Law_law_523 : decode c_Law_law 523 = .ok (.iaload, 1) := by decide +kernel
theorem d_Law_law_524 : decode c_Law_law 524 = .ok (.aload_n 3, 1) := by decide +kernel
theorem d_Law_law_525 : decode c_Law_law 525 = .ok (.invokestatic 106, 3) := by decide +kernel
theorem d_Law_law_528 : decode c_Law_law 528 = .ok (.istore 5, 2) := by decide +kernel
theorem d_Law_law_530 : decode c_Law_law 530 = .ok (.aload_n 2, 1) := by decide +kernel
theorem d_Law_law_531 : decode c_Law_law 531 = .ok (.aload_n 0, 1) := by decide +kernel
theorem d_Law_law_532 : decode c_Law_law 532 = .ok (.iload 4, 2) := by decide +kernel
theorem d_Law_law_534 : decode c_Law_law 534 = .ok (.iconst 1, 1) := by decide +kernel
theorem d_Law_law_535 : decode c_Law_law 535 = .ok (.iadd, 1) := by decide +kernel
theorem d_Law_law_536 : decode c_Law_law 536 = .ok (.iaload, 1) := by decide +kernel
theorem d_Law_law_537 : decode c_Law_law 537 = .ok (.invokevirtual 108, 3) := by decide +kernel
theorem d_Law_law_540 : decode c_Law_law 540 = .ok (.istore 6, 2) := by decide +kernel
theorem d_Law_law_542 : decode c_Law_law 542 = .ok (.aload_n 2, 1) := by decide +kernel
theorem d_Law_law_543 : decode c_Law_law 543 = .ok (.invokevirtual 65, 3) := by decide +kernel
theorem d_Law_law_546 : decode c_Law_law 546 = .ok (.iload 5, 2) := by decide +kernel
theorem d_Law_law_548 : decode c_Law_law 548 = .ok (.if_icmp .eq 5, 3) := by decide +kernel
theorem d_Law_law_551 : decode c_Law_law 551 = .ok (.iconst 0, 1) := by decide +kernel
theorem d_Law_law_552 : decode c_Law_law 552 = .ok (.ireturn, 1) := by decide +kernel
theorem d_Law_law_553 : decode c_Law_law 553 = .ok (.iload 5, 2) := by decide +kernel
theorem d_Law_law_555 : decode c_Law_law 555 = .ok (.ifCond .ne 15, 3) := by decide +kernel
theorem d_Law_law_558 : decode c_Law_law 558 = .ok (.aload_n 3, 1) := by decide +kernel
theorem d_Law_law_559 : decode c_Law_law 559 = .ok (.iconst 0, 1) := by decide +kernel
theorem d_Law_law_560 : decode c_Law_law 560 = .ok (.laload, 1) := by decide +kernel
theorem d_Law_law_561 : decode c_Law_law 561 = .ok (.iload 6, 2) := by decide +kernel
theorem d_Law_law_563 : decode c_Law_law 563 = .ok (.i2l, 1) := by decide +kernel
theorem d_Law_law_564 : decode c_Law_law 564 = .ok (.lcmp, 1) := by decide +kernel
theorem d_Law_law_565 : decode c_Law_law 565 = .ok (.ifCond .eq 5, 3) := by decide +kernel
theorem d_Law_law_568 : decode c_Law_law 568 = .ok (.iconst 0, 1) := by decide +kernel
theorem d_Law_law_569 : decode c_Law_law 569 = .ok (.ireturn, 1) := by decide +kernel
theorem d_Law_law_570 : decode c_Law_law 570 = .ok (.goto 252, 3) := by decide +kernel
theorem d_Law_law_573 : decode c_Law_law 573 = .ok (.aload_n 1, 1) := by decide +kernel
theorem d_Law_law_574 : decode c_Law_law 574 = .ok (.aload_n 3, 1) := by decide +kernel
theorem d_Law_law_575 : decode c_Law_law 575 = .ok (.invokestatic 109, 3) := by decide +kernel
theorem d_Law_law_578 : decode c_Law_law 578 = .ok (.istore 5, 2) := by decide +kernel
theorem d_Law_law_580 : decode c_Law_law 580 = .ok (.aload_n 2, 1) := by decide +kernel
theorem d_Law_law_581 : decode c_Law_law 581 = .ok (.invokevirtual 111, 3) := by decide +kernel
theorem d_Law_law_584 : decode c_Law_law 584 = .ok (.istore 6, 2) := by decide +kernel
theorem d_Law_law_586 : decode c_Law_law 586 = .ok (.aload_n 2, 1) := by decide +kernel
theorem d_Law_law_587 : decode c_Law_law 587 = .ok (.invokevirtual 65, 3) := by decide +kernel
theorem d_Law_law_590 : decode c_Law_law 590 = .ok (.iload 5, 2) := by decide +kernel
theorem d_Law_law_592 : decode c_Law_law 592 = .ok (.if_icmp .eq 5, 3) := by decide +kernel
theorem d_Law_law_595 : decode c_Law_law 595 = .ok (.iconst 0, 1) := by decide +kernel
theorem d_Law_law_596 : decode c_Law_law 596 = .ok (.ireturn, 1) := by decide +kernel
theorem d_Law_law_597 : decode c_Law_law 597 = .ok (.iload 5, 2) := by decide +kernel
theorem d_Law_law_599 : decode c_Law_law 599 = .ok (.ifCond .ne 15, 3) := by decide +kernel
theorem d_Law_law_602 : decode c_Law_law 602 = .ok (.aload_n 3, 1) := by decide +kernel
theorem d_Law_law_603 : decode c_Law_law 603 = .ok (.iconst 0, 1) := by decide +kernel
theorem d_Law_law_604 : decode c_Law_law 604 = .ok (.laload, 1) := by decide +kernel
theorem d_Law_law_605 : decode c_Law_law 605 = .ok (.iload 6, 2) := by decide +kernel
theorem d_Law_law_607 : decode c_Law_law 607 = .ok (.i2l, 1) := by decide +kernel
theorem d_Law_law_608 : decode c_Law_law 608 = .ok (.lcmp, 1) := by decide +kernel
theorem d_Law_law_609 : decode c_Law_law 609 = .ok (.ifCond .eq 5, 3) := by decide +kernel
theorem d_Law_law_612 : decode c_Law_law 612 = .ok (.iconst 0, 1) := by decide +kernel
theorem d_Law_law_613 : decode c_Law_law 613 = .ok (.ireturn, 1) := by decide +kernel
theorem d_Law_law_614 : decode c_Law_law 614 = .ok (.goto 208, 3) := by decide +kernel
theorem d_Law_law_617 : decode c_Law_law 617 = .ok (.aload_n 1, 1) := by decide +kernel
theorem d_Law_law_618 : decode c_Law_law 618 = .ok (.aload_n 0, 1) := by decide +kernel
theorem d_Law_law_619 : decode c_Law_law 619 = .ok (.iload 4, 2) := by decide +kernel
theorem d_Law_law_621 : decode c_Law_law 621 = .ok (.iconst 1, 1) := by decide +kernel
theorem d_Law_law_622 : decode c_Law_law 622 = .ok (.iadd, 1) := by decide +kernel
theorem d_Law_law_623 : decode c_Law_law 623 = .ok (.iaload, 1) := by decide +kernel
theorem d_Law_law_624 : decode c_Law_law 624 = .ok (.aload_n 3, 1) := by decide +kernel
theorem d_Law_law_625 : decode c_Law_law 625 = .ok (.invokestatic 112, 3) := by decide +kernel
theorem d_Law_law_628 : decode c_Law_law 628 = .ok (.istore 5, 2) := by decide +kernel
theorem d_Law_law_630 : decode c_Law_law 630 = .ok (.aload_n 2, 1) := by decide +kernel
theorem d_Law_law_631 : decode c_Law_law 631 = .ok (.aload_n 0, 1) := by decide +kernel
theorem d_Law_law_632 : decode c_Law_law 632 = .ok (.iload 4, 2) := by decide +kernel
theorem d_Law_law_634 : decode c_Law_law 634 = .ok (.iconst 1, 1) := by decide +kernel
theorem d_Law_law_635 : decode c_Law_law 635 = .ok (.iadd, 1) := by decide +kernel
theorem d_Law_law_636 : decode c_Law_law 636 = .ok (.iaload, 1) := by decide +kernel
theorem d_Law_law_637 : decode c_Law_law 637 = .ok (.invokevirtual 114, 3) := by decide +kernel
theorem d_Law_law_640 : decode c_Law_law 640 = .ok (.lstore 6, 2) := by decide +kernel
theorem d_Law_law_642 : decode c_Law_law 642 = .ok (.aload_n 2, 1) := by decide +kernel
theorem d_Law_law_643 : decode c_Law_law 643 = .ok (.invokevirtual 65, 3) := by decide +kernel
theorem d_Law_law_646 : decode c_Law_law 646 = .ok (.iload 5, 2) := by decide +kernel
theorem d_Law_law_648 : decode c_Law_law 648 = .ok (.if_icmp .eq 5, 3) := by decide +kernel
theorem d_Law_law_651 : decode c_Law_law 651 = .ok (.iconst 0, 1) := by decide +kernel
theorem d_Law_law_652 : decode c_Law_law 652 = .ok (.ireturn, 1) := by decide +kernel
theorem d_Law_law_653 : decode c_Law_law 653 = .ok (.iload 5, 2) := by decide +kernel
theorem d_Law_law_655 : decode c_Law_law 655 = .ok (.ifCond .ne 14, 3) := by decide +kernel
theorem d_Law_law_658 : decode c_Law_law 658 = .ok (.aload_n 3, 1) := by decide +kernel
theorem d_Law_law_659 : decode c_Law_law 659 = .ok (.iconst 0, 1) := by decide +kernel
theorem d_Law_law_660 : decode c_Law_law 660 = .ok (.laload, 1) := by decide +kernel
theorem d_Law_law_661 : decode c_Law_law 661 = .ok (.lload 6, 2) := by decide +kernel
theorem d_Law_law_663 : decode c_Law_law 663 = .ok (.lcmp, 1) := by decide +kernel
theorem d_Law_law_664 : decode c_Law_law 664 = .ok (.ifCond .eq 5, 3) := by decide +kernel
theorem d_Law_law_667 : decode c_Law_law 667 = .ok (.iconst 0, 1) := by decide +kernel
theorem d_Law_law_668 : decode c_Law_law 668 = .ok (.ireturn, 1) := by decide +kernel
theorem d_Law_law_669 : decode c_Law_law 669 = .ok (.goto 153, 3) := by decide +kernel
theorem d_Law_law_672 : decode c_Law_law 672 = .ok (.aload_n 1, 1) := by decide +kernel
theorem d_Law_law_673 : decode c_Law_law 673 = .ok (.aload_n 3, 1) := by decide +kernel
theorem d_Law_law_674 : decode c_Law_law 674 = .ok (.invokestatic 115, 3) := by decide +kernel
theorem d_Law_law_677 : decode c_Law_law 677 = .ok (.istore 5, 2) := by decide +kernel
theorem d_Law_law_679 : decode c_Law_law 679 = .ok (.aload_n 2, 1) := by decide +kernel
theorem d_Law_law_680 : decode c_Law_law 680 = .ok (.invokevirtual 117, 3) := by decide +kernel
theorem d_Law_law_683 : decode c_Law_law 683 = .ok (.istore 6, 2) := by decide +kernel
theorem d_Law_law_685 : decode c_Law_law 685 = .ok (.aload_n 2, 1) := by decide +kernel
theorem d_Law_law_686 : decode c_Law_law 686 = .ok (.invokevirtual 65, 3) := by decide +kernel
theorem d_Law_law_689 : decode c_Law_law 689 = .ok (.iload 5, 2) := by decide +kernel
theorem d_Law_law_691 : decode c_Law_law 691 = .ok (.if_icmp .eq 5, 3) := by decide +kernel
theorem d_Law_law_694 : decode c_Law_law 694 = .ok (.iconst 0, 1) := by decide +kernel
theorem d_Law_law_695 : decode c_Law_law 695 = .ok (.ireturn, 1) := by decide +kernel
theorem d_Law_law_696 : decode c_Law_law 696 = .ok (.iload 5, 2) := by decide +kernel
theorem d_Law_law_698 : decode c_Law_law 698 = .ok (.ifCond .ne 22, 3) := by decide +kernel
theorem d_Law_law_701 : decode c_Law_law 701 = .ok (.aload_n 3, 1) := by decide +kernel
theorem d_Law_law_702 : decode c_Law_law 702 = .ok (.iconst 0, 1) := by decide +kernel
theorem d_Law_law_703 : decode c_Law_law 703 = .ok (.laload, 1) := by decide +kernel
theorem d_Law_law_704 : decode c_Law_law 704 = .ok (.iload 6, 2) := by decide +kernel
theorem d_Law_law_706 : decode c_Law_law 706 = .ok (.ifCond .eq 7, 3) := by decide +kernel
theorem d_Law_law_709 : decode c_Law_law 709 = .ok (.lconst 1, 1) := by decide +kernel
theorem d_Law_law_710 : decode c_Law_law 710 = .ok (.goto 4, 3) := by decide +kernel
theorem d_Law_law_713 : decode c_Law_law 713 = .ok (.lconst 0, 1) := by decide +kernel
theorem d_Law_law_714 : decode c_Law_law 714 = .ok (.lcmp, 1) := by decide +kernel
theorem d_Law_law_715 : decode c_Law_law 715 = .ok (.ifCond .eq 5, 3) := by decide +kernel
theorem d_Law_law_718 : decode c_Law_law 718 = .ok (.iconst 0, 1) := by decide +kernel
theorem d_Law_law_719 : decode c_Law_law 719 = .ok (.ireturn, 1) := by decide +kernel
theorem d_Law_law_720 : decode c_Law_law 720 = .ok (.goto 102, 3) := by decide +kernel
theorem d_Law_law_723 : decode c_Law_law 723 = .ok (.aload_n 1, 1) := by decide +kernel
theorem d_Law_law_724 : decode c_Law_law 724 = .ok (.aload_n 0, 1) := by decide +kernel
theorem d_Law_law_725 : decode c_Law_law 725 = .ok (.iload 4, 2) := by decide +kernel
theorem d_Law_law_727 : decode c_Law_law 727 = .ok (.iconst 1, 1) := by decide +kernel
theorem d_Law_law_728 : decode c_Law_law 728 = .ok (.iadd, 1) := by decide +kernel
theorem d_Law_law_729 : decode c_Law_law 729 = .ok (.iaload, 1) := by decide +kernel
theorem d_Law_law_730 : decode c_Law_law 730 = .ok (.i2l, 1) := by decide +kernel
theorem d_Law_law_731 : decode c_Law_law 731 = .ok (.bipush 32, 2) := by decide +kernel
theorem d_Law_law_733 : decode c_Law_law 733 = .ok (.lshl, 1) := by decide +kernel
theorem d_Law_law_734 : decode c_Law_law 734 = .ok (.aload_n 0, 1) := by decide +kernel
theorem d_Law_law_735 : decode c_Law_law 735 = .ok (.iload 4, 2) := by decide +kernel
theorem d_Law_law_737 : decode c_Law_law 737 = .ok (.iconst 2, 1) := by decide +kernel
theorem d_Law_law_738 : decode c_Law_law 738 = .ok (.iadd, 1) := by decide +kernel
theorem d_Law_law_739 : decode c_Law_law 739 = .ok (.iaload, 1) := by decide +kernel
theorem d_Law_law_740 : decode c_Law_law 740 = .ok (.i2l, 1) := by decide +kernel
theorem d_Law_law_741 : decode c_Law_law 741 = .ok (.ldc2_w 118, 3) := by decide +kernel
theorem d_Law_law_744 : decode c_Law_law 744 = .ok (.land, 1) := by decide +kernel
theorem d_Law_law_745 : decode c_Law_law 745 = .ok (.lor, 1) := by decide +kernel
theorem d_Law_law_746 : decode c_Law_law 746 = .ok (.aload_n 0, 1) := by decide +kernel
theorem d_Law_law_747 : decode c_Law_law 747 = .ok (.iload 4, 2) := by decide +kernel
theorem d_Law_law_749 : decode c_Law_law 749 = .ok (.iconst 3, 1) := by decide +kernel
theorem d_Law_law_750 : decode c_Law_law 750 = .ok (.iadd, 1) := by decide +kernel
theorem d_Law_law_751 : decode c_Law_law 751 = .ok (.iaload, 1) := by decide +kernel
theorem d_Law_law_752 : decode c_Law_law 752 = .ok (.aload_n 3, 1) := by decide +kernel
theorem d_Law_law_753 : decode c_Law_law 753 = .ok (.invokestatic 120, 3) := by decide +kernel
theorem d_Law_law_756 : decode c_Law_law 756 = .ok (.istore 5, 2) := by decide +kernel
theorem d_Law_law_758 : decode c_Law_law 758 = .ok (.aload_n 2, 1) := by decide +kernel
theorem d_Law_law_759 : decode c_Law_law 759 = .ok (.aload_n 0, 1) := by decide +kernel
theorem d_Law_law_760 : decode c_Law_law 760 = .ok (.iload 4, 2) := by decide +kernel
theorem d_Law_law_762 : decode c_Law_law 762 = .ok (.iconst 1, 1) := by decide +kernel
theorem d_Law_law_763 : decode c_Law_law 763 = .ok (.iadd, 1) := by decide +kernel
theorem d_Law_law_764 : decode c_Law_law 764 = .ok (.iaload, 1) := by decide +kernel
theorem d_Law_law_765 : decode c_Law_law 765 = .ok (.i2l, 1) := by decide +kernel
theorem d_Law_law_766 : decode c_Law_law 766 = .ok (.bipush 32, 2) := by decide +kernel
theorem d_Law_law_768 : decode c_Law_law 768 = .ok (.lshl, 1) := by decide +kernel
theorem d_Law_law_769 : decode c_Law_law 769 = .ok (.aload_n 0, 1) := by decide +kernel
theorem d_Law_law_770 : decode c_Law_law 770 = .ok (.iload 4, 2) := by decide +kernel
theorem d_Law_law_772 : decode c_Law_law 772 = .ok (.iconst 2, 1) := by decide +kernel
theorem d_Law_law_773 : decode c_Law_law 773 = .ok (.iadd, 1) := by decide +kernel
theorem d_Law_law_774 : decode c_Law_law 774 = .ok (.iaload, 1) := by decide +kernel
theorem d_Law_law_775 : decode c_Law_law 775 = .ok (.i2l, 1) := by decide +kernel
theorem d_Law_law_776 : decode c_Law_law 776 = .ok (.ldc2_w 118, 3) := by decide +kernel
theorem d_Law_law_779 : decode c_Law_law 779 = .ok (.land, 1) := by decide +kernel
theorem d_Law_law_780 : decode c_Law_law 780 = .ok (.lor, 1) := by decide +kernel
theorem d_Law_law_781 : decode c_Law_law 781 = .ok (.aload_n 0, 1) := by decide +kernel
theorem d_Law_law_782 : decode c_Law_law 782 = .ok (.iload 4, 2) := by decide +kernel
theorem d_Law_law_784 : decode c_Law_law 784 = .ok (.iconst 3, 1) := by decide +kernel
theorem d_Law_law_785 : decode c_Law_law 785 = .ok (.iadd, 1) := by decide +kernel
theorem d_Law_law_786 : decode c_Law_law 786 = .ok (.iaload, 1) := by decide +kernel
theorem d_Law_law_787 : decode c_Law_law 787 = .ok (.invokevirtual 123, 3) := by decide +kernel
theorem d_Law_law_790 : decode c_Law_law 790 = .ok (.lstore 6, 2) := by decide +kernel
theorem d_Law_law_792 : decode c_Law_law 792 = .ok (.aload_n 2, 1) := by decide +kernel
theorem d_Law_law_793 : decode c_Law_law 793 = .ok (.invokevirtual 65, 3) := by decide +kernel
theorem d_Law_law_796 : decode c_Law_law 796 = .ok (.iload 5, 2) := by decide +kernel
theorem d_Law_law_798 : decode c_Law_law 798 = .ok (.if_icmp .eq 5, 3) := by decide +kernel
theorem d_Law_law_801 : decode c_Law_law 801 = .ok (.iconst 0, 1) := by decide +kernel
theorem d_Law_law_802 : decode c_Law_law 802 = .ok (.ireturn, 1) := by decide +kernel
theorem d_Law_law_803 : decode c_Law_law 803 = .ok (.iload 5, 2) := by decide +kernel
theorem d_Law_law_805 : decode c_Law_law 805 = .ok (.ifCond .ne 14, 3) := by decide +kernel
theorem d_Law_law_808 : decode c_Law_law 808 = .ok (.aload_n 3, 1) := by decide +kernel
theorem d_Law_law_809 : decode c_Law_law 809 = .ok (.iconst 0, 1) := by decide +kernel
theorem d_Law_law_810 : decode c_Law_law 810 = .ok (.laload, 1) := by decide +kernel
theorem d_Law_law_811 : decode c_Law_law 811 = .ok (.lload 6, 2) := by decide +kernel
theorem d_Law_law_813 : decode c_Law_law 813 = .ok (.lcmp, 1) := by decide +kernel
theorem d_Law_law_814 : decode c_Law_law 814 = .ok (.ifCond .eq 5, 3) := by decide +kernel
theorem d_Law_law_817 : decode c_Law_law 817 = .ok (.iconst 0, 1) := by decide +kernel
theorem d_Law_law_818 : decode c_Law_law 818 = .ok (.ireturn, 1) := by decide +kernel
theorem d_Law_law_819 : decode c_Law_law 819 = .ok (.goto 3, 3) := by decide +kernel
theorem d_Law_law_822 : decode c_Law_law 822 = .ok (.iinc 4 4, 3) := by decide +kernel
theorem d_Law_law_825 : decode c_Law_law 825 = .ok (.goto (-802), 3) := by decide +kernel
theorem d_Law_law_828 : decode c_Law_law 828 = .ok (.iconst 1, 1) := by decide +kernel
theorem d_Law_law_829 : decode c_Law_law 829 = .ok (.ireturn, 1) := by decide +kernel
theorem g_633 : jG (Jvm.Cond.methodLink "FactorDeskLaw" (59 : Nat) ({ cls := "FactorDeskLaw", name := "put", desc := "(LFactorDesk;I[J)I" } : Jvm.MethodName)) := jG_of 698 (by decide +kernel) (by decide +kernel)
theorem g_635 : jG (Jvm.Cond.codeWith ({ cls := "FactorDeskLaw", name := "put", desc := "(LFactorDesk;I[J)I" } : Jvm.MethodName) method_3_code (4 : Nat) (Option.some Jvm.ClassFile.FieldType.int) [((0 : Nat), (9 : Nat), (12 : Nat), (13 : Nat))]) := jG_of 700 (by decide +kernel) (by decide +kernel)
theorem g_0 : jG (Jvm.Cond.initialized "FactorDeskLaw") := jG_of 65 (by decide +kernel) (by decide +kernel)
theorem g_634 : jG (Jvm.Cond.static ({ cls := "FactorDeskLaw", name := "put", desc := "(LFactorDesk;I[J)I" } : Jvm.MethodName)) := jG_of 699 (by decide +kernel) (by decide +kernel)
theorem g_966 : jG (Jvm.Cond.methodLink "FactorDeskLaw" (64 : Nat) ({ cls := "FactorDeskModel", name := "put", desc := "(I)I" } : Jvm.MethodName)) := jG_of 1031 (by decide +kernel) (by decide +kernel)
theorem g_969 : jG (Jvm.Cond.code ({ cls := "FactorDeskModel", name := "put", desc := "(I)I" } : Jvm.MethodName) prog_11_method_49_code (2 : Nat) (Option.some Jvm.ClassFile.FieldType.int)) := jG_of 1034 (by decide +kernel) (by decide +kernel)
theorem g_967 : jG (Jvm.Cond.instanceMethod ({ cls := "FactorDeskModel", name := "put", desc := "(I)I" } : Jvm.MethodName)) := jG_of 1032 (by decide +kernel) (by decide +kernel)
theorem g_968 : jG (Jvm.Cond.selects "FactorDeskModel" ({ cls := "FactorDeskModel", name := "put", desc := "(I)I" } : Jvm.MethodName) ({ cls := "FactorDeskModel", name := "put", desc := "(I)I" } : Jvm.MethodName)) := jG_of 1033 (by decide +kernel) (by decide +kernel)
theorem g_962 : jG (Jvm.Cond.methodLink "FactorDeskLaw" (65 : Nat) ({ cls := "FactorDeskModel", name := "thrown", desc := "()I" } : Jvm.MethodName)) := jG_of 1027 (by decide +kernel) (by decide +kernel)
theorem g_965 : jG (Jvm.Cond.code ({ cls := "FactorDeskModel", name := "thrown", desc := "()I" } : Jvm.MethodName) prog_11_method_2_code (1 : Nat) (Option.some Jvm.ClassFile.FieldType.int)) := jG_of 1030 (by decide +kernel) (by decide +kernel)
theorem g_963 : jG (Jvm.Cond.instanceMethod ({ cls := "FactorDeskModel", name := "thrown", desc := "()I" } : Jvm.MethodName)) := jG_of 1028 (by decide +kernel) (by decide +kernel)
theorem g_964 : jG (Jvm.Cond.selects "FactorDeskModel" ({ cls := "FactorDeskModel", name := "thrown", desc := "()I" } : Jvm.MethodName) ({ cls := "FactorDeskModel", name := "thrown", desc := "()I" } : Jvm.MethodName)) := jG_of 1029 (by decide +kernel) (by decide +kernel)
theorem g_335 : jG (Jvm.Cond.methodLink "FactorDeskLaw" (68 : Nat) ({ cls := "FactorDesk", name := "clear", desc := "()I" } : Jvm.MethodName)) := jG_of 400 (by decide +kernel) (by decide +kernel)
theorem g_338 : jG (Jvm.Cond.code ({ cls := "FactorDesk", name := "clear", desc := "()I" } : Jvm.MethodName) prog_1_method_3_code (2 : Nat) (Option.some Jvm.ClassFile.FieldType.int)) := jG_of 403 (by decide +kernel) (by decide +kernel)
theorem g_336 : jG (Jvm.Cond.instanceMethod ({ cls := "FactorDesk", name := "clear", desc := "()I" } : Jvm.MethodName)) := jG_of 401 (by decide +kernel) (by decide +kernel)
theorem g_337 : jG (Jvm.Cond.selects "FactorDesk" ({ cls := "FactorDesk", name := "clear", desc := "()I" } : Jvm.MethodName) ({ cls := "FactorDesk", name := "clear", desc := "()I" } : Jvm.MethodName)) := jG_of 402 (by decide +kernel) (by decide +kernel)
theorem g_974 : jG (Jvm.Cond.methodLink "FactorDeskLaw" (71 : Nat) ({ cls := "FactorDeskModel", name := "clear", desc := "()I" } : Jvm.MethodName)) := jG_of 1039 (by decide +kernel) (by decide +kernel)
theorem g_977 : jG (Jvm.Cond.code ({ cls := "FactorDeskModel", name := "clear", desc := "()I" } : Jvm.MethodName) prog_11_method_50_code (2 : Nat) (Option.some Jvm.ClassFile.FieldType.int)) := jG_of 1042 (by decide +kernel) (by decide +kernel)
theorem g_975 : jG (Jvm.Cond.instanceMethod ({ cls := "FactorDeskModel", name := "clear", desc := "()I" } : Jvm.MethodName)) := jG_of 1040 (by decide +kernel) (by decide +kernel)
theorem g_976 : jG (Jvm.Cond.selects "FactorDeskModel" ({ cls := "FactorDeskModel", name := "clear", desc := "()I" } : Jvm.MethodName) ({ cls := "FactorDeskModel", name := "clear", desc := "()I" } : Jvm.MethodName)) := jG_of 1041 (by decide +kernel) (by decide +kernel)
theorem g_709 : jG (Jvm.Cond.methodLink "FactorDeskLaw" (72 : Nat) ({ cls := "FactorDeskLaw", name := "take", desc := "(LFactorDesk;[J)I" } : Jvm.MethodName)) := jG_of 774 (by decide +kernel) (by decide +kernel)
theorem g_711 : jG (Jvm.Cond.codeWith ({ cls := "FactorDeskLaw", name := "take", desc := "(LFactorDesk;[J)I" } : Jvm.MethodName) method_4_code (3 : Nat) (Option.some Jvm.ClassFile.FieldType.int) [((0 : Nat), (8 : Nat), (11 : Nat), (19 : Nat))]) := jG_of 776 (by decide +kernel) (by decide +kernel)
theorem g_710 : jG (Jvm.Cond.static ({ cls := "FactorDeskLaw", name := "take", desc := "(LFactorDesk;[J)I" } : Jvm.MethodName)) := jG_of 775 (by decide +kernel) (by decide +kernel)
theorem g_978 : jG (Jvm.Cond.methodLink "FactorDeskLaw" (75 : Nat) ({ cls := "FactorDeskModel", name := "take", desc := "()I" } : Jvm.MethodName)) := jG_of 1043 (by decide +kernel) (by decide +kernel)
theorem g_981 : jG (Jvm.Cond.code ({ cls := "FactorDeskModel", name := "take", desc := "()I" } : Jvm.MethodName) prog_11_method_52_code (3 : Nat) (Option.some Jvm.ClassFile.FieldType.int)) := jG_of 1046 (by decide +kernel) (by decide +kernel)
theorem g_979 : jG (Jvm.Cond.instanceMethod ({ cls := "FactorDeskModel", name := "take", desc := "()I" } : Jvm.MethodName)) := jG_of 1044 (by decide +kernel) (by decide +kernel)
theorem g_980 : jG (Jvm.Cond.selects "FactorDeskModel" ({ cls := "FactorDeskModel", name := "take", desc := "()I" } : Jvm.MethodName) ({ cls := "FactorDeskModel", name := "take", desc := "()I" } : Jvm.MethodName)) := jG_of 1045 (by decide +kernel) (by decide +kernel)
theorem g_745 : jG (Jvm.Cond.methodLink "FactorDeskLaw" (76 : Nat) ({ cls := "FactorDeskLaw", name := "times", desc := "(LFactorDesk;[J)I" } : Jvm.MethodName)) := jG_of 810 (by decide +kernel) (by decide +kernel)
theorem g_747 : jG (Jvm.Cond.codeWith ({ cls := "FactorDeskLaw", name := "times", desc := "(LFactorDesk;[J)I" } : Jvm.MethodName) method_5_code (3 : Nat) (Option.some Jvm.ClassFile.FieldType.int) [((0 : Nat), (8 : Nat), (11 : Nat), (19 : Nat)), ((0 : Nat), (8 : Nat), (14 : Nat), (13 : Nat))]) := jG_of 812 (by decide +kernel) (by decide +kernel)
theorem g_746 : jG (Jvm.Cond.static ({ cls := "FactorDeskLaw", name := "times", desc := "(LFactorDesk;[J)I" } : Jvm.MethodName)) := jG_of 811 (by decide +kernel) (by decide +kernel)
theorem g_986 : jG (Jvm.Cond.methodLink "FactorDeskLaw" (78 : Nat) ({ cls := "FactorDeskModel", name := "times", desc := "()I" } : Jvm.MethodName)) := jG_of 1051 (by decide +kernel) (by decide +kernel)
theorem g_989 : jG (Jvm.Cond.code ({ cls := "FactorDeskModel", name := "times", desc := "()I" } : Jvm.MethodName) prog_11_method_53_code (11 : Nat) (Option.some Jvm.ClassFile.FieldType.int)) := jG_of 1054 (by decide +kernel) (by decide +kernel)
theorem g_987 : jG (Jvm.Cond.instanceMethod ({ cls := "FactorDeskModel", name := "times", desc := "()I" } : Jvm.MethodName)) := jG_of 1052 (by decide +kernel) (by decide +kernel)
theorem g_988 : jG (Jvm.Cond.selects "FactorDeskModel" ({ cls := "FactorDeskModel", name := "times", desc := "()I" } : Jvm.MethodName) ({ cls := "FactorDeskModel", name := "times", desc := "()I" } : Jvm.MethodName)) := jG_of 1053 (by decide +kernel) (by decide +kernel)
theorem g_815 : jG (Jvm.Cond.methodLink "FactorDeskLaw" (109 : Nat) ({ cls := "FactorDeskLaw", name := "common", desc := "(LFactorDesk;[J)I" } : Jvm.MethodName)) := jG_of 880 (by decide +kernel) (by decide +kernel)
theorem g_817 : jG (Jvm.Cond.codeWith ({ cls := "FactorDeskLaw", name := "common", desc := "(LFactorDesk;[J)I" } : Jvm.MethodName) method_10_code (3 : Nat) (Option.some Jvm.ClassFile.FieldType.int) [((0 : Nat), (8 : Nat), (11 : Nat), (19 : Nat))]) := jG_of 882 (by decide +kernel) (by decide +kernel)
theorem g_816 : jG (Jvm.Cond.static ({ cls := "FactorDeskLaw", name := "common", desc := "(LFactorDesk;[J)I" } : Jvm.MethodName)) := jG_of 881 (by decide +kernel) (by decide +kernel)
theorem g_1206 : jG (Jvm.Cond.methodLink "FactorDeskLaw" (111 : Nat) ({ cls := "FactorDeskModel", name := "common", desc := "()I" } : Jvm.MethodName)) := jG_of 1271 (by decide +kernel) (by decide +kernel)
theorem g_1209 : jG (Jvm.Cond.code ({ cls := "FactorDeskModel", name := "common", desc := "()I" } : Jvm.MethodName) prog_11_method_62_code (6 : Nat) (Option.some Jvm.ClassFile.FieldType.int)) := jG_of 1274 (by decide +kernel) (by decide +kernel)
theorem g_1207 : jG (Jvm.Cond.instanceMethod ({ cls := "FactorDeskModel", name := "common", desc := "()I" } : Jvm.MethodName)) := jG_of 1272 (by decide +kernel) (by decide +kernel)
theorem g_1208 : jG (Jvm.Cond.selects "FactorDeskModel" ({ cls := "FactorDeskModel", name := "common", desc := "()I" } : Jvm.MethodName) ({ cls := "FactorDeskModel", name := "common", desc := "()I" } : Jvm.MethodName)) := jG_of 1273 (by decide +kernel) (by decide +kernel)
theorem g_831 : jG (Jvm.Cond.methodLink "FactorDeskLaw" (115 : Nat) ({ cls := "FactorDeskLaw", name := "divides", desc := "(LFactorDesk;[J)I" } : Jvm.MethodName)) := jG_of 896 (by decide +kernel) (by decide +kernel)
theorem g_833 : jG (Jvm.Cond.codeWith ({ cls := "FactorDeskLaw", name := "divides", desc := "(LFactorDesk;[J)I" } : Jvm.MethodName) method_12_code (3 : Nat) (Option.some Jvm.ClassFile.FieldType.int) [((0 : Nat), (15 : Nat), (18 : Nat), (19 : Nat))]) := jG_of 898 (by decide +kernel) (by decide +kernel)
theorem g_832 : jG (Jvm.Cond.static ({ cls := "FactorDeskLaw", name := "divides", desc := "(LFactorDesk;[J)I" } : Jvm.MethodName)) := jG_of 897 (by decide +kernel) (by decide +kernel)
theorem g_1214 : jG (Jvm.Cond.methodLink "FactorDeskLaw" (117 : Nat) ({ cls := "FactorDeskModel", name := "divides", desc := "()Z" } : Jvm.MethodName)) := jG_of 1279 (by decide +kernel) (by decide +kernel)
theorem g_1217 : jG (Jvm.Cond.code ({ cls := "FactorDeskModel", name := "divides", desc := "()Z" } : Jvm.MethodName) prog_11_method_64_code (3 : Nat) (Option.some Jvm.ClassFile.FieldType.boolean)) := jG_of 1282 (by decide +kernel) (by decide +kernel)
theorem g_1215 : jG (Jvm.Cond.instanceMethod ({ cls := "FactorDeskModel", name := "divides", desc := "()Z" } : Jvm.MethodName)) := jG_of 1280 (by decide +kernel) (by decide +kernel)
theorem g_1216 : jG (Jvm.Cond.selects "FactorDeskModel" ({ cls := "FactorDeskModel", name := "divides", desc := "()Z" } : Jvm.MethodName) ({ cls := "FactorDeskModel", name := "divides", desc := "()Z" } : Jvm.MethodName)) := jG_of 1281 (by decide +kernel) (by decide +kernel)
theorem g_339 : jG (Jvm.Cond.methodLink "FactorDeskLaw" (82 : Nat) ({ cls := "FactorDesk", name := "degree", desc := "()I" } : Jvm.MethodName)) := jG_of 404 (by decide +kernel) (by decide +kernel)
theorem g_342 : jG (Jvm.Cond.code ({ cls := "FactorDesk", name := "degree", desc := "()I" } : Jvm.MethodName) prog_1_method_7_code (1 : Nat) (Option.some Jvm.ClassFile.FieldType.int)) := jG_of 407 (by decide +kernel) (by decide +kernel)
theorem g_340 : jG (Jvm.Cond.instanceMethod ({ cls := "FactorDesk", name := "degree", desc := "()I" } : Jvm.MethodName)) := jG_of 405 (by decide +kernel) (by decide +kernel)
theorem g_341 : jG (Jvm.Cond.selects "FactorDesk" ({ cls := "FactorDesk", name := "degree", desc := "()I" } : Jvm.MethodName) ({ cls := "FactorDesk", name := "degree", desc := "()I" } : Jvm.MethodName)) := jG_of 406 (by decide +kernel) (by decide +kernel)
theorem g_998 : jG (Jvm.Cond.methodLink "FactorDeskLaw" (85 : Nat) ({ cls := "FactorDeskModel", name := "degree", desc := "()I" } : Jvm.MethodName)) := jG_of 1063 (by decide +kernel) (by decide +kernel)
theorem g_1001 : jG (Jvm.Cond.code ({ cls := "FactorDeskModel", name := "degree", desc := "()I" } : Jvm.MethodName) prog_11_method_55_code (1 : Nat) (Option.some Jvm.ClassFile.FieldType.int)) := jG_of 1066 (by decide +kernel) (by decide +kernel)
theorem g_999 : jG (Jvm.Cond.instanceMethod ({ cls := "FactorDeskModel", name := "degree", desc := "()I" } : Jvm.MethodName)) := jG_of 1064 (by decide +kernel) (by decide +kernel)
theorem g_1000 : jG (Jvm.Cond.selects "FactorDeskModel" ({ cls := "FactorDeskModel", name := "degree", desc := "()I" } : Jvm.MethodName) ({ cls := "FactorDeskModel", name := "degree", desc := "()I" } : Jvm.MethodName)) := jG_of 1065 (by decide +kernel) (by decide +kernel)
theorem g_343 : jG (Jvm.Cond.methodLink "FactorDeskLaw" (86 : Nat) ({ cls := "FactorDesk", name := "content", desc := "()J" } : Jvm.MethodName)) := jG_of 408 (by decide +kernel) (by decide +kernel)
theorem g_1002 : jG (Jvm.Cond.methodLink "FactorDeskLaw" (90 : Nat) ({ cls := "FactorDeskModel", name := "content", desc := "()J" } : Jvm.MethodName)) := jG_of 1067 (by decide +kernel) (by decide +kernel)
theorem g_1005 : jG (Jvm.Cond.code ({ cls := "FactorDeskModel", name := "content", desc := "()J" } : Jvm.MethodName) prog_11_method_56_code (1 : Nat) (Option.some Jvm.ClassFile.FieldType.long)) := jG_of 1070 (by decide +kernel) (by decide +kernel)
theorem g_1003 : jG (Jvm.Cond.instanceMethod ({ cls := "FactorDeskModel", name := "content", desc := "()J" } : Jvm.MethodName)) := jG_of 1068 (by decide +kernel) (by decide +kernel)
theorem g_1004 : jG (Jvm.Cond.selects "FactorDeskModel" ({ cls := "FactorDeskModel", name := "content", desc := "()J" } : Jvm.MethodName) ({ cls := "FactorDeskModel", name := "content", desc := "()J" } : Jvm.MethodName)) := jG_of 1069 (by decide +kernel) (by decide +kernel)
theorem g_358 : jG (Jvm.Cond.methodLink "FactorDeskLaw" (91 : Nat) ({ cls := "FactorDesk", name := "factors", desc := "()I" } : Jvm.MethodName)) := jG_of 423 (by decide +kernel) (by decide +kernel)
theorem g_361 : jG (Jvm.Cond.code ({ cls := "FactorDesk", name := "factors", desc := "()I" } : Jvm.MethodName) prog_1_method_9_code (1 : Nat) (Option.some Jvm.ClassFile.FieldType.int)) := jG_of 426 (by decide +kernel) (by decide +kernel)
theorem g_359 : jG (Jvm.Cond.instanceMethod ({ cls := "FactorDesk", name := "factors", desc := "()I" } : Jvm.MethodName)) := jG_of 424 (by decide +kernel) (by decide +kernel)
theorem g_360 : jG (Jvm.Cond.selects "FactorDesk" ({ cls := "FactorDesk", name := "factors", desc := "()I" } : Jvm.MethodName) ({ cls := "FactorDesk", name := "factors", desc := "()I" } : Jvm.MethodName)) := jG_of 425 (by decide +kernel) (by decide +kernel)
theorem g_1012 : jG (Jvm.Cond.methodLink "FactorDeskLaw" (94 : Nat) ({ cls := "FactorDeskModel", name := "factors", desc := "()I" } : Jvm.MethodName)) := jG_of 1077 (by decide +kernel) (by decide +kernel)
theorem g_1015 : jG (Jvm.Cond.code ({ cls := "FactorDeskModel", name := "factors", desc := "()I" } : Jvm.MethodName) prog_11_method_57_code (2 : Nat) (Option.some Jvm.ClassFile.FieldType.int)) := jG_of 1080 (by decide +kernel) (by decide +kernel)
theorem g_1013 : jG (Jvm.Cond.instanceMethod ({ cls := "FactorDeskModel", name := "factors", desc := "()I" } : Jvm.MethodName)) := jG_of 1078 (by decide +kernel) (by decide +kernel)
theorem g_1014 : jG (Jvm.Cond.selects "FactorDeskModel" ({ cls := "FactorDeskModel", name := "factors", desc := "()I" } : Jvm.MethodName) ({ cls := "FactorDeskModel", name := "factors", desc := "()I" } : Jvm.MethodName)) := jG_of 1079 (by decide +kernel) (by decide +kernel)
theorem g_628 : jG (Jvm.Cond.methodLink "FactorDeskLaw" (102 : Nat) ({ cls := "FactorDesk", name := "isIrreducible", desc := "()Z" } : Jvm.MethodName)) := jG_of 693 (by decide +kernel) (by decide +kernel)
theorem g_631 : jG (Jvm.Cond.code ({ cls := "FactorDesk", name := "isIrreducible", desc := "()Z" } : Jvm.MethodName) prog_1_method_12_code (1 : Nat) (Option.some Jvm.ClassFile.FieldType.boolean)) := jG_of 696 (by decide +kernel) (by decide +kernel)
theorem g_629 : jG (Jvm.Cond.instanceMethod ({ cls := "FactorDesk", name := "isIrreducible", desc := "()Z" } : Jvm.MethodName)) := jG_of 694 (by decide +kernel) (by decide +kernel)
theorem g_630 : jG (Jvm.Cond.selects "FactorDesk" ({ cls := "FactorDesk", name := "isIrreducible", desc := "()Z" } : Jvm.MethodName) ({ cls := "FactorDesk", name := "isIrreducible", desc := "()Z" } : Jvm.MethodName)) := jG_of 695 (by decide +kernel) (by decide +kernel)
theorem g_1198 : jG (Jvm.Cond.methodLink "FactorDeskLaw" (105 : Nat) ({ cls := "FactorDeskModel", name := "isIrreducible", desc := "()Z" } : Jvm.MethodName)) := jG_of 1263 (by decide +kernel) (by decide +kernel)
theorem g_1201 : jG (Jvm.Cond.code ({ cls := "FactorDeskModel", name := "isIrreducible", desc := "()Z" } : Jvm.MethodName) prog_11_method_60_code (1 : Nat) (Option.some Jvm.ClassFile.FieldType.boolean)) := jG_of 1266 (by decide +kernel) (by decide +kernel)
theorem g_1199 : jG (Jvm.Cond.instanceMethod ({ cls := "FactorDeskModel", name := "isIrreducible", desc := "()Z" } : Jvm.MethodName)) := jG_of 1264 (by decide +kernel) (by decide +kernel)
theorem g_1200 : jG (Jvm.Cond.selects "FactorDeskModel" ({ cls := "FactorDeskModel", name := "isIrreducible", desc := "()Z" } : Jvm.MethodName) ({ cls := "FactorDeskModel", name := "isIrreducible", desc := "()Z" } : Jvm.MethodName)) := jG_of 1265 (by decide +kernel) (by decide +kernel)
theorem g_763 : jG (Jvm.Cond.methodLink "FactorDeskLaw" (79 : Nat) ({ cls := "FactorDeskLaw", name := "at", desc := "(LFactorDesk;I[J)I" } : Jvm.MethodName)) := jG_of 828 (by decide +kernel) (by decide +kernel)
theorem g_765 : jG (Jvm.Cond.codeWith ({ cls := "FactorDeskLaw", name := "at", desc := "(LFactorDesk;I[J)I" } : Jvm.MethodName) method_6_code (4 : Nat) (Option.some Jvm.ClassFile.FieldType.int) [((0 : Nat), (9 : Nat), (12 : Nat), (19 : Nat))]) := jG_of 830 (by decide +kernel) (by decide +kernel)
theorem g_764 : jG (Jvm.Cond.static ({ cls := "FactorDeskLaw", name := "at", desc := "(LFactorDesk;I[J)I" } : Jvm.MethodName)) := jG_of 829 (by decide +kernel) (by decide +kernel)
theorem g_994 : jG (Jvm.Cond.methodLink "FactorDeskLaw" (81 : Nat) ({ cls := "FactorDeskModel", name := "at", desc := "(I)I" } : Jvm.MethodName)) := jG_of 1059 (by decide +kernel) (by decide +kernel)
theorem g_997 : jG (Jvm.Cond.code ({ cls := "FactorDeskModel", name := "at", desc := "(I)I" } : Jvm.MethodName) prog_11_method_54_code (2 : Nat) (Option.some Jvm.ClassFile.FieldType.int)) := jG_of 1062 (by decide +kernel) (by decide +kernel)
theorem g_995 : jG (Jvm.Cond.instanceMethod ({ cls := "FactorDeskModel", name := "at", desc := "(I)I" } : Jvm.MethodName)) := jG_of 1060 (by decide +kernel) (by decide +kernel)
theorem g_996 : jG (Jvm.Cond.selects "FactorDeskModel" ({ cls := "FactorDeskModel", name := "at", desc := "(I)I" } : Jvm.MethodName) ({ cls := "FactorDeskModel", name := "at", desc := "(I)I" } : Jvm.MethodName)) := jG_of 1061 (by decide +kernel) (by decide +kernel)
theorem g_803 : jG (Jvm.Cond.methodLink "FactorDeskLaw" (106 : Nat) ({ cls := "FactorDeskLaw", name := "ofDegree", desc := "(LFactorDesk;I[J)I" } : Jvm.MethodName)) := jG_of 868 (by decide +kernel) (by decide +kernel)
theorem g_805 : jG (Jvm.Cond.codeWith ({ cls := "FactorDeskLaw", name := "ofDegree", desc := "(LFactorDesk;I[J)I" } : Jvm.MethodName) method_9_code (4 : Nat) (Option.some Jvm.ClassFile.FieldType.int) [((0 : Nat), (9 : Nat), (12 : Nat), (19 : Nat))]) := jG_of 870 (by decide +kernel) (by decide +kernel)
theorem g_804 : jG (Jvm.Cond.static ({ cls := "FactorDeskLaw", name := "ofDegree", desc := "(LFactorDesk;I[J)I" } : Jvm.MethodName)) := jG_of 869 (by decide +kernel) (by decide +kernel)
theorem g_1202 : jG (Jvm.Cond.methodLink "FactorDeskLaw" (108 : Nat) ({ cls := "FactorDeskModel", name := "ofDegree", desc := "(I)I" } : Jvm.MethodName)) := jG_of 1267 (by decide +kernel) (by decide +kernel)
theorem g_1205 : jG (Jvm.Cond.code ({ cls := "FactorDeskModel", name := "ofDegree", desc := "(I)I" } : Jvm.MethodName) prog_11_method_61_code (4 : Nat) (Option.some Jvm.ClassFile.FieldType.int)) := jG_of 1270 (by decide +kernel) (by decide +kernel)
theorem g_1203 : jG (Jvm.Cond.instanceMethod ({ cls := "FactorDeskModel", name := "ofDegree", desc := "(I)I" } : Jvm.MethodName)) := jG_of 1268 (by decide +kernel) (by decide +kernel)
theorem g_1204 : jG (Jvm.Cond.selects "FactorDeskModel" ({ cls := "FactorDeskModel", name := "ofDegree", desc := "(I)I" } : Jvm.MethodName) ({ cls := "FactorDeskModel", name := "ofDegree", desc := "(I)I" } : Jvm.MethodName)) := jG_of 1269 (by decide +kernel) (by decide +kernel)
theorem g_771 : jG (Jvm.Cond.methodLink "FactorDeskLaw" (95 : Nat) ({ cls := "FactorDeskLaw", name := "factor", desc := "(LFactorDesk;II[J)I" } : Jvm.MethodName)) := jG_of 836 (by decide +kernel) (by decide +kernel)
theorem g_773 : jG (Jvm.Cond.codeWith ({ cls := "FactorDeskLaw", name := "factor", desc := "(LFactorDesk;II[J)I" } : Jvm.MethodName) method_7_code (5 : Nat) (Option.some Jvm.ClassFile.FieldType.int) [((0 : Nat), (10 : Nat), (13 : Nat), (31 : Nat))]) := jG_of 838 (by decide +kernel) (by decide +kernel)
theorem g_772 : jG (Jvm.Cond.static ({ cls := "FactorDeskLaw", name := "factor", desc := "(LFactorDesk;II[J)I" } : Jvm.MethodName)) := jG_of 837 (by decide +kernel) (by decide +kernel)
theorem g_1190 : jG (Jvm.Cond.methodLink "FactorDeskLaw" (98 : Nat) ({ cls := "FactorDeskModel", name := "factor", desc := "(II)I" } : Jvm.MethodName)) := jG_of 1255 (by decide +kernel) (by decide +kernel)
theorem g_1193 : jG (Jvm.Cond.code ({ cls := "FactorDeskModel", name := "factor", desc := "(II)I" } : Jvm.MethodName) prog_11_method_58_code (3 : Nat) (Option.some Jvm.ClassFile.FieldType.int)) := jG_of 1258 (by decide +kernel) (by decide +kernel)
theorem g_1191 : jG (Jvm.Cond.instanceMethod ({ cls := "FactorDeskModel", name := "factor", desc := "(II)I" } : Jvm.MethodName)) := jG_of 1256 (by decide +kernel) (by decide +kernel)
theorem g_1192 : jG (Jvm.Cond.selects "FactorDeskModel" ({ cls := "FactorDeskModel", name := "factor", desc := "(II)I" } : Jvm.MethodName) ({ cls := "FactorDeskModel", name := "factor", desc := "(II)I" } : Jvm.MethodName)) := jG_of 1257 (by decide +kernel) (by decide +kernel)
theorem g_795 : jG (Jvm.Cond.methodLink "FactorDeskLaw" (99 : Nat) ({ cls := "FactorDeskLaw", name := "part", desc := "(LFactorDesk;II[J)I" } : Jvm.MethodName)) := jG_of 860 (by decide +kernel) (by decide +kernel)
theorem g_797 : jG (Jvm.Cond.codeWith ({ cls := "FactorDeskLaw", name := "part", desc := "(LFactorDesk;II[J)I" } : Jvm.MethodName) method_8_code (5 : Nat) (Option.some Jvm.ClassFile.FieldType.int) [((0 : Nat), (9 : Nat), (12 : Nat), (31 : Nat))]) := jG_of 862 (by decide +kernel) (by decide +kernel)
theorem g_796 : jG (Jvm.Cond.static ({ cls := "FactorDeskLaw", name := "part", desc := "(LFactorDesk;II[J)I" } : Jvm.MethodName)) := jG_of 861 (by decide +kernel) (by decide +kernel)
theorem g_1194 : jG (Jvm.Cond.methodLink "FactorDeskLaw" (101 : Nat) ({ cls := "FactorDeskModel", name := "part", desc := "(II)J" } : Jvm.MethodName)) := jG_of 1259 (by decide +kernel) (by decide +kernel)
theorem g_1197 : jG (Jvm.Cond.code ({ cls := "FactorDeskModel", name := "part", desc := "(II)J" } : Jvm.MethodName) prog_11_method_59_code (3 : Nat) (Option.some Jvm.ClassFile.FieldType.long)) := jG_of 1262 (by decide +kernel) (by decide +kernel)
theorem g_1195 : jG (Jvm.Cond.instanceMethod ({ cls := "FactorDeskModel", name := "part", desc := "(II)J" } : Jvm.MethodName)) := jG_of 1260 (by decide +kernel) (by decide +kernel)
theorem g_1196 : jG (Jvm.Cond.selects "FactorDeskModel" ({ cls := "FactorDeskModel", name := "part", desc := "(II)J" } : Jvm.MethodName) ({ cls := "FactorDeskModel", name := "part", desc := "(II)J" } : Jvm.MethodName)) := jG_of 1261 (by decide +kernel) (by decide +kernel)
theorem g_823 : jG (Jvm.Cond.methodLink "FactorDeskLaw" (112 : Nat) ({ cls := "FactorDeskLaw", name := "divisor", desc := "(LFactorDesk;I[J)I" } : Jvm.MethodName)) := jG_of 888 (by decide +kernel) (by decide +kernel)
theorem g_825 : jG (Jvm.Cond.codeWith ({ cls := "FactorDeskLaw", name := "divisor", desc := "(LFactorDesk;I[J)I" } : Jvm.MethodName) method_11_code (4 : Nat) (Option.some Jvm.ClassFile.FieldType.int) [((0 : Nat), (8 : Nat), (11 : Nat), (31 : Nat))]) := jG_of 890 (by decide +kernel) (by decide +kernel)
theorem g_824 : jG (Jvm.Cond.static ({ cls := "FactorDeskLaw", name := "divisor", desc := "(LFactorDesk;I[J)I" } : Jvm.MethodName)) := jG_of 889 (by decide +kernel) (by decide +kernel)
theorem g_1210 : jG (Jvm.Cond.methodLink "FactorDeskLaw" (114 : Nat) ({ cls := "FactorDeskModel", name := "divisor", desc := "(I)J" } : Jvm.MethodName)) := jG_of 1275 (by decide +kernel) (by decide +kernel)
theorem g_1213 : jG (Jvm.Cond.code ({ cls := "FactorDeskModel", name := "divisor", desc := "(I)J" } : Jvm.MethodName) prog_11_method_63_code (2 : Nat) (Option.some Jvm.ClassFile.FieldType.long)) := jG_of 1278 (by decide +kernel) (by decide +kernel)
theorem g_1211 : jG (Jvm.Cond.instanceMethod ({ cls := "FactorDeskModel", name := "divisor", desc := "(I)J" } : Jvm.MethodName)) := jG_of 1276 (by decide +kernel) (by decide +kernel)
theorem g_1212 : jG (Jvm.Cond.selects "FactorDeskModel" ({ cls := "FactorDeskModel", name := "divisor", desc := "(I)J" } : Jvm.MethodName) ({ cls := "FactorDeskModel", name := "divisor", desc := "(I)J" } : Jvm.MethodName)) := jG_of 1277 (by decide +kernel) (by decide +kernel)
theorem g_1222 : jG (Jvm.Cond.constantLong "FactorDeskLaw" (118 : Nat) (4294967295 : Int64)) := jG_of 1287 (by decide +kernel) (by decide +kernel)
theorem g_840 : jG (Jvm.Cond.methodLink "FactorDeskLaw" (120 : Nat) ({ cls := "FactorDeskLaw", name := "value", desc := "(LFactorDesk;JI[J)I" } : Jvm.MethodName)) := jG_of 905 (by decide +kernel) (by decide +kernel)
theorem g_842 : jG (Jvm.Cond.codeWith ({ cls := "FactorDeskLaw", name := "value", desc := "(LFactorDesk;JI[J)I" } : Jvm.MethodName) method_13_code (6 : Nat) (Option.some Jvm.ClassFile.FieldType.int) [((0 : Nat), (10 : Nat), (13 : Nat), (19 : Nat))]) := jG_of 907 (by decide +kernel) (by decide +kernel)
theorem g_841 : jG (Jvm.Cond.static ({ cls := "FactorDeskLaw", name := "value", desc := "(LFactorDesk;JI[J)I" } : Jvm.MethodName)) := jG_of 906 (by decide +kernel) (by decide +kernel)
theorem g_1218 : jG (Jvm.Cond.methodLink "FactorDeskLaw" (123 : Nat) ({ cls := "FactorDeskModel", name := "value", desc := "(JI)J" } : Jvm.MethodName)) := jG_of 1283 (by decide +kernel) (by decide +kernel)
theorem g_1221 : jG (Jvm.Cond.code ({ cls := "FactorDeskModel", name := "value", desc := "(JI)J" } : Jvm.MethodName) prog_11_method_65_code (9 : Nat) (Option.some Jvm.ClassFile.FieldType.long)) := jG_of 1286 (by decide +kernel) (by decide +kernel)
theorem g_1219 : jG (Jvm.Cond.instanceMethod ({ cls := "FactorDeskModel", name := "value", desc := "(JI)J" } : Jvm.MethodName)) := jG_of 1284 (by decide +kernel) (by decide +kernel)
theorem g_1220 : jG (Jvm.Cond.selects "FactorDeskModel" ({ cls := "FactorDeskModel", name := "value", desc := "(JI)J" } : Jvm.MethodName) ({ cls := "FactorDeskModel", name := "value", desc := "(JI)J" } : Jvm.MethodName)) := jG_of 1285 (by decide +kernel) (by decide +kernel)
set_option maxHeartbeats 4000000 in
set_option maxRecDepth 100000 in
theorem lc_put {b : Nat} {D : va_G} {Y : Nat → ClassId} {p : Program} {l : Launch} {e : Env} {s : State} {m : MethodId} {below : List Frame} {meth : Method} {c : Code} (Z : jS0 b D Y s) (xs : Nat → Int32) (hX : va_X b 4 xs s s.heap) (hbl : b < s.heap.size) (hlt : l.stackTraces = false) (d : Nat) (h : jH) (HD : jDesk Y h d) (HM : jModl Y h (d + 208)) (HR : h (d + 231) = some (.inl (Y 1, 1, .inr (.inl (fun _ => 0))))) : jW b D Y s p l e room_1 s m #[Value.ref b] below meth c "FactorDeskLaw" code 8 ret meth.name (lw_Z below #[Value.ref b] s) 116 [(4, .int 0), (3, .ref (d + 231)), (2, .ref (d + 208)), (1, .ref d), (0, .ref b)] [] h (d + 232) 232 14861 := by
  refine j_aload_n d_Law_law_116 3 rfl ?_
  refine j_aload_n d_Law_law_117 4 rfl ?_
  refine j_iload d_Law_law_118 0 rfl ?_
  refine j_iconst d_Law_law_120 (v := 1) (by decide) ?_
  refine j_iadd d_Law_law_121 ?_
  refine j_sld (v := xs 1) hX hbl (by unfold vp_in; decide) rfl d_Law_law_122 ?_
  refine j_aload_n d_Law_law_123 1 rfl ?_
  refine j_callSW (w_put l Z d (d + 231) _ _ HD (xs 1) _ (by omega) HR) ⟨⟨Nat.le_of_ble_eq_true rfl, Nat.le_of_ble_eq_true rfl⟩, g_633, g_635, g_0, (by decide +kernel), (by decide +kernel), (show _ = some 3 from by decide +kernel)⟩ g_634 ⟨Nat.le_of_ble_eq_true rfl, Nat.le_of_ble_eq_true rfl⟩ (Nat.le_of_ble_eq_true rfl) d_Law_law_124 (fun r1 h1 n1 P1 => ?_)
  obtain ⟨rfl, rfl, O1, F1⟩ := P1
  have HM1 := HM.keep (fun x h1 h2 => F1 x (by omega) (by omega))
  refine j_istore d_Law_law_127 (Nat.le_of_ble_eq_true rfl) rfl ?_
  refine j_aload_n d_Law_law_129 3 rfl ?_
  refine j_aload_n d_Law_law_130 5 rfl ?_
  refine j_iload d_Law_law_131 1 rfl ?_
  refine j_iconst d_Law_law_133 (v := 1) (by decide) ?_
  refine j_iadd d_Law_law_134 ?_
  refine j_sld (v := xs 1) hX hbl (by unfold vp_in; decide) rfl d_Law_law_135 ?_
  refine j_callV (m_put l Z (d + 208) _ _ HM1 (xs 1)) ⟨⟨Nat.le_of_ble_eq_true rfl, Nat.le_of_ble_eq_true rfl⟩, g_966, g_969, g_10, (by decide +kernel), (by decide +kernel), (show _ = some 1 from by decide +kernel)⟩ g_967 g_968 (ci := 9) rfl HM1.1 ⟨(by first | exact Nat.le_of_ble_eq_true rfl | (simp only [jrm]; omega)), (by first | exact Nat.le_of_ble_eq_true rfl | (simp only [jrm]; omega))⟩ (Nat.le_of_ble_eq_true rfl) d_Law_law_136 (fun r2 h2 n2 P2 => ?_)
  obtain ⟨rfl, rfl, ⟨fs2, O2⟩, F2⟩ := P2
  have R2 := (F2 (d + 231) (by omega)).trans O1
  refine j_istore d_Law_law_139 (Nat.le_of_ble_eq_true rfl) rfl ?_
  refine j_aload_n d_Law_law_141 4 rfl ?_
  refine j_callV (k_thrown l Z (d + 208) _ _ _ _ O2) ⟨⟨Nat.le_of_ble_eq_true rfl, Nat.le_of_ble_eq_true rfl⟩, g_962, g_965, g_10, by decide +kernel⟩ g_963 g_964 (ci := 9) rfl O2 ⟨(by first | exact Nat.le_of_ble_eq_true rfl | (simp only [jrm]; omega)), (by first | exact Nat.le_of_ble_eq_true rfl | (simp only [jrm]; omega))⟩ (Nat.le_of_ble_eq_true rfl) d_Law_law_142 (fun r3 h3 n3 P3 => ?_)
  obtain ⟨rfl, rfl, rfl⟩ := P3
  refine j_iload d_Law_law_145 1 rfl ?_
  refine j_icmp_eq_t (tgt := 152) d_Law_law_147 (by decide) (by decide) ?_
  refine j_iload d_Law_law_152 1 rfl ?_
  refine j_if_ne_f (tgt := 169) d_Law_law_154 (by decide) (by decide) ?_
  refine j_aload_n d_Law_law_157 3 rfl ?_
  refine j_iconst d_Law_law_158 (v := 0) (by decide) ?_
  refine j_lald d_Law_law_159 R2 (by unfold vp_in; decide) ?_
  refine j_iload d_Law_law_160 0 rfl ?_
  refine j_i2l d_Law_law_162 rfl ?_
  refine j_lcmp d_Law_law_163 ?_
  refine j_if_eq_t (tgt := 169) d_Law_law_164 (by decide) (lgc rfl) ?_
  refine j_goto (tgt := 822) d_Law_law_169 (by decide) ?_
  refine j_iinc d_Law_law_822 2 rfl rfl (Nat.le_of_ble_eq_true rfl) rfl ?_
  refine j_goto (tgt := 23) d_Law_law_825 (by decide) ?_
  refine j_iload d_Law_law_23 0 rfl ?_
  refine j_aload_n d_Law_law_25 6 rfl ?_
  refine j_slen hX hbl d_Law_law_26 ?_
  refine j_iconst d_Law_law_27 (v := 4) (by decide) ?_
  refine j_isub d_Law_law_28 ?_
  refine j_icmp_gt_t (tgt := 828) d_Law_law_29 (by decide) (by decide) ?_
  refine j_iconst d_Law_law_828 (v := 1) (by decide) ?_
  exact j_lawEnd (Nat.le_of_ble_eq_true rfl) (Nat.le_of_ble_eq_true rfl)
set_option maxHeartbeats 4000000 in
set_option maxRecDepth 100000 in
theorem lc_clear {b : Nat} {D : va_G} {Y : Nat → ClassId} {p : Program} {l : Launch} {e : Env} {s : State} {m : MethodId} {below : List Frame} {meth : Method} {c : Code} (Z : jS0 b D Y s) (xs : Nat → Int32) (hX : va_X b 4 xs s s.heap) (hbl : b < s.heap.size) (hlt : l.stackTraces = false) (d : Nat) (h : jH) (HD : jDesk Y h d) (HM : jModl Y h (d + 208)) (HR : h (d + 231) = some (.inl (Y 1, 1, .inr (.inl (fun _ => 0))))) : jW b D Y s p l e room_1 s m #[Value.ref b] below meth c "FactorDeskLaw" code 8 ret meth.name (lw_Z below #[Value.ref b] s) 172 [(4, .int 0), (3, .ref (d + 231)), (2, .ref (d + 208)), (1, .ref d), (0, .ref b)] [] h (d + 232) 232 14861 := by
  refine j_aload_n d_Law_law_172 3 rfl ?_
  refine j_callV (k_clear l Z d _ _ HD) ⟨⟨Nat.le_of_ble_eq_true rfl, Nat.le_of_ble_eq_true rfl⟩, g_335, g_338, g_1, by decide +kernel⟩ g_336 g_337 (ci := 8) rfl HD.1 ⟨(by first | exact Nat.le_of_ble_eq_true rfl | (simp only [jrm]; omega)), (by first | exact Nat.le_of_ble_eq_true rfl | (simp only [jrm]; omega))⟩ (Nat.le_of_ble_eq_true rfl) d_Law_law_173 (fun r4 h4 n4 P4 => ?_)
  obtain ⟨rfl, rfl, F4⟩ := P4
  have HM4 := HM.keep (fun x h1 h2 => F4 x (by omega))
  have R4 := (F4 (d + 231) (by omega)).trans HR
  refine j_aload_n d_Law_law_176 2 rfl ?_
  refine j_callV (m_clear l Z (d + 208) _ _ HM4) ⟨⟨Nat.le_of_ble_eq_true rfl, Nat.le_of_ble_eq_true rfl⟩, g_974, g_977, g_10, by decide +kernel⟩ g_975 g_976 (ci := 9) rfl HM4.1 ⟨(by first | exact Nat.le_of_ble_eq_true rfl | (simp only [jrm]; omega)), (by first | exact Nat.le_of_ble_eq_true rfl | (simp only [jrm]; omega))⟩ (Nat.le_of_ble_eq_true rfl) d_Law_law_177 (fun r5 h5 n5 P5 => ?_)
  obtain ⟨rfl, rfl, ⟨fs5, O5⟩, F5⟩ := P5
  have R5 := (F5 (d + 231) (by omega)).trans R4
  refine j_icmp_eq_t (tgt := 822) d_Law_law_180 (by decide) (by decide) ?_
  refine j_iinc d_Law_law_822 0 rfl rfl (Nat.le_of_ble_eq_true rfl) rfl ?_
  refine j_goto (tgt := 23) d_Law_law_825 (by decide) ?_
  refine j_iload d_Law_law_23 0 rfl ?_
  refine j_aload_n d_Law_law_25 4 rfl ?_
  refine j_slen hX hbl d_Law_law_26 ?_
  refine j_iconst d_Law_law_27 (v := 4) (by decide) ?_
  refine j_isub d_Law_law_28 ?_
  refine j_icmp_gt_t (tgt := 828) d_Law_law_29 (by decide) (by decide) ?_
  refine j_iconst d_Law_law_828 (v := 1) (by decide) ?_
  exact j_lawEnd (Nat.le_of_ble_eq_true rfl) (Nat.le_of_ble_eq_true rfl)
set_option maxHeartbeats 4000000 in
set_option maxRecDepth 100000 in
theorem lc_take {b : Nat} {D : va_G} {Y : Nat → ClassId} {p : Program} {l : Launch} {e : Env} {s : State} {m : MethodId} {below : List Frame} {meth : Method} {c : Code} (Z : jS0 b D Y s) (xs : Nat → Int32) (hX : va_X b 4 xs s s.heap) (hbl : b < s.heap.size) (hlt : l.stackTraces = false) (d : Nat) (h : jH) (HD : jDesk Y h d) (HM : jModl Y h (d + 208)) (HR : h (d + 231) = some (.inl (Y 1, 1, .inr (.inl (fun _ => 0))))) : jW b D Y s p l e room_1 s m #[Value.ref b] below meth c "FactorDeskLaw" code 8 ret meth.name (lw_Z below #[Value.ref b] s) 185 [(4, .int 0), (3, .ref (d + 231)), (2, .ref (d + 208)), (1, .ref d), (0, .ref b)] [] h (d + 232) 232 14861 := by
  refine j_aload_n d_Law_law_185 3 rfl ?_
  refine j_aload_n d_Law_law_186 1 rfl ?_
  refine j_callSW (wx_take l Z hlt d (d + 231) _ _ HD) ⟨⟨Nat.le_of_ble_eq_true rfl, Nat.le_of_ble_eq_true rfl⟩, g_709, g_711, g_0, (by decide +kernel), (by decide +kernel), (show _ = some 2 from by decide +kernel)⟩ g_710 ⟨Nat.le_of_ble_eq_true rfl, Nat.le_of_ble_eq_true rfl⟩ (Nat.le_of_ble_eq_true rfl) d_Law_law_187 (fun r6 h6 n6 P6 => ?_)
  obtain ⟨rfl, e1, e2⟩ := P6
  subst e1
  subst e2
  refine j_istore d_Law_law_190 (Nat.le_of_ble_eq_true rfl) rfl ?_
  refine j_aload_n d_Law_law_192 3 rfl ?_
  refine j_callV (m_take l Z (d + 208) _ _ HM) ⟨⟨Nat.le_of_ble_eq_true rfl, Nat.le_of_ble_eq_true rfl⟩, g_978, g_981, g_10, by decide +kernel⟩ g_979 g_980 (ci := 9) rfl HM.1 ⟨(by first | exact Nat.le_of_ble_eq_true rfl | (simp only [jrm]; omega)), (by first | exact Nat.le_of_ble_eq_true rfl | (simp only [jrm]; omega))⟩ (Nat.le_of_ble_eq_true rfl) d_Law_law_193 (fun r7 h7 n7 P7 => ?_)
  obtain ⟨rfl, rfl, ⟨fs7, O7⟩, F7⟩ := P7
  have R7 := (F7 (d + 231) (by omega)).trans HR
  refine j_istore d_Law_law_196 (Nat.le_of_ble_eq_true rfl) rfl ?_
  refine j_aload_n d_Law_law_198 4 rfl ?_
  refine j_callV (k_thrown l Z (d + 208) _ _ _ _ O7) ⟨⟨Nat.le_of_ble_eq_true rfl, Nat.le_of_ble_eq_true rfl⟩, g_962, g_965, g_10, by decide +kernel⟩ g_963 g_964 (ci := 9) rfl O7 ⟨(by first | exact Nat.le_of_ble_eq_true rfl | (simp only [jrm]; omega)), (by first | exact Nat.le_of_ble_eq_true rfl | (simp only [jrm]; omega))⟩ (Nat.le_of_ble_eq_true rfl) d_Law_law_199 (fun r8 h8 n8 P8 => ?_)
  obtain ⟨rfl, rfl, rfl⟩ := P8
  refine j_iload d_Law_law_202 1 rfl ?_
  refine j_icmp_eq_t (tgt := 209) d_Law_law_204 (by decide) (by decide) ?_
  refine j_iload d_Law_law_209 1 rfl ?_
  refine j_if_ne_t (tgt := 226) d_Law_law_211 (by decide) (by decide) ?_
  refine j_goto (tgt := 822) d_Law_law_226 (by decide) ?_
  refine j_iinc d_Law_law_822 2 rfl rfl (Nat.le_of_ble_eq_true rfl) rfl ?_
  refine j_goto (tgt := 23) d_Law_law_825 (by decide) ?_
  refine j_iload d_Law_law_23 0 rfl ?_
  refine j_aload_n d_Law_law_25 6 rfl ?_
  refine j_slen hX hbl d_Law_law_26 ?_
  refine j_iconst d_Law_law_27 (v := 4) (by decide) ?_
  refine j_isub d_Law_law_28 ?_
  refine j_icmp_gt_t (tgt := 828) d_Law_law_29 (by decide) (by decide) ?_
  refine j_iconst d_Law_law_828 (v := 1) (by decide) ?_
  exact j_lawEnd (Nat.le_of_ble_eq_true rfl) (Nat.le_of_ble_eq_true rfl)
set_option maxHeartbeats 4000000 in
set_option maxRecDepth 100000 in
theorem lc_times {b : Nat} {D : va_G} {Y : Nat → ClassId} {p : Program} {l : Launch} {e : Env} {s : State} {m : MethodId} {below : List Frame} {meth : Method} {c : Code} (Z : jS0 b D Y s) (xs : Nat → Int32) (hX : va_X b 4 xs s s.heap) (hbl : b < s.heap.size) (hlt : l.stackTraces = false) (d : Nat) (h : jH) (HD : jDesk Y h d) (HM : jModl Y h (d + 208)) (HR : h (d + 231) = some (.inl (Y 1, 1, .inr (.inl (fun _ => 0))))) : jW b D Y s p l e room_1 s m #[Value.ref b] below meth c "FactorDeskLaw" code 8 ret meth.name (lw_Z below #[Value.ref b] s) 229 [(4, .int 0), (3, .ref (d + 231)), (2, .ref (d + 208)), (1, .ref d), (0, .ref b)] [] h (d + 232) 232 14861 := by
  refine j_aload_n d_Law_law_229 3 rfl ?_
  refine j_aload_n d_Law_law_230 1 rfl ?_
  refine j_callSW (wx_times l Z hlt d (d + 231) _ _ HD) ⟨⟨Nat.le_of_ble_eq_true rfl, Nat.le_of_ble_eq_true rfl⟩, g_745, g_747, g_0, (by decide +kernel), (by decide +kernel), (show _ = some 2 from by decide +kernel)⟩ g_746 ⟨Nat.le_of_ble_eq_true rfl, Nat.le_of_ble_eq_true rfl⟩ (Nat.le_of_ble_eq_true rfl) d_Law_law_231 (fun r9 h9 n9 P9 => ?_)
  obtain ⟨rfl, e1, e2⟩ := P9
  subst e1
  subst e2
  refine j_istore d_Law_law_234 (Nat.le_of_ble_eq_true rfl) rfl ?_
  refine j_aload_n d_Law_law_236 3 rfl ?_
  refine j_callV (m_times l Z (d + 208) _ _ HM) ⟨⟨Nat.le_of_ble_eq_true rfl, Nat.le_of_ble_eq_true rfl⟩, g_986, g_989, g_10, by decide +kernel⟩ g_987 g_988 (ci := 9) rfl HM.1 ⟨(by first | exact Nat.le_of_ble_eq_true rfl | (simp only [jrm]; omega)), (by first | exact Nat.le_of_ble_eq_true rfl | (simp only [jrm]; omega))⟩ (Nat.le_of_ble_eq_true rfl) d_Law_law_237 (fun r10 h10 n10 P10 => ?_)
  obtain ⟨rfl, rfl, ⟨fs10, O10⟩, F10⟩ := P10
  have R10 := (F10 (d + 231) (by omega)).trans HR
  refine j_istore d_Law_law_240 (Nat.le_of_ble_eq_true rfl) rfl ?_
  refine j_aload_n d_Law_law_242 4 rfl ?_
  refine j_callV (k_thrown l Z (d + 208) _ _ _ _ O10) ⟨⟨Nat.le_of_ble_eq_true rfl, Nat.le_of_ble_eq_true rfl⟩, g_962, g_965, g_10, by decide +kernel⟩ g_963 g_964 (ci := 9) rfl O10 ⟨(by first | exact Nat.le_of_ble_eq_true rfl | (simp only [jrm]; omega)), (by first | exact Nat.le_of_ble_eq_true rfl | (simp only [jrm]; omega))⟩ (Nat.le_of_ble_eq_true rfl) d_Law_law_243 (fun r11 h11 n11 P11 => ?_)
  obtain ⟨rfl, rfl, rfl⟩ := P11
  refine j_iload d_Law_law_246 1 rfl ?_
  refine j_icmp_eq_t (tgt := 253) d_Law_law_248 (by decide) (by decide) ?_
  refine j_iload d_Law_law_253 1 rfl ?_
  refine j_if_ne_t (tgt := 270) d_Law_law_255 (by decide) (by decide) ?_
  refine j_goto (tgt := 822) d_Law_law_270 (by decide) ?_
  refine j_iinc d_Law_law_822 2 rfl rfl (Nat.le_of_ble_eq_true rfl) rfl ?_
  refine j_goto (tgt := 23) d_Law_law_825 (by decide) ?_
  refine j_iload d_Law_law_23 0 rfl ?_
  refine j_aload_n d_Law_law_25 6 rfl ?_
  refine j_slen hX hbl d_Law_law_26 ?_
  refine j_iconst d_Law_law_27 (v := 4) (by decide) ?_
  refine j_isub d_Law_law_28 ?_
  refine j_icmp_gt_t (tgt := 828) d_Law_law_29 (by decide) (by decide) ?_
  refine j_iconst d_Law_law_828 (v := 1) (by decide) ?_
  exact j_lawEnd (Nat.le_of_ble_eq_true rfl) (Nat.le_of_ble_eq_true rfl)
set_option maxHeartbeats 4000000 in
set_option maxRecDepth 100000 in
theorem lc_common {b : Nat} {D : va_G} {Y : Nat → ClassId} {p : Program} {l : Launch} {e : Env} {s : State} {m : MethodId} {below : List Frame} {meth : Method} {c : Code} (Z : jS0 b D Y s) (xs : Nat → Int32) (hX : va_X b 4 xs s s.heap) (hbl : b < s.heap.size) (hlt : l.stackTraces = false) (d : Nat) (h : jH) (HD : jDesk Y h d) (HM : jModl Y h (d + 208)) (HR : h (d + 231) = some (.inl (Y 1, 1, .inr (.inl (fun _ => 0))))) : jW b D Y s p l e room_1 s m #[Value.ref b] below meth c "FactorDeskLaw" code 8 ret meth.name (lw_Z below #[Value.ref b] s) 573 [(4, .int 0), (3, .ref (d + 231)), (2, .ref (d + 208)), (1, .ref d), (0, .ref b)] [] h (d + 232) 232 14861 := by
  refine j_aload_n d_Law_law_573 3 rfl ?_
  refine j_aload_n d_Law_law_574 1 rfl ?_
  refine j_callSW (wx_common l Z hlt d (d + 231) _ _ HD) ⟨⟨Nat.le_of_ble_eq_true rfl, Nat.le_of_ble_eq_true rfl⟩, g_815, g_817, g_0, (by decide +kernel), (by decide +kernel), (show _ = some 2 from by decide +kernel)⟩ g_816 ⟨Nat.le_of_ble_eq_true rfl, Nat.le_of_ble_eq_true rfl⟩ (Nat.le_of_ble_eq_true rfl) d_Law_law_575 (fun r12 h12 n12 P12 => ?_)
  obtain ⟨rfl, e1, e2⟩ := P12
  subst e1
  subst e2
  refine j_istore d_Law_law_578 (Nat.le_of_ble_eq_true rfl) rfl ?_
  refine j_aload_n d_Law_law_580 3 rfl ?_
  refine j_callV (m_common l Z (d + 208) _ _ HM) ⟨⟨Nat.le_of_ble_eq_true rfl, Nat.le_of_ble_eq_true rfl⟩, g_1206, g_1209, g_10, by decide +kernel⟩ g_1207 g_1208 (ci := 9) rfl HM.1 ⟨(by first | exact Nat.le_of_ble_eq_true rfl | (simp only [jrm]; omega)), (by first | exact Nat.le_of_ble_eq_true rfl | (simp only [jrm]; omega))⟩ (Nat.le_of_ble_eq_true rfl) d_Law_law_581 (fun r13 h13 n13 P13 => ?_)
  obtain ⟨rfl, rfl, ⟨fs13, O13⟩, F13⟩ := P13
  have R13 := (F13 (d + 231) (by omega)).trans HR
  refine j_istore d_Law_law_584 (Nat.le_of_ble_eq_true rfl) rfl ?_
  refine j_aload_n d_Law_law_586 4 rfl ?_
  refine j_callV (k_thrown l Z (d + 208) _ _ _ _ O13) ⟨⟨Nat.le_of_ble_eq_true rfl, Nat.le_of_ble_eq_true rfl⟩, g_962, g_965, g_10, by decide +kernel⟩ g_963 g_964 (ci := 9) rfl O13 ⟨(by first | exact Nat.le_of_ble_eq_true rfl | (simp only [jrm]; omega)), (by first | exact Nat.le_of_ble_eq_true rfl | (simp only [jrm]; omega))⟩ (Nat.le_of_ble_eq_true rfl) d_Law_law_587 (fun r14 h14 n14 P14 => ?_)
  obtain ⟨rfl, rfl, rfl⟩ := P14
  refine j_iload d_Law_law_590 1 rfl ?_
  refine j_icmp_eq_t (tgt := 597) d_Law_law_592 (by decide) (by decide) ?_
  refine j_iload d_Law_law_597 1 rfl ?_
  refine j_if_ne_t (tgt := 614) d_Law_law_599 (by decide) (by decide) ?_
  refine j_goto (tgt := 822) d_Law_law_614 (by decide) ?_
  refine j_iinc d_Law_law_822 2 rfl rfl (Nat.le_of_ble_eq_true rfl) rfl ?_
  refine j_goto (tgt := 23) d_Law_law_825 (by decide) ?_
  refine j_iload d_Law_law_23 0 rfl ?_
  refine j_aload_n d_Law_law_25 6 rfl ?_
  refine j_slen hX hbl d_Law_law_26 ?_
  refine j_iconst d_Law_law_27 (v := 4) (by decide) ?_
  refine j_isub d_Law_law_28 ?_
  refine j_icmp_gt_t (tgt := 828) d_Law_law_29 (by decide) (by decide) ?_
  refine j_iconst d_Law_law_828 (v := 1) (by decide) ?_
  exact j_lawEnd (Nat.le_of_ble_eq_true rfl) (Nat.le_of_ble_eq_true rfl)
set_option maxHeartbeats 4000000 in
set_option maxRecDepth 100000 in
theorem lc_divides {b : Nat} {D : va_G} {Y : Nat → ClassId} {p : Program} {l : Launch} {e : Env} {s : State} {m : MethodId} {below : List Frame} {meth : Method} {c : Code} (Z : jS0 b D Y s) (xs : Nat → Int32) (hX : va_X b 4 xs s s.heap) (hbl : b < s.heap.size) (hlt : l.stackTraces = false) (d : Nat) (h : jH) (HD : jDesk Y h d) (HM : jModl Y h (d + 208)) (HR : h (d + 231) = some (.inl (Y 1, 1, .inr (.inl (fun _ => 0))))) : jW b D Y s p l e room_1 s m #[Value.ref b] below meth c "FactorDeskLaw" code 8 ret meth.name (lw_Z below #[Value.ref b] s) 672 [(4, .int 0), (3, .ref (d + 231)), (2, .ref (d + 208)), (1, .ref d), (0, .ref b)] [] h (d + 232) 232 14861 := by
  refine j_aload_n d_Law_law_672 3 rfl ?_
  refine j_aload_n d_Law_law_673 1 rfl ?_
  refine j_callSW (wx_divides l Z hlt d (d + 231) _ _ HD) ⟨⟨Nat.le_of_ble_eq_true rfl, Nat.le_of_ble_eq_true rfl⟩, g_831, g_833, g_0, (by decide +kernel), (by decide +kernel), (show _ = some 2 from by decide +kernel)⟩ g_832 ⟨Nat.le_of_ble_eq_true rfl, Nat.le_of_ble_eq_true rfl⟩ (Nat.le_of_ble_eq_true rfl) d_Law_law_674 (fun r15 h15 n15 P15 => ?_)
  obtain ⟨rfl, e1, e2⟩ := P15
  subst e1
  subst e2
  refine j_istore d_Law_law_677 (Nat.le_of_ble_eq_true rfl) rfl ?_
  refine j_aload_n d_Law_law_679 3 rfl ?_
  refine j_callV (m_divides l Z (d + 208) _ _ HM) ⟨⟨Nat.le_of_ble_eq_true rfl, Nat.le_of_ble_eq_true rfl⟩, g_1214, g_1217, g_10, by decide +kernel⟩ g_1215 g_1216 (ci := 9) rfl HM.1 ⟨(by first | exact Nat.le_of_ble_eq_true rfl | (simp only [jrm]; omega)), (by first | exact Nat.le_of_ble_eq_true rfl | (simp only [jrm]; omega))⟩ (Nat.le_of_ble_eq_true rfl) d_Law_law_680 (fun r16 h16 n16 P16 => ?_)
  obtain ⟨rfl, rfl, ⟨fs16, O16⟩, F16⟩ := P16
  have R16 := (F16 (d + 231) (by omega)).trans HR
  refine j_istore d_Law_law_683 (Nat.le_of_ble_eq_true rfl) rfl ?_
  refine j_aload_n d_Law_law_685 4 rfl ?_
  refine j_callV (k_thrown l Z (d + 208) _ _ _ _ O16) ⟨⟨Nat.le_of_ble_eq_true rfl, Nat.le_of_ble_eq_true rfl⟩, g_962, g_965, g_10, by decide +kernel⟩ g_963 g_964 (ci := 9) rfl O16 ⟨(by first | exact Nat.le_of_ble_eq_true rfl | (simp only [jrm]; omega)), (by first | exact Nat.le_of_ble_eq_true rfl | (simp only [jrm]; omega))⟩ (Nat.le_of_ble_eq_true rfl) d_Law_law_686 (fun r17 h17 n17 P17 => ?_)
  obtain ⟨rfl, rfl, rfl⟩ := P17
  refine j_iload d_Law_law_689 1 rfl ?_
  refine j_icmp_eq_t (tgt := 696) d_Law_law_691 (by decide) (by decide) ?_
  refine j_iload d_Law_law_696 1 rfl ?_
  refine j_if_ne_t (tgt := 720) d_Law_law_698 (by decide) (by decide) ?_
  refine j_goto (tgt := 822) d_Law_law_720 (by decide) ?_
  refine j_iinc d_Law_law_822 2 rfl rfl (Nat.le_of_ble_eq_true rfl) rfl ?_
  refine j_goto (tgt := 23) d_Law_law_825 (by decide) ?_
  refine j_iload d_Law_law_23 0 rfl ?_
  refine j_aload_n d_Law_law_25 6 rfl ?_
  refine j_slen hX hbl d_Law_law_26 ?_
  refine j_iconst d_Law_law_27 (v := 4) (by decide) ?_
  refine j_isub d_Law_law_28 ?_
  refine j_icmp_gt_t (tgt := 828) d_Law_law_29 (by decide) (by decide) ?_
  refine j_iconst d_Law_law_828 (v := 1) (by decide) ?_
  exact j_lawEnd (Nat.le_of_ble_eq_true rfl) (Nat.le_of_ble_eq_true rfl)
set_option maxHeartbeats 4000000 in
set_option maxRecDepth 100000 in
theorem lc_degree {b : Nat} {D : va_G} {Y : Nat → ClassId} {p : Program} {l : Launch} {e : Env} {s : State} {m : MethodId} {below : List Frame} {meth : Method} {c : Code} (Z : jS0 b D Y s) (xs : Nat → Int32) (hX : va_X b 4 xs s s.heap) (hbl : b < s.heap.size) (hlt : l.stackTraces = false) (d : Nat) (h : jH) (HD : jDesk Y h d) (HM : jModl Y h (d + 208)) (HR : h (d + 231) = some (.inl (Y 1, 1, .inr (.inl (fun _ => 0))))) : jW b D Y s p l e room_1 s m #[Value.ref b] below meth c "FactorDeskLaw" code 8 ret meth.name (lw_Z below #[Value.ref b] s) 329 [(4, .int 0), (3, .ref (d + 231)), (2, .ref (d + 208)), (1, .ref d), (0, .ref b)] [] h (d + 232) 232 14861 := by
  refine j_aload_n d_Law_law_329 3 rfl ?_
  refine j_callV (k_degree l Z d _ _ HD) ⟨⟨Nat.le_of_ble_eq_true rfl, Nat.le_of_ble_eq_true rfl⟩, g_339, g_342, g_1, by decide +kernel⟩ g_340 g_341 (ci := 8) rfl HD.1 ⟨(by first | exact Nat.le_of_ble_eq_true rfl | (simp only [jrm]; omega)), (by first | exact Nat.le_of_ble_eq_true rfl | (simp only [jrm]; omega))⟩ (Nat.le_of_ble_eq_true rfl) d_Law_law_330 (fun r18 h18 n18 P18 => ?_)
  obtain ⟨rfl, rfl, F18⟩ := P18
  have HM18 := HM.keep (fun x h1 h2 => F18 x (by omega))
  have R18 := (F18 (d + 231) (by omega)).trans HR
  refine j_aload_n d_Law_law_333 2 rfl ?_
  refine j_callV (m_degree l Z (d + 208) _ _ HM18) ⟨⟨Nat.le_of_ble_eq_true rfl, Nat.le_of_ble_eq_true rfl⟩, g_998, g_1001, g_10, by decide +kernel⟩ g_999 g_1000 (ci := 9) rfl HM18.1 ⟨(by first | exact Nat.le_of_ble_eq_true rfl | (simp only [jrm]; omega)), (by first | exact Nat.le_of_ble_eq_true rfl | (simp only [jrm]; omega))⟩ (Nat.le_of_ble_eq_true rfl) d_Law_law_334 (fun r19 h19 n19 P19 => ?_)
  obtain ⟨rfl, rfl, ⟨fs19, O19⟩, F19⟩ := P19
  have R19 := (F19 (d + 231) (by omega)).trans R18
  refine j_icmp_eq_t (tgt := 822) d_Law_law_337 (by decide) (by decide) ?_
  refine j_iinc d_Law_law_822 0 rfl rfl (Nat.le_of_ble_eq_true rfl) rfl ?_
  refine j_goto (tgt := 23) d_Law_law_825 (by decide) ?_
  refine j_iload d_Law_law_23 0 rfl ?_
  refine j_aload_n d_Law_law_25 4 rfl ?_
  refine j_slen hX hbl d_Law_law_26 ?_
  refine j_iconst d_Law_law_27 (v := 4) (by decide) ?_
  refine j_isub d_Law_law_28 ?_
  refine j_icmp_gt_t (tgt := 828) d_Law_law_29 (by decide) (by decide) ?_
  refine j_iconst d_Law_law_828 (v := 1) (by decide) ?_
  exact j_lawEnd (Nat.le_of_ble_eq_true rfl) (Nat.le_of_ble_eq_true rfl)
set_option maxHeartbeats 4000000 in
set_option maxRecDepth 100000 in
theorem lc_content {b : Nat} {D : va_G} {Y : Nat → ClassId} {p : Program} {l : Launch} {e : Env} {s : State} {m : MethodId} {below : List Frame} {meth : Method} {c : Code} (Z : jS0 b D Y s) (xs : Nat → Int32) (hX : va_X b 4 xs s s.heap) (hbl : b < s.heap.size) (hlt : l.stackTraces = false) (d : Nat) (h : jH) (HD : jDesk Y h d) (HM : jModl Y h (d + 208)) (HR : h (d + 231) = some (.inl (Y 1, 1, .inr (.inl (fun _ => 0))))) : jW b D Y s p l e room_1 s m #[Value.ref b] below meth c "FactorDeskLaw" code 8 ret meth.name (lw_Z below #[Value.ref b] s) 342 [(4, .int 0), (3, .ref (d + 231)), (2, .ref (d + 208)), (1, .ref d), (0, .ref b)] [] h (d + 232) 232 14861 := by
  refine j_aload_n d_Law_law_342 3 rfl ?_
  refine j_callV (k_content l Z d _ _ HD) ⟨⟨Nat.le_of_ble_eq_true rfl, Nat.le_of_ble_eq_true rfl⟩, g_343, g_346, g_1, by decide +kernel⟩ g_344 g_345 (ci := 8) rfl HD.1 ⟨(by first | exact Nat.le_of_ble_eq_true rfl | (simp only [jrm]; omega)), (by first | exact Nat.le_of_ble_eq_true rfl | (simp only [jrm]; omega))⟩ (Nat.le_of_ble_eq_true rfl) d_Law_law_343 (fun r20 h20 n20 P20 => ?_)
  obtain ⟨rfl, rfl, rfl⟩ := P20
  refine j_aload_n d_Law_law_346 2 rfl ?_
  refine j_callV (m_content l Z (d + 208) _ _ HM) ⟨⟨Nat.le_of_ble_eq_true rfl, Nat.le_of_ble_eq_true rfl⟩, g_1002, g_1005, g_10, by decide +kernel⟩ g_1003 g_1004 (ci := 9) rfl HM.1 ⟨(by first | exact Nat.le_of_ble_eq_true rfl | (simp only [jrm]; omega)), (by first | exact Nat.le_of_ble_eq_true rfl | (simp only [jrm]; omega))⟩ (Nat.le_of_ble_eq_true rfl) d_Law_law_347 (fun r21 h21 n21 P21 => ?_)
  obtain ⟨rfl, rfl, ⟨fs21, O21⟩, F21⟩ := P21
  have R21 := (F21 (d + 231) (by omega)).trans HR
  refine j_lcmp d_Law_law_350 ?_
  refine j_if_eq_t (tgt := 822) d_Law_law_351 (by decide) (by decide) ?_
  refine j_iinc d_Law_law_822 0 rfl rfl (Nat.le_of_ble_eq_true rfl) rfl ?_
  refine j_goto (tgt := 23) d_Law_law_825 (by decide) ?_
  refine j_iload d_Law_law_23 0 rfl ?_
  refine j_aload_n d_Law_law_25 4 rfl ?_
  refine j_slen hX hbl d_Law_law_26 ?_
  refine j_iconst d_Law_law_27 (v := 4) (by decide) ?_
  refine j_isub d_Law_law_28 ?_
  refine j_icmp_gt_t (tgt := 828) d_Law_law_29 (by decide) (by decide) ?_
  refine j_iconst d_Law_law_828 (v := 1) (by decide) ?_
  exact j_lawEnd (Nat.le_of_ble_eq_true rfl) (Nat.le_of_ble_eq_true rfl)
set_option maxHeartbeats 4000000 in
set_option maxRecDepth 100000 in
theorem lc_factors {b : Nat} {D : va_G} {Y : Nat → ClassId} {p : Program} {l : Launch} {e : Env} {s : State} {m : MethodId} {below : List Frame} {meth : Method} {c : Code} (Z : jS0 b D Y s) (xs : Nat → Int32) (hX : va_X b 4 xs s s.heap) (hbl : b < s.heap.size) (hlt : l.stackTraces = false) (d : Nat) (h : jH) (HD : jDesk Y h d) (HM : jModl Y h (d + 208)) (HR : h (d + 231) = some (.inl (Y 1, 1, .inr (.inl (fun _ => 0))))) : jW b D Y s p l e room_1 s m #[Value.ref b] below meth c "FactorDeskLaw" code 8 ret meth.name (lw_Z below #[Value.ref b] s) 356 [(4, .int 0), (3, .ref (d + 231)), (2, .ref (d + 208)), (1, .ref d), (0, .ref b)] [] h (d + 232) 232 14861 := by
  refine j_aload_n d_Law_law_356 3 rfl ?_
  refine j_callV (k_factors l Z d _ _ HD) ⟨⟨Nat.le_of_ble_eq_true rfl, Nat.le_of_ble_eq_true rfl⟩, g_358, g_361, g_1, by decide +kernel⟩ g_359 g_360 (ci := 8) rfl HD.1 ⟨(by first | exact Nat.le_of_ble_eq_true rfl | (simp only [jrm]; omega)), (by first | exact Nat.le_of_ble_eq_true rfl | (simp only [jrm]; omega))⟩ (Nat.le_of_ble_eq_true rfl) d_Law_law_357 (fun r22 h22 n22 P22 => ?_)
  obtain ⟨rfl, rfl, F22⟩ := P22
  have HM22 := HM.keep (fun x h1 h2 => F22 x (by omega))
  have R22 := (F22 (d + 231) (by omega)).trans HR
  refine j_aload_n d_Law_law_360 2 rfl ?_
  refine j_callV (m_factors l Z (d + 208) _ _ HM22) ⟨⟨Nat.le_of_ble_eq_true rfl, Nat.le_of_ble_eq_true rfl⟩, g_1012, g_1015, g_10, by decide +kernel⟩ g_1013 g_1014 (ci := 9) rfl HM22.1 ⟨(by first | exact Nat.le_of_ble_eq_true rfl | (simp only [jrm]; omega)), (by first | exact Nat.le_of_ble_eq_true rfl | (simp only [jrm]; omega))⟩ (Nat.le_of_ble_eq_true rfl) d_Law_law_361 (fun r23 h23 n23 P23 => ?_)
  obtain ⟨rfl, rfl, ⟨fs23, O23⟩, F23⟩ := P23
  have R23 := (F23 (d + 231) (by omega)).trans R22
  refine j_icmp_eq_t (tgt := 822) d_Law_law_364 (by decide) (by decide) ?_
  refine j_iinc d_Law_law_822 0 rfl rfl (Nat.le_of_ble_eq_true rfl) rfl ?_
  refine j_goto (tgt := 23) d_Law_law_825 (by decide) ?_
  refine j_iload d_Law_law_23 0 rfl ?_
  refine j_aload_n d_Law_law_25 4 rfl ?_
  refine j_slen hX hbl d_Law_law_26 ?_
  refine j_iconst d_Law_law_27 (v := 4) (by decide) ?_
  refine j_isub d_Law_law_28 ?_
  refine j_icmp_gt_t (tgt := 828) d_Law_law_29 (by decide) (by decide) ?_
  refine j_iconst d_Law_law_828 (v := 1) (by decide) ?_
  exact j_lawEnd (Nat.le_of_ble_eq_true rfl) (Nat.le_of_ble_eq_true rfl)
set_option maxHeartbeats 4000000 in
set_option maxRecDepth 100000 in
theorem lc_isIrr {b : Nat} {D : va_G} {Y : Nat → ClassId} {p : Program} {l : Launch} {e : Env} {s : State} {m : MethodId} {below : List Frame} {meth : Method} {c : Code} (Z : jS0 b D Y s) (xs : Nat → Int32) (hX : va_X b 4 xs s s.heap) (hbl : b < s.heap.size) (hlt : l.stackTraces = false) (d : Nat) (h : jH) (HD : jDesk Y h d) (HM : jModl Y h (d + 208)) (HR : h (d + 231) = some (.inl (Y 1, 1, .inr (.inl (fun _ => 0))))) : jW b D Y s p l e room_1 s m #[Value.ref b] below meth c "FactorDeskLaw" code 8 ret meth.name (lw_Z below #[Value.ref b] s) 504 [(4, .int 0), (3, .ref (d + 231)), (2, .ref (d + 208)), (1, .ref d), (0, .ref b)] [] h (d + 232) 232 14861 := by
  refine j_aload_n d_Law_law_504 3 rfl ?_
  refine j_callV (k_isIrr l Z d _ _ HD) ⟨⟨Nat.le_of_ble_eq_true rfl, Nat.le_of_ble_eq_true rfl⟩, g_628, g_631, g_1, by decide +kernel⟩ g_629 g_630 (ci := 8) rfl HD.1 ⟨(by first | exact Nat.le_of_ble_eq_true rfl | (simp only [jrm]; omega)), (by first | exact Nat.le_of_ble_eq_true rfl | (simp only [jrm]; omega))⟩ (Nat.le_of_ble_eq_true rfl) d_Law_law_505 (fun r24 h24 n24 P24 => ?_)
  obtain ⟨rfl, rfl, F24⟩ := P24
  have HM24 := HM.keep (fun x h1 h2 => F24 x (by omega))
  have R24 := (F24 (d + 231) (by omega)).trans HR
  refine j_aload_n d_Law_law_508 2 rfl ?_
  refine j_callV (m_isIrr l Z (d + 208) _ _ HM24) ⟨⟨Nat.le_of_ble_eq_true rfl, Nat.le_of_ble_eq_true rfl⟩, g_1198, g_1201, g_10, by decide +kernel⟩ g_1199 g_1200 (ci := 9) rfl HM24.1 ⟨(by first | exact Nat.le_of_ble_eq_true rfl | (simp only [jrm]; omega)), (by first | exact Nat.le_of_ble_eq_true rfl | (simp only [jrm]; omega))⟩ (Nat.le_of_ble_eq_true rfl) d_Law_law_509 (fun r25 h25 n25 P25 => ?_)
  obtain ⟨rfl, rfl, ⟨fs25, O25⟩, F25⟩ := P25
  have R25 := (F25 (d + 231) (by omega)).trans R24
  refine j_icmp_eq_t (tgt := 822) d_Law_law_512 (by decide) (by decide) ?_
  refine j_iinc d_Law_law_822 0 rfl rfl (Nat.le_of_ble_eq_true rfl) rfl ?_
  refine j_goto (tgt := 23) d_Law_law_825 (by decide) ?_
  refine j_iload d_Law_law_23 0 rfl ?_
  refine j_aload_n d_Law_law_25 4 rfl ?_
  refine j_slen hX hbl d_Law_law_26 ?_
  refine j_iconst d_Law_law_27 (v := 4) (by decide) ?_
  refine j_isub d_Law_law_28 ?_
  refine j_icmp_gt_t (tgt := 828) d_Law_law_29 (by decide) (by decide) ?_
  refine j_iconst d_Law_law_828 (v := 1) (by decide) ?_
  exact j_lawEnd (Nat.le_of_ble_eq_true rfl) (Nat.le_of_ble_eq_true rfl)
set_option maxHeartbeats 4000000 in
set_option maxRecDepth 100000 in
theorem lc_at {b : Nat} {D : va_G} {Y : Nat → ClassId} {p : Program} {l : Launch} {e : Env} {s : State} {m : MethodId} {below : List Frame} {meth : Method} {c : Code} (Z : jS0 b D Y s) (xs : Nat → Int32) (hX : va_X b 4 xs s s.heap) (hbl : b < s.heap.size) (hlt : l.stackTraces = false) (d : Nat) (h : jH) (HD : jDesk Y h d) (HM : jModl Y h (d + 208)) (HR : h (d + 231) = some (.inl (Y 1, 1, .inr (.inl (fun _ => 0))))) : jW b D Y s p l e room_1 s m #[Value.ref b] below meth c "FactorDeskLaw" code 8 ret meth.name (lw_Z below #[Value.ref b] s) 273 [(4, .int 0), (3, .ref (d + 231)), (2, .ref (d + 208)), (1, .ref d), (0, .ref b)] [] h (d + 232) 232 14861 := by
  by_cases hc : ¬ xs 1 < 0 ∧ xs 1 ≤ 12
  · refine j_aload_n d_Law_law_273 3 rfl ?_
    refine j_aload_n d_Law_law_274 4 rfl ?_
    refine j_iload d_Law_law_275 0 rfl ?_
    refine j_iconst d_Law_law_277 (v := 1) (by decide) ?_
    refine j_iadd d_Law_law_278 ?_
    refine j_sld (v := xs 1) hX hbl (by unfold vp_in; decide) rfl d_Law_law_279 ?_
    refine j_aload_n d_Law_law_280 1 rfl ?_
    refine j_callSW (w_at l Z d (d + 231) _ _ HD (xs 1) hc.1 hc.2 _ (by omega) HR) ⟨⟨Nat.le_of_ble_eq_true rfl, Nat.le_of_ble_eq_true rfl⟩, g_763, g_765, g_0, (by decide +kernel), (by decide +kernel), (show _ = some 3 from by decide +kernel)⟩ g_764 ⟨Nat.le_of_ble_eq_true rfl, Nat.le_of_ble_eq_true rfl⟩ (Nat.le_of_ble_eq_true rfl) d_Law_law_281 (fun r26 h26 n26 P26 => ?_)
    obtain ⟨rfl, rfl, O26, F26⟩ := P26
    have HM26 := HM.keep (fun x h1 h2 => F26 x (by omega) (by omega))
    refine j_istore d_Law_law_284 (Nat.le_of_ble_eq_true rfl) rfl ?_
    refine j_aload_n d_Law_law_286 3 rfl ?_
    refine j_aload_n d_Law_law_287 5 rfl ?_
    refine j_iload d_Law_law_288 1 rfl ?_
    refine j_iconst d_Law_law_290 (v := 1) (by decide) ?_
    refine j_iadd d_Law_law_291 ?_
    refine j_sld (v := xs 1) hX hbl (by unfold vp_in; decide) rfl d_Law_law_292 ?_
    refine j_callV (m_at l Z (d + 208) _ _ HM26 (xs 1) hc.1 hc.2) ⟨⟨Nat.le_of_ble_eq_true rfl, Nat.le_of_ble_eq_true rfl⟩, g_994, g_997, g_10, (by decide +kernel), (by decide +kernel), (show _ = some 1 from by decide +kernel)⟩ g_995 g_996 (ci := 9) rfl HM26.1 ⟨(by first | exact Nat.le_of_ble_eq_true rfl | (simp only [jrm]; omega)), (by first | exact Nat.le_of_ble_eq_true rfl | (simp only [jrm]; omega))⟩ (Nat.le_of_ble_eq_true rfl) d_Law_law_293 (fun r27 h27 n27 P27 => ?_)
    obtain ⟨rfl, rfl, ⟨fs27, O27⟩, F27⟩ := P27
    have R27 := (F27 (d + 231) (by omega)).trans O26
    refine j_istore d_Law_law_296 (Nat.le_of_ble_eq_true rfl) rfl ?_
    refine j_aload_n d_Law_law_298 4 rfl ?_
    refine j_callV (k_thrown l Z (d + 208) _ _ _ _ O27) ⟨⟨Nat.le_of_ble_eq_true rfl, Nat.le_of_ble_eq_true rfl⟩, g_962, g_965, g_10, by decide +kernel⟩ g_963 g_964 (ci := 9) rfl O27 ⟨(by first | exact Nat.le_of_ble_eq_true rfl | (simp only [jrm]; omega)), (by first | exact Nat.le_of_ble_eq_true rfl | (simp only [jrm]; omega))⟩ (Nat.le_of_ble_eq_true rfl) d_Law_law_299 (fun r28 h28 n28 P28 => ?_)
    obtain ⟨rfl, rfl, rfl⟩ := P28
    refine j_iload d_Law_law_302 1 rfl ?_
    refine j_icmp_eq_t (tgt := 309) d_Law_law_304 (by decide) (by decide) ?_
    refine j_iload d_Law_law_309 1 rfl ?_
    refine j_if_ne_f (tgt := 326) d_Law_law_311 (by decide) (by decide) ?_
    refine j_aload_n d_Law_law_314 3 rfl ?_
    refine j_iconst d_Law_law_315 (v := 0) (by decide) ?_
    refine j_lald d_Law_law_316 R27 (by unfold vp_in; decide) ?_
    refine j_iload d_Law_law_317 0 rfl ?_
    refine j_i2l d_Law_law_319 rfl ?_
    refine j_lcmp d_Law_law_320 ?_
    refine j_if_eq_t (tgt := 326) d_Law_law_321 (by decide) (lgc rfl) ?_
    refine j_goto (tgt := 822) d_Law_law_326 (by decide) ?_
    refine j_iinc d_Law_law_822 2 rfl rfl (Nat.le_of_ble_eq_true rfl) rfl ?_
    refine j_goto (tgt := 23) d_Law_law_825 (by decide) ?_
    refine j_iload d_Law_law_23 0 rfl ?_
    refine j_aload_n d_Law_law_25 6 rfl ?_
    refine j_slen hX hbl d_Law_law_26 ?_
    refine j_iconst d_Law_law_27 (v := 4) (by decide) ?_
    refine j_isub d_Law_law_28 ?_
    refine j_icmp_gt_t (tgt := 828) d_Law_law_29 (by decide) (by decide) ?_
    refine j_iconst d_Law_law_828 (v := 1) (by decide) ?_
    exact j_lawEnd (Nat.le_of_ble_eq_true rfl) (Nat.le_of_ble_eq_true rfl)
  · refine j_aload_n d_Law_law_273 3 rfl ?_
    refine j_aload_n d_Law_law_274 4 rfl ?_
    refine j_iload d_Law_law_275 0 rfl ?_
    refine j_iconst d_Law_law_277 (v := 1) (by decide) ?_
    refine j_iadd d_Law_law_278 ?_
    refine j_sld (v := xs 1) hX hbl (by unfold vp_in; decide) rfl d_Law_law_279 ?_
    refine j_aload_n d_Law_law_280 1 rfl ?_
    refine j_callSW (wx_at l Z hlt d (d + 231) _ _ HD (xs 1) (by by_cases h9 : xs 1 < 0; exact .inl h9; exact .inr (fun h8 => hc ⟨h9, h8⟩))) ⟨⟨Nat.le_of_ble_eq_true rfl, Nat.le_of_ble_eq_true rfl⟩, g_763, g_765, g_0, (by decide +kernel), (by decide +kernel), (show _ = some 3 from by decide +kernel)⟩ g_764 ⟨Nat.le_of_ble_eq_true rfl, Nat.le_of_ble_eq_true rfl⟩ (Nat.le_of_ble_eq_true rfl) d_Law_law_281 (fun r29 h29 n29 P29 => ?_)
    obtain ⟨rfl, e1, e2⟩ := P29
    subst e1
    subst e2
    refine j_istore d_Law_law_284 (Nat.le_of_ble_eq_true rfl) rfl ?_
    refine j_aload_n d_Law_law_286 3 rfl ?_
    refine j_aload_n d_Law_law_287 5 rfl ?_
    refine j_iload d_Law_law_288 1 rfl ?_
    refine j_iconst d_Law_law_290 (v := 1) (by decide) ?_
    refine j_iadd d_Law_law_291 ?_
    refine j_sld (v := xs 1) hX hbl (by unfold vp_in; decide) rfl d_Law_law_292 ?_
    refine j_callV (n_at l Z (d + 208) _ _ HM (xs 1) (by by_cases h9 : xs 1 < 0; exact .inl h9; exact .inr (fun h8 => hc ⟨h9, h8⟩))) ⟨⟨Nat.le_of_ble_eq_true rfl, Nat.le_of_ble_eq_true rfl⟩, g_994, g_997, g_10, (by decide +kernel), (by decide +kernel), (show _ = some 1 from by decide +kernel)⟩ g_995 g_996 (ci := 9) rfl HM.1 ⟨(by first | exact Nat.le_of_ble_eq_true rfl | (simp only [jrm]; omega)), (by first | exact Nat.le_of_ble_eq_true rfl | (simp only [jrm]; omega))⟩ (Nat.le_of_ble_eq_true rfl) d_Law_law_293 (fun r30 h30 n30 P30 => ?_)
    obtain ⟨rfl, rfl, ⟨fs30, O30⟩, F30⟩ := P30
    have R30 := (F30 (d + 231) (by omega)).trans HR
    refine j_istore d_Law_law_296 (Nat.le_of_ble_eq_true rfl) rfl ?_
    refine j_aload_n d_Law_law_298 4 rfl ?_
    refine j_callV (k_thrown l Z (d + 208) _ _ _ _ O30) ⟨⟨Nat.le_of_ble_eq_true rfl, Nat.le_of_ble_eq_true rfl⟩, g_962, g_965, g_10, by decide +kernel⟩ g_963 g_964 (ci := 9) rfl O30 ⟨(by first | exact Nat.le_of_ble_eq_true rfl | (simp only [jrm]; omega)), (by first | exact Nat.le_of_ble_eq_true rfl | (simp only [jrm]; omega))⟩ (Nat.le_of_ble_eq_true rfl) d_Law_law_299 (fun r31 h31 n31 P31 => ?_)
    obtain ⟨rfl, rfl, rfl⟩ := P31
    refine j_iload d_Law_law_302 1 rfl ?_
    refine j_icmp_eq_t (tgt := 309) d_Law_law_304 (by decide) (by decide) ?_
    refine j_iload d_Law_law_309 1 rfl ?_
    refine j_if_ne_t (tgt := 326) d_Law_law_311 (by decide) (by decide) ?_
    refine j_goto (tgt := 822) d_Law_law_326 (by decide) ?_
    refine j_iinc d_Law_law_822 2 rfl rfl (Nat.le_of_ble_eq_true rfl) rfl ?_
    refine j_goto (tgt := 23) d_Law_law_825 (by decide) ?_
    refine j_iload d_Law_law_23 0 rfl ?_
    refine j_aload_n d_Law_law_25 6 rfl ?_
    refine j_slen hX hbl d_Law_law_26 ?_
    refine j_iconst d_Law_law_27 (v := 4) (by decide) ?_
    refine j_isub d_Law_law_28 ?_
    refine j_icmp_gt_t (tgt := 828) d_Law_law_29 (by decide) (by decide) ?_
    refine j_iconst d_Law_law_828 (v := 1) (by decide) ?_
    exact j_lawEnd (Nat.le_of_ble_eq_true rfl) (Nat.le_of_ble_eq_true rfl)
set_option maxHeartbeats 4000000 in
set_option maxRecDepth 100000 in
theorem lc_ofDegree {b : Nat} {D : va_G} {Y : Nat → ClassId} {p : Program} {l : Launch} {e : Env} {s : State} {m : MethodId} {below : List Frame} {meth : Method} {c : Code} (Z : jS0 b D Y s) (xs : Nat → Int32) (hX : va_X b 4 xs s s.heap) (hbl : b < s.heap.size) (hlt : l.stackTraces = false) (d : Nat) (h : jH) (HD : jDesk Y h d) (HM : jModl Y h (d + 208)) (HR : h (d + 231) = some (.inl (Y 1, 1, .inr (.inl (fun _ => 0))))) : jW b D Y s p l e room_1 s m #[Value.ref b] below meth c "FactorDeskLaw" code 8 ret meth.name (lw_Z below #[Value.ref b] s) 517 [(4, .int 0), (3, .ref (d + 231)), (2, .ref (d + 208)), (1, .ref d), (0, .ref b)] [] h (d + 232) 232 14861 := by
  by_cases hc : ¬ xs 1 < 1 ∧ xs 1 ≤ 12
  · refine j_aload_n d_Law_law_517 3 rfl ?_
    refine j_aload_n d_Law_law_518 4 rfl ?_
    refine j_iload d_Law_law_519 0 rfl ?_
    refine j_iconst d_Law_law_521 (v := 1) (by decide) ?_
    refine j_iadd d_Law_law_522 ?_
    refine j_sld (v := xs 1) hX hbl (by unfold vp_in; decide) rfl d_Law_law_523 ?_
    refine j_aload_n d_Law_law_524 1 rfl ?_
    refine j_callSW (w_ofDegree l Z d (d + 231) _ _ HD (xs 1) hc.1 hc.2 _ (by omega) HR) ⟨⟨Nat.le_of_ble_eq_true rfl, Nat.le_of_ble_eq_true rfl⟩, g_803, g_805, g_0, (by decide +kernel), (by decide +kernel), (show _ = some 3 from by decide +kernel)⟩ g_804 ⟨Nat.le_of_ble_eq_true rfl, Nat.le_of_ble_eq_true rfl⟩ (Nat.le_of_ble_eq_true rfl) d_Law_law_525 (fun r32 h32 n32 P32 => ?_)
    obtain ⟨rfl, rfl, O32, F32⟩ := P32
    have HM32 := HM.keep (fun x h1 h2 => F32 x (by omega) (by omega))
    refine j_istore d_Law_law_528 (Nat.le_of_ble_eq_true rfl) rfl ?_
    refine j_aload_n d_Law_law_530 3 rfl ?_
    refine j_aload_n d_Law_law_531 5 rfl ?_
    refine j_iload d_Law_law_532 1 rfl ?_
    refine j_iconst d_Law_law_534 (v := 1) (by decide) ?_
    refine j_iadd d_Law_law_535 ?_
    refine j_sld (v := xs 1) hX hbl (by unfold vp_in; decide) rfl d_Law_law_536 ?_
    refine j_callV (m_ofDegree l Z (d + 208) _ _ HM32 (xs 1) hc.1 hc.2) ⟨⟨Nat.le_of_ble_eq_true rfl, Nat.le_of_ble_eq_true rfl⟩, g_1202, g_1205, g_10, (by decide +kernel), (by decide +kernel), (show _ = some 1 from by decide +kernel)⟩ g_1203 g_1204 (ci := 9) rfl HM32.1 ⟨(by first | exact Nat.le_of_ble_eq_true rfl | (simp only [jrm]; omega)), (by first | exact Nat.le_of_ble_eq_true rfl | (simp only [jrm]; omega))⟩ (Nat.le_of_ble_eq_true rfl) d_Law_law_537 (fun r33 h33 n33 P33 => ?_)
    obtain ⟨rfl, rfl, ⟨fs33, O33⟩, F33⟩ := P33
    have R33 := (F33 (d + 231) (by omega)).trans O32
    refine j_istore d_Law_law_540 (Nat.le_of_ble_eq_true rfl) rfl ?_
    refine j_aload_n d_Law_law_542 4 rfl ?_
    refine j_callV (k_thrown l Z (d + 208) _ _ _ _ O33) ⟨⟨Nat.le_of_ble_eq_true rfl, Nat.le_of_ble_eq_true rfl⟩, g_962, g_965, g_10, by decide +kernel⟩ g_963 g_964 (ci := 9) rfl O33 ⟨(by first | exact Nat.le_of_ble_eq_true rfl | (simp only [jrm]; omega)), (by first | exact Nat.le_of_ble_eq_true rfl | (simp only [jrm]; omega))⟩ (Nat.le_of_ble_eq_true rfl) d_Law_law_543 (fun r34 h34 n34 P34 => ?_)
    obtain ⟨rfl, rfl, rfl⟩ := P34
    refine j_iload d_Law_law_546 1 rfl ?_
    refine j_icmp_eq_t (tgt := 553) d_Law_law_548 (by decide) (by decide) ?_
    refine j_iload d_Law_law_553 1 rfl ?_
    refine j_if_ne_f (tgt := 570) d_Law_law_555 (by decide) (by decide) ?_
    refine j_aload_n d_Law_law_558 3 rfl ?_
    refine j_iconst d_Law_law_559 (v := 0) (by decide) ?_
    refine j_lald d_Law_law_560 R33 (by unfold vp_in; decide) ?_
    refine j_iload d_Law_law_561 0 rfl ?_
    refine j_i2l d_Law_law_563 rfl ?_
    refine j_lcmp d_Law_law_564 ?_
    refine j_if_eq_t (tgt := 570) d_Law_law_565 (by decide) (lgc rfl) ?_
    refine j_goto (tgt := 822) d_Law_law_570 (by decide) ?_
    refine j_iinc d_Law_law_822 2 rfl rfl (Nat.le_of_ble_eq_true rfl) rfl ?_
    refine j_goto (tgt := 23) d_Law_law_825 (by decide) ?_
    refine j_iload d_Law_law_23 0 rfl ?_
    refine j_aload_n d_Law_law_25 6 rfl ?_
    refine j_slen hX hbl d_Law_law_26 ?_
    refine j_iconst d_Law_law_27 (v := 4) (by decide) ?_
    refine j_isub d_Law_law_28 ?_
    refine j_icmp_gt_t (tgt := 828) d_Law_law_29 (by decide) (by decide) ?_
    refine j_iconst d_Law_law_828 (v := 1) (by decide) ?_
    exact j_lawEnd (Nat.le_of_ble_eq_true rfl) (Nat.le_of_ble_eq_true rfl)
  · refine j_aload_n d_Law_law_517 3 rfl ?_
    refine j_aload_n d_Law_law_518 4 rfl ?_
    refine j_iload d_Law_law_519 0 rfl ?_
    refine j_iconst d_Law_law_521 (v := 1) (by decide) ?_
    refine j_iadd d_Law_law_522 ?_
    refine j_sld (v := xs 1) hX hbl (by unfold vp_in; decide) rfl d_Law_law_523 ?_
    refine j_aload_n d_Law_law_524 1 rfl ?_
    refine j_callSW (wx_ofDegree l Z hlt d (d + 231) _ _ HD (xs 1) (by by_cases h9 : xs 1 < 1; exact .inl h9; exact .inr (fun h8 => hc ⟨h9, h8⟩))) ⟨⟨Nat.le_of_ble_eq_true rfl, Nat.le_of_ble_eq_true rfl⟩, g_803, g_805, g_0, (by decide +kernel), (by decide +kernel), (show _ = some 3 from by decide +kernel)⟩ g_804 ⟨Nat.le_of_ble_eq_true rfl, Nat.le_of_ble_eq_true rfl⟩ (Nat.le_of_ble_eq_true rfl) d_Law_law_525 (fun r35 h35 n35 P35 => ?_)
    obtain ⟨rfl, e1, e2⟩ := P35
    subst e1
    subst e2
    refine j_istore d_Law_law_528 (Nat.le_of_ble_eq_true rfl) rfl ?_
    refine j_aload_n d_Law_law_530 3 rfl ?_
    refine j_aload_n d_Law_law_531 5 rfl ?_
    refine j_iload d_Law_law_532 1 rfl ?_
    refine j_iconst d_Law_law_534 (v := 1) (by decide) ?_
    refine j_iadd d_Law_law_535 ?_
    refine j_sld (v := xs 1) hX hbl (by unfold vp_in; decide) rfl d_Law_law_536 ?_
    refine j_callV (n_ofDegree l Z (d + 208) _ _ HM (xs 1) (by by_cases h9 : xs 1 < 1; exact .inl h9; exact .inr (fun h8 => hc ⟨h9, h8⟩))) ⟨⟨Nat.le_of_ble_eq_true rfl, Nat.le_of_ble_eq_true rfl⟩, g_1202, g_1205, g_10, (by decide +kernel), (by decide +kernel), (show _ = some 1 from by decide +kernel)⟩ g_1203 g_1204 (ci := 9) rfl HM.1 ⟨(by first | exact Nat.le_of_ble_eq_true rfl | (simp only [jrm]; omega)), (by first | exact Nat.le_of_ble_eq_true rfl | (simp only [jrm]; omega))⟩ (Nat.le_of_ble_eq_true rfl) d_Law_law_537 (fun r36 h36 n36 P36 => ?_)
    obtain ⟨rfl, rfl, ⟨fs36, O36⟩, F36⟩ := P36
    have R36 := (F36 (d + 231) (by omega)).trans HR
    refine j_istore d_Law_law_540 (Nat.le_of_ble_eq_true rfl) rfl ?_
    refine j_aload_n d_Law_law_542 4 rfl ?_
    refine j_callV (k_thrown l Z (d + 208) _ _ _ _ O36) ⟨⟨Nat.le_of_ble_eq_true rfl, Nat.le_of_ble_eq_true rfl⟩, g_962, g_965, g_10, by decide +kernel⟩ g_963 g_964 (ci := 9) rfl O36 ⟨(by first | exact Nat.le_of_ble_eq_true rfl | (simp only [jrm]; omega)), (by first | exact Nat.le_of_ble_eq_true rfl | (simp only [jrm]; omega))⟩ (Nat.le_of_ble_eq_true rfl) d_Law_law_543 (fun r37 h37 n37 P37 => ?_)
    obtain ⟨rfl, rfl, rfl⟩ := P37
    refine j_iload d_Law_law_546 1 rfl ?_
    refine j_icmp_eq_t (tgt := 553) d_Law_law_548 (by decide) (by decide) ?_
    refine j_iload d_Law_law_553 1 rfl ?_
    refine j_if_ne_t (tgt := 570) d_Law_law_555 (by decide) (by decide) ?_
    refine j_goto (tgt := 822) d_Law_law_570 (by decide) ?_
    refine j_iinc d_Law_law_822 2 rfl rfl (Nat.le_of_ble_eq_true rfl) rfl ?_
    refine j_goto (tgt := 23) d_Law_law_825 (by decide) ?_
    refine j_iload d_Law_law_23 0 rfl ?_
    refine j_aload_n d_Law_law_25 6 rfl ?_
    refine j_slen hX hbl d_Law_law_26 ?_
    refine j_iconst d_Law_law_27 (v := 4) (by decide) ?_
    refine j_isub d_Law_law_28 ?_
    refine j_icmp_gt_t (tgt := 828) d_Law_law_29 (by decide) (by decide) ?_
    refine j_iconst d_Law_law_828 (v := 1) (by decide) ?_
    exact j_lawEnd (Nat.le_of_ble_eq_true rfl) (Nat.le_of_ble_eq_true rfl)
set_option maxHeartbeats 4000000 in
set_option maxRecDepth 100000 in
theorem lc_factor {b : Nat} {D : va_G} {Y : Nat → ClassId} {p : Program} {l : Launch} {e : Env} {s : State} {m : MethodId} {below : List Frame} {meth : Method} {c : Code} (Z : jS0 b D Y s) (xs : Nat → Int32) (hX : va_X b 4 xs s s.heap) (hbl : b < s.heap.size) (hlt : l.stackTraces = false) (d : Nat) (h : jH) (HD : jDesk Y h d) (HM : jModl Y h (d + 208)) (HR : h (d + 231) = some (.inl (Y 1, 1, .inr (.inl (fun _ => 0))))) : jW b D Y s p l e room_1 s m #[Value.ref b] below meth c "FactorDeskLaw" code 8 ret meth.name (lw_Z below #[Value.ref b] s) 369 [(4, .int 0), (3, .ref (d + 231)), (2, .ref (d + 208)), (1, .ref d), (0, .ref b)] [] h (d + 232) 232 14861 := by
  refine j_aload_n d_Law_law_369 3 rfl ?_
  refine j_aload_n d_Law_law_370 4 rfl ?_
  refine j_iload d_Law_law_371 0 rfl ?_
  refine j_iconst d_Law_law_373 (v := 1) (by decide) ?_
  refine j_iadd d_Law_law_374 ?_
  refine j_sld (v := xs 1) hX hbl (by unfold vp_in; decide) rfl d_Law_law_375 ?_
  refine j_aload_n d_Law_law_376 4 rfl ?_
  refine j_iload d_Law_law_377 0 rfl ?_
  refine j_iconst d_Law_law_379 (v := 2) (by decide) ?_
  refine j_iadd d_Law_law_380 ?_
  refine j_sld (v := xs 2) hX hbl (by unfold vp_in; decide) rfl d_Law_law_381 ?_
  refine j_aload_n d_Law_law_382 1 rfl ?_
  refine j_callSW (wx_factor l Z hlt d (d + 231) _ _ HD (xs 1) (xs 2)) ⟨⟨Nat.le_of_ble_eq_true rfl, Nat.le_of_ble_eq_true rfl⟩, g_771, g_773, g_0, (by decide +kernel), (by decide +kernel), (show _ = some 4 from by decide +kernel)⟩ g_772 ⟨Nat.le_of_ble_eq_true rfl, Nat.le_of_ble_eq_true rfl⟩ (Nat.le_of_ble_eq_true rfl) d_Law_law_383 (fun r38 h38 n38 P38 => ?_)
  obtain ⟨rfl, e1, e2⟩ := P38
  subst e1
  subst e2
  refine j_istore d_Law_law_386 (Nat.le_of_ble_eq_true rfl) rfl ?_
  refine j_aload_n d_Law_law_388 3 rfl ?_
  refine j_aload_n d_Law_law_389 5 rfl ?_
  refine j_iload d_Law_law_390 1 rfl ?_
  refine j_iconst d_Law_law_392 (v := 1) (by decide) ?_
  refine j_iadd d_Law_law_393 ?_
  refine j_sld (v := xs 1) hX hbl (by unfold vp_in; decide) rfl d_Law_law_394 ?_
  refine j_aload_n d_Law_law_395 5 rfl ?_
  refine j_iload d_Law_law_396 1 rfl ?_
  refine j_iconst d_Law_law_398 (v := 2) (by decide) ?_
  refine j_iadd d_Law_law_399 ?_
  refine j_sld (v := xs 2) hX hbl (by unfold vp_in; decide) rfl d_Law_law_400 ?_
  refine j_callV (n_factor l Z (d + 208) _ _ HM (xs 1) (xs 2)) ⟨⟨Nat.le_of_ble_eq_true rfl, Nat.le_of_ble_eq_true rfl⟩, g_1190, g_1193, g_10, (by decide +kernel), (by decide +kernel), (show _ = some 2 from by decide +kernel)⟩ g_1191 g_1192 (ci := 9) rfl HM.1 ⟨(by first | exact Nat.le_of_ble_eq_true rfl | (simp only [jrm]; omega)), (by first | exact Nat.le_of_ble_eq_true rfl | (simp only [jrm]; omega))⟩ (Nat.le_of_ble_eq_true rfl) d_Law_law_401 (fun r39 h39 n39 P39 => ?_)
  obtain ⟨rfl, rfl, ⟨fs39, O39⟩, F39⟩ := P39
  have R39 := (F39 (d + 231) (by omega)).trans HR
  refine j_istore d_Law_law_404 (Nat.le_of_ble_eq_true rfl) rfl ?_
  refine j_aload_n d_Law_law_406 4 rfl ?_
  refine j_callV (k_thrown l Z (d + 208) _ _ _ _ O39) ⟨⟨Nat.le_of_ble_eq_true rfl, Nat.le_of_ble_eq_true rfl⟩, g_962, g_965, g_10, by decide +kernel⟩ g_963 g_964 (ci := 9) rfl O39 ⟨(by first | exact Nat.le_of_ble_eq_true rfl | (simp only [jrm]; omega)), (by first | exact Nat.le_of_ble_eq_true rfl | (simp only [jrm]; omega))⟩ (Nat.le_of_ble_eq_true rfl) d_Law_law_407 (fun r40 h40 n40 P40 => ?_)
  obtain ⟨rfl, rfl, rfl⟩ := P40
  refine j_iload d_Law_law_410 1 rfl ?_
  refine j_icmp_eq_t (tgt := 417) d_Law_law_412 (by decide) (by decide) ?_
  refine j_iload d_Law_law_417 1 rfl ?_
  refine j_if_ne_t (tgt := 434) d_Law_law_419 (by decide) (by decide) ?_
  refine j_goto (tgt := 822) d_Law_law_434 (by decide) ?_
  refine j_iinc d_Law_law_822 2 rfl rfl (Nat.le_of_ble_eq_true rfl) rfl ?_
  refine j_goto (tgt := 23) d_Law_law_825 (by decide) ?_
  refine j_iload d_Law_law_23 0 rfl ?_
  refine j_aload_n d_Law_law_25 6 rfl ?_
  refine j_slen hX hbl d_Law_law_26 ?_
  refine j_iconst d_Law_law_27 (v := 4) (by decide) ?_
  refine j_isub d_Law_law_28 ?_
  refine j_icmp_gt_t (tgt := 828) d_Law_law_29 (by decide) (by decide) ?_
  refine j_iconst d_Law_law_828 (v := 1) (by decide) ?_
  exact j_lawEnd (Nat.le_of_ble_eq_true rfl) (Nat.le_of_ble_eq_true rfl)
set_option maxHeartbeats 4000000 in
set_option maxRecDepth 100000 in
theorem lc_part {b : Nat} {D : va_G} {Y : Nat → ClassId} {p : Program} {l : Launch} {e : Env} {s : State} {m : MethodId} {below : List Frame} {meth : Method} {c : Code} (Z : jS0 b D Y s) (xs : Nat → Int32) (hX : va_X b 4 xs s s.heap) (hbl : b < s.heap.size) (hlt : l.stackTraces = false) (d : Nat) (h : jH) (HD : jDesk Y h d) (HM : jModl Y h (d + 208)) (HR : h (d + 231) = some (.inl (Y 1, 1, .inr (.inl (fun _ => 0))))) : jW b D Y s p l e room_1 s m #[Value.ref b] below meth c "FactorDeskLaw" code 8 ret meth.name (lw_Z below #[Value.ref b] s) 437 [(4, .int 0), (3, .ref (d + 231)), (2, .ref (d + 208)), (1, .ref d), (0, .ref b)] [] h (d + 232) 232 14861 := by
  refine j_aload_n d_Law_law_437 3 rfl ?_
  refine j_aload_n d_Law_law_438 4 rfl ?_
  refine j_iload d_Law_law_439 0 rfl ?_
  refine j_iconst d_Law_law_441 (v := 1) (by decide) ?_
  refine j_iadd d_Law_law_442 ?_
  refine j_sld (v := xs 1) hX hbl (by unfold vp_in; decide) rfl d_Law_law_443 ?_
  refine j_aload_n d_Law_law_444 4 rfl ?_
  refine j_iload d_Law_law_445 0 rfl ?_
  refine j_iconst d_Law_law_447 (v := 2) (by decide) ?_
  refine j_iadd d_Law_law_448 ?_
  refine j_sld (v := xs 2) hX hbl (by unfold vp_in; decide) rfl d_Law_law_449 ?_
  refine j_aload_n d_Law_law_450 1 rfl ?_
  refine j_callSW (wx_part l Z hlt d (d + 231) _ _ HD (xs 1) (xs 2)) ⟨⟨Nat.le_of_ble_eq_true rfl, Nat.le_of_ble_eq_true rfl⟩, g_795, g_797, g_0, (by decide +kernel), (by decide +kernel), (show _ = some 4 from by decide +kernel)⟩ g_796 ⟨Nat.le_of_ble_eq_true rfl, Nat.le_of_ble_eq_true rfl⟩ (Nat.le_of_ble_eq_true rfl) d_Law_law_451 (fun r41 h41 n41 P41 => ?_)
  obtain ⟨rfl, e1, e2⟩ := P41
  subst e1
  subst e2
  refine j_istore d_Law_law_454 (Nat.le_of_ble_eq_true rfl) rfl ?_
  refine j_aload_n d_Law_law_456 3 rfl ?_
  refine j_aload_n d_Law_law_457 5 rfl ?_
  refine j_iload d_Law_law_458 1 rfl ?_
  refine j_iconst d_Law_law_460 (v := 1) (by decide) ?_
  refine j_iadd d_Law_law_461 ?_
  refine j_sld (v := xs 1) hX hbl (by unfold vp_in; decide) rfl d_Law_law_462 ?_
  refine j_aload_n d_Law_law_463 5 rfl ?_
  refine j_iload d_Law_law_464 1 rfl ?_
  refine j_iconst d_Law_law_466 (v := 2) (by decide) ?_
  refine j_iadd d_Law_law_467 ?_
  refine j_sld (v := xs 2) hX hbl (by unfold vp_in; decide) rfl d_Law_law_468 ?_
  refine j_callV (n_part l Z (d + 208) _ _ HM (xs 1) (xs 2)) ⟨⟨Nat.le_of_ble_eq_true rfl, Nat.le_of_ble_eq_true rfl⟩, g_1194, g_1197, g_10, (by decide +kernel), (by decide +kernel), (show _ = some 2 from by decide +kernel)⟩ g_1195 g_1196 (ci := 9) rfl HM.1 ⟨(by first | exact Nat.le_of_ble_eq_true rfl | (simp only [jrm]; omega)), (by first | exact Nat.le_of_ble_eq_true rfl | (simp only [jrm]; omega))⟩ (Nat.le_of_ble_eq_true rfl) d_Law_law_469 (fun r42 h42 n42 P42 => ?_)
  obtain ⟨rfl, rfl, ⟨fs42, O42⟩, F42⟩ := P42
  have R42 := (F42 (d + 231) (by omega)).trans HR
  refine j_lstore d_Law_law_472 (Nat.le_of_ble_eq_true rfl) rfl ?_
  refine j_aload_n d_Law_law_474 4 rfl ?_
  refine j_callV (k_thrown l Z (d + 208) _ _ _ _ O42) ⟨⟨Nat.le_of_ble_eq_true rfl, Nat.le_of_ble_eq_true rfl⟩, g_962, g_965, g_10, by decide +kernel⟩ g_963 g_964 (ci := 9) rfl O42 ⟨(by first | exact Nat.le_of_ble_eq_true rfl | (simp only [jrm]; omega)), (by first | exact Nat.le_of_ble_eq_true rfl | (simp only [jrm]; omega))⟩ (Nat.le_of_ble_eq_true rfl) d_Law_law_475 (fun r43 h43 n43 P43 => ?_)
  obtain ⟨rfl, rfl, rfl⟩ := P43
  refine j_iload d_Law_law_478 1 rfl ?_
  refine j_icmp_eq_t (tgt := 485) d_Law_law_480 (by decide) (by decide) ?_
  refine j_iload d_Law_law_485 1 rfl ?_
  refine j_if_ne_t (tgt := 501) d_Law_law_487 (by decide) (by decide) ?_
  refine j_goto (tgt := 822) d_Law_law_501 (by decide) ?_
  refine j_iinc d_Law_law_822 2 rfl rfl (Nat.le_of_ble_eq_true rfl) rfl ?_
  refine j_goto (tgt := 23) d_Law_law_825 (by decide) ?_
  refine j_iload d_Law_law_23 0 rfl ?_
  refine j_aload_n d_Law_law_25 6 rfl ?_
  refine j_slen hX hbl d_Law_law_26 ?_
  refine j_iconst d_Law_law_27 (v := 4) (by decide) ?_
  refine j_isub d_Law_law_28 ?_
  refine j_icmp_gt_t (tgt := 828) d_Law_law_29 (by decide) (by decide) ?_
  refine j_iconst d_Law_law_828 (v := 1) (by decide) ?_
  exact j_lawEnd (Nat.le_of_ble_eq_true rfl) (Nat.le_of_ble_eq_true rfl)
set_option maxHeartbeats 4000000 in
set_option maxRecDepth 100000 in
theorem lc_divisor {b : Nat} {D : va_G} {Y : Nat → ClassId} {p : Program} {l : Launch} {e : Env} {s : State} {m : MethodId} {below : List Frame} {meth : Method} {c : Code} (Z : jS0 b D Y s) (xs : Nat → Int32) (hX : va_X b 4 xs s s.heap) (hbl : b < s.heap.size) (hlt : l.stackTraces = false) (d : Nat) (h : jH) (HD : jDesk Y h d) (HM : jModl Y h (d + 208)) (HR : h (d + 231) = some (.inl (Y 1, 1, .inr (.inl (fun _ => 0))))) : jW b D Y s p l e room_1 s m #[Value.ref b] below meth c "FactorDeskLaw" code 8 ret meth.name (lw_Z below #[Value.ref b] s) 617 [(4, .int 0), (3, .ref (d + 231)), (2, .ref (d + 208)), (1, .ref d), (0, .ref b)] [] h (d + 232) 232 14861 := by
  by_cases hc : xs 1 = 0
  · refine j_aload_n d_Law_law_617 3 rfl ?_
    refine j_aload_n d_Law_law_618 4 rfl ?_
    refine j_iload d_Law_law_619 0 rfl ?_
    refine j_iconst d_Law_law_621 (v := 1) (by decide) ?_
    refine j_iadd d_Law_law_622 ?_
    refine j_sld (v := 0) hX hbl (by unfold vp_in; decide) hc d_Law_law_623 ?_
    refine j_aload_n d_Law_law_624 1 rfl ?_
    refine j_callSW (w_divisor l Z d (d + 231) _ _ HD _ (by omega) HR) ⟨⟨Nat.le_of_ble_eq_true rfl, Nat.le_of_ble_eq_true rfl⟩, g_823, g_825, g_0, (by decide +kernel), (by decide +kernel), (show _ = some 3 from by decide +kernel)⟩ g_824 ⟨Nat.le_of_ble_eq_true rfl, Nat.le_of_ble_eq_true rfl⟩ (Nat.le_of_ble_eq_true rfl) d_Law_law_625 (fun r44 h44 n44 P44 => ?_)
    obtain ⟨rfl, rfl, O44, F44⟩ := P44
    have HM44 := HM.keep (fun x h1 h2 => F44 x (by omega) (by omega))
    refine j_istore d_Law_law_628 (Nat.le_of_ble_eq_true rfl) rfl ?_
    refine j_aload_n d_Law_law_630 3 rfl ?_
    refine j_aload_n d_Law_law_631 5 rfl ?_
    refine j_iload d_Law_law_632 1 rfl ?_
    refine j_iconst d_Law_law_634 (v := 1) (by decide) ?_
    refine j_iadd d_Law_law_635 ?_
    refine j_sld (v := 0) hX hbl (by unfold vp_in; decide) hc d_Law_law_636 ?_
    refine j_callV (m_divisor l Z (d + 208) _ _ HM44) ⟨⟨Nat.le_of_ble_eq_true rfl, Nat.le_of_ble_eq_true rfl⟩, g_1210, g_1213, g_10, (by decide +kernel), (by decide +kernel), (show _ = some 1 from by decide +kernel)⟩ g_1211 g_1212 (ci := 9) rfl HM44.1 ⟨(by first | exact Nat.le_of_ble_eq_true rfl | (simp only [jrm]; omega)), (by first | exact Nat.le_of_ble_eq_true rfl | (simp only [jrm]; omega))⟩ (Nat.le_of_ble_eq_true rfl) d_Law_law_637 (fun r45 h45 n45 P45 => ?_)
    obtain ⟨rfl, rfl, ⟨fs45, O45⟩, F45⟩ := P45
    have R45 := (F45 (d + 231) (by omega)).trans O44
    refine j_lstore d_Law_law_640 (Nat.le_of_ble_eq_true rfl) rfl ?_
    refine j_aload_n d_Law_law_642 4 rfl ?_
    refine j_callV (k_thrown l Z (d + 208) _ _ _ _ O45) ⟨⟨Nat.le_of_ble_eq_true rfl, Nat.le_of_ble_eq_true rfl⟩, g_962, g_965, g_10, by decide +kernel⟩ g_963 g_964 (ci := 9) rfl O45 ⟨(by first | exact Nat.le_of_ble_eq_true rfl | (simp only [jrm]; omega)), (by first | exact Nat.le_of_ble_eq_true rfl | (simp only [jrm]; omega))⟩ (Nat.le_of_ble_eq_true rfl) d_Law_law_643 (fun r46 h46 n46 P46 => ?_)
    obtain ⟨rfl, rfl, rfl⟩ := P46
    refine j_iload d_Law_law_646 1 rfl ?_
    refine j_icmp_eq_t (tgt := 653) d_Law_law_648 (by decide) (by decide) ?_
    refine j_iload d_Law_law_653 1 rfl ?_
    refine j_if_ne_f (tgt := 669) d_Law_law_655 (by decide) (by decide) ?_
    refine j_aload_n d_Law_law_658 3 rfl ?_
    refine j_iconst d_Law_law_659 (v := 0) (by decide) ?_
    refine j_lald d_Law_law_660 R45 (by unfold vp_in; decide) ?_
    refine j_lload d_Law_law_661 0 rfl ?_
    refine j_lcmp d_Law_law_663 ?_
    refine j_if_eq_t (tgt := 669) d_Law_law_664 (by decide) (lgc rfl) ?_
    refine j_goto (tgt := 822) d_Law_law_669 (by decide) ?_
    refine j_iinc d_Law_law_822 2 rfl rfl (Nat.le_of_ble_eq_true rfl) rfl ?_
    refine j_goto (tgt := 23) d_Law_law_825 (by decide) ?_
    refine j_iload d_Law_law_23 0 rfl ?_
    refine j_aload_n d_Law_law_25 6 rfl ?_
    refine j_slen hX hbl d_Law_law_26 ?_
    refine j_iconst d_Law_law_27 (v := 4) (by decide) ?_
    refine j_isub d_Law_law_28 ?_
    refine j_icmp_gt_t (tgt := 828) d_Law_law_29 (by decide) (by decide) ?_
    refine j_iconst d_Law_law_828 (v := 1) (by decide) ?_
    exact j_lawEnd (Nat.le_of_ble_eq_true rfl) (Nat.le_of_ble_eq_true rfl)
  · refine j_aload_n d_Law_law_617 3 rfl ?_
    refine j_aload_n d_Law_law_618 4 rfl ?_
    refine j_iload d_Law_law_619 0 rfl ?_
    refine j_iconst d_Law_law_621 (v := 1) (by decide) ?_
    refine j_iadd d_Law_law_622 ?_
    refine j_sld (v := xs 1) hX hbl (by unfold vp_in; decide) rfl d_Law_law_623 ?_
    refine j_aload_n d_Law_law_624 1 rfl ?_
    refine j_callSW (wx_divisor l Z hlt d (d + 231) _ _ HD (xs 1) hc) ⟨⟨Nat.le_of_ble_eq_true rfl, Nat.le_of_ble_eq_true rfl⟩, g_823, g_825, g_0, (by decide +kernel), (by decide +kernel), (show _ = some 3 from by decide +kernel)⟩ g_824 ⟨Nat.le_of_ble_eq_true rfl, Nat.le_of_ble_eq_true rfl⟩ (Nat.le_of_ble_eq_true rfl) d_Law_law_625 (fun r47 h47 n47 P47 => ?_)
    obtain ⟨rfl, e1, e2⟩ := P47
    subst e1
    subst e2
    refine j_istore d_Law_law_628 (Nat.le_of_ble_eq_true rfl) rfl ?_
    refine j_aload_n d_Law_law_630 3 rfl ?_
    refine j_aload_n d_Law_law_631 5 rfl ?_
    refine j_iload d_Law_law_632 1 rfl ?_
    refine j_iconst d_Law_law_634 (v := 1) (by decide) ?_
    refine j_iadd d_Law_law_635 ?_
    refine j_sld (v := xs 1) hX hbl (by unfold vp_in; decide) rfl d_Law_law_636 ?_
    refine j_callV (n_divisor l Z (d + 208) _ _ HM (xs 1) hc) ⟨⟨Nat.le_of_ble_eq_true rfl, Nat.le_of_ble_eq_true rfl⟩, g_1210, g_1213, g_10, (by decide +kernel), (by decide +kernel), (show _ = some 1 from by decide +kernel)⟩ g_1211 g_1212 (ci := 9) rfl HM.1 ⟨(by first | exact Nat.le_of_ble_eq_true rfl | (simp only [jrm]; omega)), (by first | exact Nat.le_of_ble_eq_true rfl | (simp only [jrm]; omega))⟩ (Nat.le_of_ble_eq_true rfl) d_Law_law_637 (fun r48 h48 n48 P48 => ?_)
    obtain ⟨rfl, rfl, ⟨fs48, O48⟩, F48⟩ := P48
    have R48 := (F48 (d + 231) (by omega)).trans HR
    refine j_lstore d_Law_law_640 (Nat.le_of_ble_eq_true rfl) rfl ?_
    refine j_aload_n d_Law_law_642 4 rfl ?_
    refine j_callV (k_thrown l Z (d + 208) _ _ _ _ O48) ⟨⟨Nat.le_of_ble_eq_true rfl, Nat.le_of_ble_eq_true rfl⟩, g_962, g_965, g_10, by decide +kernel⟩ g_963 g_964 (ci := 9) rfl O48 ⟨(by first | exact Nat.le_of_ble_eq_true rfl | (simp only [jrm]; omega)), (by first | exact Nat.le_of_ble_eq_true rfl | (simp only [jrm]; omega))⟩ (Nat.le_of_ble_eq_true rfl) d_Law_law_643 (fun r49 h49 n49 P49 => ?_)
    obtain ⟨rfl, rfl, rfl⟩ := P49
    refine j_iload d_Law_law_646 1 rfl ?_
    refine j_icmp_eq_t (tgt := 653) d_Law_law_648 (by decide) (by decide) ?_
    refine j_iload d_Law_law_653 1 rfl ?_
    refine j_if_ne_t (tgt := 669) d_Law_law_655 (by decide) (by decide) ?_
    refine j_goto (tgt := 822) d_Law_law_669 (by decide) ?_
    refine j_iinc d_Law_law_822 2 rfl rfl (Nat.le_of_ble_eq_true rfl) rfl ?_
    refine j_goto (tgt := 23) d_Law_law_825 (by decide) ?_
    refine j_iload d_Law_law_23 0 rfl ?_
    refine j_aload_n d_Law_law_25 6 rfl ?_
    refine j_slen hX hbl d_Law_law_26 ?_
    refine j_iconst d_Law_law_27 (v := 4) (by decide) ?_
    refine j_isub d_Law_law_28 ?_
    refine j_icmp_gt_t (tgt := 828) d_Law_law_29 (by decide) (by decide) ?_
    refine j_iconst d_Law_law_828 (v := 1) (by decide) ?_
    exact j_lawEnd (Nat.le_of_ble_eq_true rfl) (Nat.le_of_ble_eq_true rfl)
set_option maxHeartbeats 4000000 in
set_option maxRecDepth 100000 in
theorem lc_value {b : Nat} {D : va_G} {Y : Nat → ClassId} {p : Program} {l : Launch} {e : Env} {s : State} {m : MethodId} {below : List Frame} {meth : Method} {c : Code} (Z : jS0 b D Y s) (xs : Nat → Int32) (hX : va_X b 4 xs s s.heap) (hbl : b < s.heap.size) (hlt : l.stackTraces = false) (d : Nat) (h : jH) (HD : jDesk Y h d) (HM : jModl Y h (d + 208)) (HR : h (d + 231) = some (.inl (Y 1, 1, .inr (.inl (fun _ => 0))))) : jW b D Y s p l e room_1 s m #[Value.ref b] below meth c "FactorDeskLaw" code 8 ret meth.name (lw_Z below #[Value.ref b] s) 723 [(4, .int 0), (3, .ref (d + 231)), (2, .ref (d + 208)), (1, .ref d), (0, .ref b)] [] h (d + 232) 232 14861 := by
  by_cases hc : 1 ≤ xs 3
  · refine j_aload_n d_Law_law_723 3 rfl ?_
    refine j_aload_n d_Law_law_724 4 rfl ?_
    refine j_iload d_Law_law_725 0 rfl ?_
    refine j_iconst d_Law_law_727 (v := 1) (by decide) ?_
    refine j_iadd d_Law_law_728 ?_
    refine j_sld (v := xs 1) hX hbl (by unfold vp_in; decide) rfl d_Law_law_729 ?_
    refine j_i2l d_Law_law_730 rfl ?_
    refine j_bipush d_Law_law_731 (v := 32) (by decide) ?_
    refine j_lshl d_Law_law_733 rfl ?_
    refine j_aload_n d_Law_law_734 4 rfl ?_
    refine j_iload d_Law_law_735 0 rfl ?_
    refine j_iconst d_Law_law_737 (v := 2) (by decide) ?_
    refine j_iadd d_Law_law_738 ?_
    refine j_sld (v := xs 2) hX hbl (by unfold vp_in; decide) rfl d_Law_law_739 ?_
    refine j_i2l d_Law_law_740 rfl ?_
    refine j_ldc2 g_1222 d_Law_law_741 ?_
    refine j_land d_Law_law_744 ?_
    refine j_lor d_Law_law_745 ?_
    refine j_aload_n d_Law_law_746 4 rfl ?_
    refine j_iload d_Law_law_747 0 rfl ?_
    refine j_iconst d_Law_law_749 (v := 3) (by decide) ?_
    refine j_iadd d_Law_law_750 ?_
    refine j_sld (v := xs 3) hX hbl (by unfold vp_in; decide) rfl d_Law_law_751 ?_
    refine j_aload_n d_Law_law_752 1 rfl ?_
    refine j_callSW (w_value l Z d (d + 231) _ _ HD _ (xs 3) hc (m64_ne hc) _ (by omega) HR) ⟨⟨Nat.le_of_ble_eq_true rfl, Nat.le_of_ble_eq_true rfl⟩, g_840, g_842, g_0, (by decide +kernel), (by decide +kernel), (show _ = some 4 from by decide +kernel)⟩ g_841 ⟨Nat.le_of_ble_eq_true rfl, Nat.le_of_ble_eq_true rfl⟩ (Nat.le_of_ble_eq_true rfl) d_Law_law_753 (fun r50 h50 n50 P50 => ?_)
    obtain ⟨rfl, rfl, O50, F50⟩ := P50
    have HM50 := HM.keep (fun x h1 h2 => F50 x (by omega) (by omega))
    refine j_istore d_Law_law_756 (Nat.le_of_ble_eq_true rfl) rfl ?_
    refine j_aload_n d_Law_law_758 3 rfl ?_
    refine j_aload_n d_Law_law_759 5 rfl ?_
    refine j_iload d_Law_law_760 1 rfl ?_
    refine j_iconst d_Law_law_762 (v := 1) (by decide) ?_
    refine j_iadd d_Law_law_763 ?_
    refine j_sld (v := xs 1) hX hbl (by unfold vp_in; decide) rfl d_Law_law_764 ?_
    refine j_i2l d_Law_law_765 rfl ?_
    refine j_bipush d_Law_law_766 (v := 32) (by decide) ?_
    refine j_lshl d_Law_law_768 rfl ?_
    refine j_aload_n d_Law_law_769 5 rfl ?_
    refine j_iload d_Law_law_770 1 rfl ?_
    refine j_iconst d_Law_law_772 (v := 2) (by decide) ?_
    refine j_iadd d_Law_law_773 ?_
    refine j_sld (v := xs 2) hX hbl (by unfold vp_in; decide) rfl d_Law_law_774 ?_
    refine j_i2l d_Law_law_775 rfl ?_
    refine j_ldc2 g_1222 d_Law_law_776 ?_
    refine j_land d_Law_law_779 ?_
    refine j_lor d_Law_law_780 ?_
    refine j_aload_n d_Law_law_781 5 rfl ?_
    refine j_iload d_Law_law_782 1 rfl ?_
    refine j_iconst d_Law_law_784 (v := 3) (by decide) ?_
    refine j_iadd d_Law_law_785 ?_
    refine j_sld (v := xs 3) hX hbl (by unfold vp_in; decide) rfl d_Law_law_786 ?_
    refine j_callV (m_value l Z (d + 208) _ _ HM50 _ (xs 3) hc (m64_ne hc)) ⟨⟨Nat.le_of_ble_eq_true rfl, Nat.le_of_ble_eq_true rfl⟩, g_1218, g_1221, g_10, (by decide +kernel), (by decide +kernel), (show _ = some 2 from by decide +kernel)⟩ g_1219 g_1220 (ci := 9) rfl HM50.1 ⟨(by first | exact Nat.le_of_ble_eq_true rfl | (simp only [jrm]; omega)), (by first | exact Nat.le_of_ble_eq_true rfl | (simp only [jrm]; omega))⟩ (Nat.le_of_ble_eq_true rfl) d_Law_law_787 (fun r51 h51 n51 P51 => ?_)
    obtain ⟨rfl, rfl, ⟨fs51, O51⟩, F51⟩ := P51
    have R51 := (F51 (d + 231) (by omega)).trans O50
    refine j_lstore d_Law_law_790 (Nat.le_of_ble_eq_true rfl) rfl ?_
    refine j_aload_n d_Law_law_792 4 rfl ?_
    refine j_callV (k_thrown l Z (d + 208) _ _ _ _ O51) ⟨⟨Nat.le_of_ble_eq_true rfl, Nat.le_of_ble_eq_true rfl⟩, g_962, g_965, g_10, by decide +kernel⟩ g_963 g_964 (ci := 9) rfl O51 ⟨(by first | exact Nat.le_of_ble_eq_true rfl | (simp only [jrm]; omega)), (by first | exact Nat.le_of_ble_eq_true rfl | (simp only [jrm]; omega))⟩ (Nat.le_of_ble_eq_true rfl) d_Law_law_793 (fun r52 h52 n52 P52 => ?_)
    obtain ⟨rfl, rfl, rfl⟩ := P52
    refine j_iload d_Law_law_796 1 rfl ?_
    refine j_icmp_eq_t (tgt := 803) d_Law_law_798 (by decide) (by decide) ?_
    refine j_iload d_Law_law_803 1 rfl ?_
    refine j_if_ne_f (tgt := 819) d_Law_law_805 (by decide) (by decide) ?_
    refine j_aload_n d_Law_law_808 3 rfl ?_
    refine j_iconst d_Law_law_809 (v := 0) (by decide) ?_
    refine j_lald d_Law_law_810 R51 (by unfold vp_in; decide) ?_
    refine j_lload d_Law_law_811 0 rfl ?_
    refine j_lcmp d_Law_law_813 ?_
    refine j_if_eq_t (tgt := 819) d_Law_law_814 (by decide) (lgc (jv_eq hc _ _)) ?_
    refine j_goto (tgt := 822) d_Law_law_819 (by decide) ?_
    refine j_iinc d_Law_law_822 2 rfl rfl (Nat.le_of_ble_eq_true rfl) rfl ?_
    refine j_goto (tgt := 23) d_Law_law_825 (by decide) ?_
    refine j_iload d_Law_law_23 0 rfl ?_
    refine j_aload_n d_Law_law_25 6 rfl ?_
    refine j_slen hX hbl d_Law_law_26 ?_
    refine j_iconst d_Law_law_27 (v := 4) (by decide) ?_
    refine j_isub d_Law_law_28 ?_
    refine j_icmp_gt_t (tgt := 828) d_Law_law_29 (by decide) (by decide) ?_
    refine j_iconst d_Law_law_828 (v := 1) (by decide) ?_
    exact j_lawEnd (Nat.le_of_ble_eq_true rfl) (Nat.le_of_ble_eq_true rfl)
  · refine j_aload_n d_Law_law_723 3 rfl ?_
    refine j_aload_n d_Law_law_724 4 rfl ?_
    refine j_iload d_Law_law_725 0 rfl ?_
    refine j_iconst d_Law_law_727 (v := 1) (by decide) ?_
    refine j_iadd d_Law_law_728 ?_
    refine j_sld (v := xs 1) hX hbl (by unfold vp_in; decide) rfl d_Law_law_729 ?_
    refine j_i2l d_Law_law_730 rfl ?_
    refine j_bipush d_Law_law_731 (v := 32) (by decide) ?_
    refine j_lshl d_Law_law_733 rfl ?_
    refine j_aload_n d_Law_law_734 4 rfl ?_
    refine j_iload d_Law_law_735 0 rfl ?_
    refine j_iconst d_Law_law_737 (v := 2) (by decide) ?_
    refine j_iadd d_Law_law_738 ?_
    refine j_sld (v := xs 2) hX hbl (by unfold vp_in; decide) rfl d_Law_law_739 ?_
    refine j_i2l d_Law_law_740 rfl ?_
    refine j_ldc2 g_1222 d_Law_law_741 ?_
    refine j_land d_Law_law_744 ?_
    refine j_lor d_Law_law_745 ?_
    refine j_aload_n d_Law_law_746 4 rfl ?_
    refine j_iload d_Law_law_747 0 rfl ?_
    refine j_iconst d_Law_law_749 (v := 3) (by decide) ?_
    refine j_iadd d_Law_law_750 ?_
    refine j_sld (v := xs 3) hX hbl (by unfold vp_in; decide) rfl d_Law_law_751 ?_
    refine j_aload_n d_Law_law_752 1 rfl ?_
    refine j_callSW (wx_value l Z hlt d (d + 231) _ _ HD _ (xs 3) hc) ⟨⟨Nat.le_of_ble_eq_true rfl, Nat.le_of_ble_eq_true rfl⟩, g_840, g_842, g_0, (by decide +kernel), (by decide +kernel), (show _ = some 4 from by decide +kernel)⟩ g_841 ⟨Nat.le_of_ble_eq_true rfl, Nat.le_of_ble_eq_true rfl⟩ (Nat.le_of_ble_eq_true rfl) d_Law_law_753 (fun r53 h53 n53 P53 => ?_)
    obtain ⟨rfl, e1, e2⟩ := P53
    subst e1
    subst e2
    refine j_istore d_Law_law_756 (Nat.le_of_ble_eq_true rfl) rfl ?_
    refine j_aload_n d_Law_law_758 3 rfl ?_
    refine j_aload_n d_Law_law_759 5 rfl ?_
    refine j_iload d_Law_law_760 1 rfl ?_
    refine j_iconst d_Law_law_762 (v := 1) (by decide) ?_
    refine j_iadd d_Law_law_763 ?_
    refine j_sld (v := xs 1) hX hbl (by unfold vp_in; decide) rfl d_Law_law_764 ?_
    refine j_i2l d_Law_law_765 rfl ?_
    refine j_bipush d_Law_law_766 (v := 32) (by decide) ?_
    refine j_lshl d_Law_law_768 rfl ?_
    refine j_aload_n d_Law_law_769 5 rfl ?_
    refine j_iload d_Law_law_770 1 rfl ?_
    refine j_iconst d_Law_law_772 (v := 2) (by decide) ?_
    refine j_iadd d_Law_law_773 ?_
    refine j_sld (v := xs 2) hX hbl (by unfold vp_in; decide) rfl d_Law_law_774 ?_
    refine j_i2l d_Law_law_775 rfl ?_
    refine j_ldc2 g_1222 d_Law_law_776 ?_
    refine j_land d_Law_law_779 ?_
    refine j_lor d_Law_law_780 ?_
    refine j_aload_n d_Law_law_781 5 rfl ?_
    refine j_iload d_Law_law_782 1 rfl ?_
    refine j_iconst d_Law_law_784 (v := 3) (by decide) ?_
    refine j_iadd d_Law_law_785 ?_
    refine j_sld (v := xs 3) hX hbl (by unfold vp_in; decide) rfl d_Law_law_786 ?_
    refine j_callV (n_value l Z (d + 208) _ _ HM _ (xs 3) hc) ⟨⟨Nat.le_of_ble_eq_true rfl, Nat.le_of_ble_eq_true rfl⟩, g_1218, g_1221, g_10, (by decide +kernel), (by decide +kernel), (show _ = some 2 from by decide +kernel)⟩ g_1219 g_1220 (ci := 9) rfl HM.1 ⟨(by first | exact Nat.le_of_ble_eq_true rfl | (simp only [jrm]; omega)), (by first | exact Nat.le_of_ble_eq_true rfl | (simp only [jrm]; omega))⟩ (Nat.le_of_ble_eq_true rfl) d_Law_law_787 (fun r54 h54 n54 P54 => ?_)
    obtain ⟨rfl, rfl, ⟨fs54, O54⟩, F54⟩ := P54
    have R54 := (F54 (d + 231) (by omega)).trans HR
    refine j_lstore d_Law_law_790 (Nat.le_of_ble_eq_true rfl) rfl ?_
    refine j_aload_n d_Law_law_792 4 rfl ?_
    refine j_callV (k_thrown l Z (d + 208) _ _ _ _ O54) ⟨⟨Nat.le_of_ble_eq_true rfl, Nat.le_of_ble_eq_true rfl⟩, g_962, g_965, g_10, by decide +kernel⟩ g_963 g_964 (ci := 9) rfl O54 ⟨(by first | exact Nat.le_of_ble_eq_true rfl | (simp only [jrm]; omega)), (by first | exact Nat.le_of_ble_eq_true rfl | (simp only [jrm]; omega))⟩ (Nat.le_of_ble_eq_true rfl) d_Law_law_793 (fun r55 h55 n55 P55 => ?_)
    obtain ⟨rfl, rfl, rfl⟩ := P55
    refine j_iload d_Law_law_796 1 rfl ?_
    refine j_icmp_eq_t (tgt := 803) d_Law_law_798 (by decide) (by decide) ?_
    refine j_iload d_Law_law_803 1 rfl ?_
    refine j_if_ne_t (tgt := 819) d_Law_law_805 (by decide) (by decide) ?_
    refine j_goto (tgt := 822) d_Law_law_819 (by decide) ?_
    refine j_iinc d_Law_law_822 2 rfl rfl (Nat.le_of_ble_eq_true rfl) rfl ?_
    refine j_goto (tgt := 23) d_Law_law_825 (by decide) ?_
    refine j_iload d_Law_law_23 0 rfl ?_
    refine j_aload_n d_Law_law_25 6 rfl ?_
    refine j_slen hX hbl d_Law_law_26 ?_
    refine j_iconst d_Law_law_27 (v := 4) (by decide) ?_
    refine j_isub d_Law_law_28 ?_
    refine j_icmp_gt_t (tgt := 828) d_Law_law_29 (by decide) (by decide) ?_
    refine j_iconst d_Law_law_828 (v := 1) (by decide) ?_
    exact j_lawEnd (Nat.le_of_ble_eq_true rfl) (Nat.le_of_ble_eq_true rfl)
end
section
theorem g_19 : jG (Jvm.Cond.classLink "FactorDeskLaw" (8 : Nat) "FactorDesk") := jG_of 84 (by decide +kernel) (by decide +kernel)
theorem g_20 : jG (Jvm.Cond.instantiable "FactorDesk" (10 : Nat)) := jG_of 85 (by decide +kernel) (by decide +kernel)
theorem g_21 : jG (Jvm.Cond.methodLink "FactorDeskLaw" (55 : Nat) ({ cls := "FactorDesk", name := "<init>", desc := "()V" } : Jvm.MethodName)) := jG_of 86 (by decide +kernel) (by decide +kernel)
theorem g_23 : jG (Jvm.Cond.code ({ cls := "FactorDesk", name := "<init>", desc := "()V" } : Jvm.MethodName) prog_1_method_1_code (1 : Nat) (Option.none : Option Jvm.ClassFile.FieldType)) := jG_of 88 (by decide +kernel) (by decide +kernel)
theorem g_22 : jG (Jvm.Cond.instanceMethod ({ cls := "FactorDesk", name := "<init>", desc := "()V" } : Jvm.MethodName)) := jG_of 87 (by decide +kernel) (by decide +kernel)
theorem g_849 : jG (Jvm.Cond.classLink "FactorDeskLaw" (56 : Nat) "FactorDeskModel") := jG_of 914 (by decide +kernel) (by decide +kernel)
theorem g_850 : jG (Jvm.Cond.instantiable "FactorDeskModel" (35 : Nat)) := jG_of 915 (by decide +kernel) (by decide +kernel)
theorem g_851 : jG (Jvm.Cond.methodLink "FactorDeskLaw" (58 : Nat) ({ cls := "FactorDeskModel", name := "<init>", desc := "()V" } : Jvm.MethodName)) := jG_of 916 (by decide +kernel) (by decide +kernel)
theorem g_853 : jG (Jvm.Cond.code ({ cls := "FactorDeskModel", name := "<init>", desc := "()V" } : Jvm.MethodName) prog_11_method_1_code (1 : Nat) (Option.none : Option Jvm.ClassFile.FieldType)) := jG_of 918 (by decide +kernel) (by decide +kernel)
theorem g_852 : jG (Jvm.Cond.instanceMethod ({ cls := "FactorDeskModel", name := "<init>", desc := "()V" } : Jvm.MethodName)) := jG_of 917 (by decide +kernel) (by decide +kernel)
theorem and15 (x : Int32) : ∃ v : Nat, v < 16 ∧ x &&& 15 = nI v := by
  refine ⟨(x &&& 15).toBitVec.toNat, ?_, ?_⟩
  · rw [Int32.toBitVec_and, BitVec.toNat_and]
    have : (15 : Int32).toBitVec.toNat = 15 := by decide
    rw [this]
    have := @Nat.and_le_right x.toBitVec.toNat 15
    omega
  · apply Int32.toBitVec_inj.mp
    show _ = (Int32.ofNat _).toBitVec
    rw [Int32.toBitVec_ofNat', BitVec.ofNat_toNat, BitVec.setWidth_eq]
theorem d_Law_law_39 : decode code 39 = .ok (.tableswitch 783 0 15 #[77, 133, 146, 190, 234, 290, 303, 317, 330, 398, 465, 478, 534, 578, 633, 684], 77) := by decide +kernel
set_option maxHeartbeats 4000000 in
set_option maxRecDepth 100000 in
theorem law_23 {b : Nat} {D : va_G} {Y : Nat → ClassId} {p : Program} {l : Launch} {e : Env} {s : State} {m : MethodId} {below : List Frame} {meth : Method} {c : Code} {L : Nat} (Z : jS0 b D Y s) (hL : L ≤ 4) (xs : Nat → Int32) (hX : va_X b L xs s s.heap) (hbl : b < s.heap.size) (hlt : l.stackTraces = false) (d : Nat) (h : jH) (HD : jDesk Y h d) (HM : jModl Y h (d + 208)) (HR : h (d + 231) = some (.inl (Y 1, 1, .inr (.inl (fun _ => 0))))) : jW b D Y s p l e room_1 s m #[Value.ref b] below meth c "FactorDeskLaw" code 8 ret meth.name (lw_Z below #[Value.ref b] s) 23 [(4, .int 0), (3, .ref (d + 231)), (2, .ref (d + 208)), (1, .ref d), (0, .ref b)] [] h (d + 232) 232 14861 := by
  by_cases h4 : L = 4
  · subst h4
    refine j_iload d_Law_law_23 0 rfl ?_
    refine j_aload_n d_Law_law_25 4 rfl ?_
    refine j_slen hX hbl d_Law_law_26 ?_
    refine j_iconst d_Law_law_27 (v := 4) (by decide) ?_
    refine j_isub d_Law_law_28 ?_
    refine j_icmp_gt_f (tgt := 828) d_Law_law_29 (by decide) (by decide) ?_
    refine j_aload_n d_Law_law_32 4 rfl ?_
    refine j_iload d_Law_law_33 0 rfl ?_
    refine j_sld (v := xs 0) hX hbl (by unfold vp_in; decide) rfl d_Law_law_35 ?_
    refine j_bipush d_Law_law_36 (v := 15) (by decide) ?_
    refine j_iand d_Law_law_38 ?_
    obtain ⟨v, hv, hx⟩ := and15 (xs 0)
    have hv2 : v = 0 ∨ v = 1 ∨ v = 2 ∨ v = 3 ∨ v = 4 ∨ v = 5 ∨ v = 6 ∨ v = 7 ∨ v = 8 ∨ v = 9 ∨ v = 10 ∨ v = 11 ∨ v = 12 ∨ v = 13 ∨ v = 14 ∨ v = 15 := by omega
    rcases hv2 with rfl | rfl | rfl | rfl | rfl | rfl | rfl | rfl | rfl | rfl | rfl | rfl | rfl | rfl | rfl | rfl
    · refine j_tableIn (tgt := 116) (off := 77) d_Law_law_39 (by rw [hx]; decide) (by rw [hx]; decide) (by rw [hx]; decide) (by decide) ?_
      exact lc_put Z xs hX hbl hlt d h HD HM HR
    · refine j_tableIn (tgt := 172) (off := 133) d_Law_law_39 (by rw [hx]; decide) (by rw [hx]; decide) (by rw [hx]; decide) (by decide) ?_
      exact lc_clear Z xs hX hbl hlt d h HD HM HR
    · refine j_tableIn (tgt := 185) (off := 146) d_Law_law_39 (by rw [hx]; decide) (by rw [hx]; decide) (by rw [hx]; decide) (by decide) ?_
      exact lc_take Z xs hX hbl hlt d h HD HM HR
    · refine j_tableIn (tgt := 229) (off := 190) d_Law_law_39 (by rw [hx]; decide) (by rw [hx]; decide) (by rw [hx]; decide) (by decide) ?_
      exact lc_times Z xs hX hbl hlt d h HD HM HR
    · refine j_tableIn (tgt := 273) (off := 234) d_Law_law_39 (by rw [hx]; decide) (by rw [hx]; decide) (by rw [hx]; decide) (by decide) ?_
      exact lc_at Z xs hX hbl hlt d h HD HM HR
    · refine j_tableIn (tgt := 329) (off := 290) d_Law_law_39 (by rw [hx]; decide) (by rw [hx]; decide) (by rw [hx]; decide) (by decide) ?_
      exact lc_degree Z xs hX hbl hlt d h HD HM HR
    · refine j_tableIn (tgt := 342) (off := 303) d_Law_law_39 (by rw [hx]; decide) (by rw [hx]; decide) (by rw [hx]; decide) (by decide) ?_
      exact lc_content Z xs hX hbl hlt d h HD HM HR
    · refine j_tableIn (tgt := 356) (off := 317) d_Law_law_39 (by rw [hx]; decide) (by rw [hx]; decide) (by rw [hx]; decide) (by decide) ?_
      exact lc_factors Z xs hX hbl hlt d h HD HM HR
    · refine j_tableIn (tgt := 369) (off := 330) d_Law_law_39 (by rw [hx]; decide) (by rw [hx]; decide) (by rw [hx]; decide) (by decide) ?_
      exact lc_factor Z xs hX hbl hlt d h HD HM HR
    · refine j_tableIn (tgt := 437) (off := 398) d_Law_law_39 (by rw [hx]; decide) (by rw [hx]; decide) (by rw [hx]; decide) (by decide) ?_
      exact lc_part Z xs hX hbl hlt d h HD HM HR
    · refine j_tableIn (tgt := 504) (off := 465) d_Law_law_39 (by rw [hx]; decide) (by rw [hx]; decide) (by rw [hx]; decide) (by decide) ?_
      exact lc_isIrr Z xs hX hbl hlt d h HD HM HR
    · refine j_tableIn (tgt := 517) (off := 478) d_Law_law_39 (by rw [hx]; decide) (by rw [hx]; decide) (by rw [hx]; decide) (by decide) ?_
      exact lc_ofDegree Z xs hX hbl hlt d h HD HM HR
    · refine j_tableIn (tgt := 573) (off := 534) d_Law_law_39 (by rw [hx]; decide) (by rw [hx]; decide) (by rw [hx]; decide) (by decide) ?_
      exact lc_common Z xs hX hbl hlt d h HD HM HR
    · refine j_tableIn (tgt := 617) (off := 578) d_Law_law_39 (by rw [hx]; decide) (by rw [hx]; decide) (by rw [hx]; decide) (by decide) ?_
      exact lc_divisor Z xs hX hbl hlt d h HD HM HR
    · refine j_tableIn (tgt := 672) (off := 633) d_Law_law_39 (by rw [hx]; decide) (by rw [hx]; decide) (by rw [hx]; decide) (by decide) ?_
      exact lc_divides Z xs hX hbl hlt d h HD HM HR
    · refine j_tableIn (tgt := 723) (off := 684) d_Law_law_39 (by rw [hx]; decide) (by rw [hx]; decide) (by rw [hx]; decide) (by decide) ?_
      exact lc_value Z xs hX hbl hlt d h HD HM HR
  · have h5 : (Int32.ofNat L - 4 : Int32) < 0 := by
      have h6 : L = 0 ∨ L = 1 ∨ L = 2 ∨ L = 3 := by omega
      rcases h6 with rfl | rfl | rfl | rfl <;> decide
    refine j_iload d_Law_law_23 0 rfl ?_
    refine j_aload_n d_Law_law_25 4 rfl ?_
    refine j_slen hX hbl d_Law_law_26 ?_
    refine j_iconst d_Law_law_27 (v := 4) (by decide) ?_
    refine j_isub d_Law_law_28 ?_
    refine j_icmp_gt_t (tgt := 828) d_Law_law_29 (by decide) h5 ?_
    refine j_iconst d_Law_law_828 (v := 1) (by decide) ?_
    exact j_lawEnd (Nat.le_of_ble_eq_true rfl) (Nat.le_of_ble_eq_true rfl)
set_option maxHeartbeats 4000000 in
set_option maxRecDepth 100000 in
theorem law_0 {b : Nat} {D : va_G} {Y : Nat → ClassId} {p : Program} {l : Launch} {e : Env} {s : State} {m : MethodId} {below : List Frame} {meth : Method} {c : Code} {L : Nat} (Z : jS0 b D Y s) (hL : L ≤ 4) (xs : Nat → Int32) (hX : va_X b L xs s s.heap) (hbl : b < s.heap.size) (hlt : l.stackTraces = false) (d : Nat) : jW b D Y s p l e room_1 s m #[Value.ref b] below meth c "FactorDeskLaw" code 8 ret meth.name (lw_Z below #[Value.ref b] s) 0 [(0, .ref b)] [] (fun _ => none) d 0 0 := by
  refine j_new iw_Desk t_Desk t_Desk_ok (ci := 8) (fs := fs_Desk) rfl g_19 g_20 g_1 df_Desk (by first | exact Nat.le_of_ble_eq_true rfl | (simp only [jrm]; omega)) (by first | exact Nat.le_of_ble_eq_true rfl | (simp only [jrm]; omega)) d_Law_law_0 ?_
  refine j_dup d_Law_law_3 rfl ?_
  refine j_callI (k_Desk_init l Z d (d + 1) _ (by omega) (jh_up_s _ _ _)) ⟨⟨Nat.le_of_ble_eq_true rfl, Nat.le_of_ble_eq_true rfl⟩, g_21, g_23, g_1, by decide +kernel⟩ g_22 rfl ⟨(by first | exact Nat.le_of_ble_eq_true rfl | (simp only [jrm]; omega)), (by first | exact Nat.le_of_ble_eq_true rfl | (simp only [jrm]; omega))⟩ (Nat.le_of_ble_eq_true rfl) d_Law_law_4 (fun r41 h41 n41 P41 => ?_)
  obtain ⟨rfl, rfl, O41, X41_0, X41_1, X41_2, X41_3, X41_4, X41_5, X41_6, X41_7, X41_8, X41_9, F41⟩ := P41
  refine j_astore_n d_Law_law_7 (Nat.le_of_ble_eq_true rfl) rfl ?_
  refine j_new iw_Modl t_Modl t_Modl_ok (ci := 9) (fs := fs_Modl) rfl g_849 g_850 g_10 df_Modl (by first | exact Nat.le_of_ble_eq_true rfl | (simp only [jrm]; omega)) (by first | exact Nat.le_of_ble_eq_true rfl | (simp only [jrm]; omega)) d_Law_law_8 ?_
  refine j_dup d_Law_law_11 rfl ?_
  refine j_callI (k_Modl_init l Z (d + 208) (d + 209) _ (by omega) (jh_up_s _ _ _)) ⟨⟨Nat.le_of_ble_eq_true rfl, Nat.le_of_ble_eq_true rfl⟩, g_851, g_853, g_10, by decide +kernel⟩ g_852 rfl ⟨(by first | exact Nat.le_of_ble_eq_true rfl | (simp only [jrm]; omega)), (by first | exact Nat.le_of_ble_eq_true rfl | (simp only [jrm]; omega))⟩ (Nat.le_of_ble_eq_true rfl) d_Law_law_12 (fun r42 h42 n42 P42 => ?_)
  obtain ⟨rfl, rfl, O42, X42_0, X42_1, X42_2, X42_3, X42_4, X42_5, X42_6, X42_7, X42_8, X42_9, X42_10, X42_11, F42⟩ := P42
  have E42_0 := (F42 d (by omega) (by omega)).trans ((jh_up_n _ _ (by omega)).trans O41)
  have E42_1 := (F42 (d + 1) (by omega) (by omega)).trans ((jh_up_n _ _ (by omega)).trans X41_0)
  have E42_2 := (F42 (d + 2) (by omega) (by omega)).trans ((jh_up_n _ _ (by omega)).trans X41_1)
  have E42_3 := (F42 (d + 3) (by omega) (by omega)).trans ((jh_up_n _ _ (by omega)).trans X41_2)
  have E42_4 := (F42 (d + 8) (by omega) (by omega)).trans ((jh_up_n _ _ (by omega)).trans X41_3)
  have E42_5 := (F42 (d + 9) (by omega) (by omega)).trans ((jh_up_n _ _ (by omega)).trans X41_4)
  have E42_6 := (F42 (d + 10) (by omega) (by omega)).trans ((jh_up_n _ _ (by omega)).trans X41_5)
  have E42_7 := (F42 (d + 37) (by omega) (by omega)).trans ((jh_up_n _ _ (by omega)).trans X41_6)
  have E42_8 := (F42 (d + 38) (by omega) (by omega)).trans ((jh_up_n _ _ (by omega)).trans X41_7)
  have E42_9 := (F42 (d + 202) (by omega) (by omega)).trans ((jh_up_n _ _ (by omega)).trans X41_8)
  have E42_10 := (F42 (d + 203) (by omega) (by omega)).trans ((jh_up_n _ _ (by omega)).trans X41_9)
  refine j_astore_n d_Law_law_15 (Nat.le_of_ble_eq_true rfl) rfl ?_
  refine j_iconst d_Law_law_16 (v := 1) (by decide) ?_
  refine j_newJ (N := 1) g_56 (by decide) rfl (by decide) (by first | exact Nat.le_of_ble_eq_true rfl | (simp only [jrm]; omega)) (by first | exact Nat.le_of_ble_eq_true rfl | (simp only [jrm]; omega)) d_Law_law_17 ?_
  refine j_astore_n d_Law_law_19 (Nat.le_of_ble_eq_true rfl) rfl ?_
  refine j_iconst d_Law_law_20 (v := 0) (by decide) ?_
  refine j_istore d_Law_law_21 (Nat.le_of_ble_eq_true rfl) rfl ?_
  refine law_23 Z hL xs hX hbl hlt d _ ?_ ?_ ?_
  · exact ⟨((jh_up_n _ _ (by omega)).trans E42_0), ((jh_up_n _ _ (by omega)).trans E42_1), ((jh_up_n _ _ (by omega)).trans E42_2), ((jh_up_n _ _ (by omega)).trans E42_3), ((jh_up_n _ _ (by omega)).trans E42_4), ((jh_up_n _ _ (by omega)).trans E42_5), ((jh_up_n _ _ (by omega)).trans E42_6), ((jh_up_n _ _ (by omega)).trans E42_7), ((jh_up_n _ _ (by omega)).trans E42_8), ((jh_up_n _ _ (by omega)).trans E42_9), ((jh_up_n _ _ (by omega)).trans E42_10)⟩
  · exact ⟨((jh_up_n _ _ (by omega)).trans O42), ((jh_up_n _ _ (by omega)).trans X42_0), ((jh_up_n _ _ (by omega)).trans X42_1), ((jh_up_n _ _ (by omega)).trans X42_2), ((jh_up_n _ _ (by omega)).trans X42_3), ((jh_up_n _ _ (by omega)).trans X42_4), ((jh_up_n _ _ (by omega)).trans X42_5), ((jh_up_n _ _ (by omega)).trans X42_6), ((jh_up_n _ _ (by omega)).trans X42_7), ((jh_up_n _ _ (by omega)).trans X42_8), ((jh_up_n _ _ (by omega)).trans X42_9), ((jh_up_n _ _ (by omega)).trans X42_10), ((jh_up_n _ _ (by omega)).trans X42_11)⟩
  · exact (jh_up_s _ _ _)
theorem jN_self (s : State) : jN s s.heap := fun q cell hq hc => absurd (Array.getElem?_eq_some_iff.mp hc).1 (Nat.not_lt.mpr hq)
theorem one_start {b : Nat} {p : Program} {l : Launch} {e : Env} {s : State} {m : MethodId} {below : List Frame} {meth : Method} {c : Code} {L : Nat} {xs : Nat → Int32} (hlt : l.stackTraces = false) (hL : L ≤ 4) (C0 : lw_At p s m meth c b L xs) : W p l e room_1 s m #[Value.ref b] below meth c s.heap [] 0 0 (lw_Z below #[Value.ref b] s) (entryFrame m ([Value.ref b] : List Value).toArray 8) := by
  obtain ⟨h1, h2, h3, h4, h5, h6, h7, h8, h9, h10⟩ := C0
  obtain ⟨D, Y, Z⟩ := j_start h6 h10
  rw [lg_entry_eq]
  exact law_0 Z hL xs h7 h8 hlt s.heap.size ⟨h1, h2, h4, h3, h5, h9, rfl, Z, State.WarmedH.refl s, Nat.le_refl _, fun _ _ => rfl, jN_self s⟩ s.heap [] _ ⟨rfl, (fun a x h => by cases h), jN_self s⟩ va_S.rf (lv_entry [.ref b] (Nat.le_of_ble_eq_true rfl))
end
section
set_option maxHeartbeats 4000000 in
theorem lw_walk (l : Launch) (hlt : l.stackTraces = false) (b : Addr) (xs : List Int32) : MetFree l x (headSpec (Jvm.Cond.code x code maxLocals ret :: tables_1) room_1) (lw_P b xs) (fun _ _ _ _ _ => True) lw_Q := by
  refine MetFree.of_bodyS (code := code) (maxLocals := maxLocals) (ret := ret) (by decide) ?_ ?_
  · intro args s m h hn
    obtain ⟨meth, c, h1, h2, h3, h4, h5, h6, -, -⟩ := Cond.code_spec hn (atoms_spec (ws := Jvm.Cond.code x code maxLocals ret :: tables_1) h _ List.mem_cons_self)
    exact ⟨meth, c, h1, h2, h3, h4, h5, h6⟩
  · intro p e s m args below meth c s₁ B hml0 hP _
    obtain ⟨rfl, hx, hbd, hgv⟩ := hP
    obtain ⟨scr, harrAt, hlist, hof, hsmall⟩ := hx
    obtain ⟨hcb, hkn, -, -⟩ := State.arrayAt?_spec harrAt
    have hown : s.vm.findClass R_law = some m.cls := findClass_of_methodNamed B.named
    have hts0 : ∀ c ∈ (Jvm.Cond.code x code maxLocals ret :: tables_1), c.before #[Value.ref b] s = true := atoms_spec (ws := Jvm.Cond.code x code maxLocals ret :: tables_1) B.pre
    have hts : ∀ w ∈ lw_tbl, w.before #[Value.ref b] s = true := k2_hts_sels lw_privs (fun w hw => hts0 w (List.mem_cons_of_mem _ hw)) lw_privs_ok
    have hml : c.maxLocals = 8 := B.maxLocals_eq (hts0 _ List.mem_cons_self)
    have X₀ : Stand p l e room_1 s m #[Value.ref b] below meth c s₁ [] 0 0 := Stand.of_body B
    have hh0 : s₁.heap = s.heap := by rw [B.state]; rfl
    have hsz : scr.slots.size = xs.length := by rw [← Array.length_toList, hlist, List.length_map]
    have hval : ∀ j : Nat, j < xs.length → scr.slots[j]? = some (.int (xs.getD j 0)) := fun j hj => by
      rw [← Array.getElem?_toList, hlist]
      simp [hj]
    have hbl : b < s.heap.size := (Array.getElem?_eq_some_iff.mp hcb).1
    have hX : va_X b xs.length (fun j => xs.getD j 0) s s.heap := ⟨scr, hcb, hof, hkn, hsz, hval⟩
    have K : W p l e room_1 s m #[Value.ref b] below meth c s₁.heap [] 0 0 (lw_Z below #[Value.ref b] s) (entryFrame m ([Value.ref b] : List Value).toArray 8) := by
      rw [hh0]
      exact one_start hlt hbd ⟨B.exec, B.bytes, B.returns, hml, hown, hts, hX, hbl, B.notSynchronized, hgv⟩
    obtain ⟨t, a1, o, b1, b2, b3⟩ := K s₁ rfl X₀
    exact ⟨t, o, a1, b1, b2, b3⟩
theorem lw_pre_spec {args : Array Value} {s : State} (h : (Jvm.Cond.and given_1 narrow_1).before args s = true) (hr : rest_1_c.before args s = true) : ∃ (b : Addr) (xs : List Int32), lw_P b xs args s := by
  have hs := flat_of_before _ h
  have hq := flat_of_before _ hr
  have hc : (Cond.count 1).before args s = true := hs _ (by decide +kernel)
  have harr : (Cond.arrayOf (.arg 0) .int).before args s = true := hs _ (by decide +kernel)
  have hle : (Cond.le (.length (.arg 0)) (.int 4)).before args s = true := hs _ (by decide +kernel)
  have hlen : (Cond.isInt (.length (.arg 0))).before args s = true := hq _ (by decide +kernel)
  have hall : (Cond.all (.arg 0) (.isInt (.elem (.arg 0) (.index 0)))).before args s = true := hq _ (by decide +kernel)
  obtain ⟨b, xs, hb, hx⟩ := State.ints_of_pre rfl harr hlen hall
  have hsm : xs.length < 2 ^ 31 := hx.choose_spec.2.2.2
  have hev : (Term.length (.arg 0)).eval args s none [] s = some (.int xs.length.toInt32) := hx.length_eval hb
  have hv := Cond.le_ints hev (show (Term.int 4).eval args s none [] s = some (.int 4) from rfl)
  have hd : xs.length.toInt32 ≤ 4 := by
    simpa [Cond.before, Cond.holds, hv] using hle
  have hN : xs.length ≤ 4 := (Int32.ofNat_le_ofNat hsm (by decide)).mp (show Int32.ofNat xs.length ≤ Int32.ofNat 4 from hd)
  exact ⟨b, xs, Cond.one_arg hc (show args[0]? = some (.ref b) from hb), hx, hN, h⟩
theorem lw_comes (l : Launch) (hlt : l.stackTraces = false) : Comes l x (Jvm.Cond.code x code maxLocals ret :: tables_1) room_1 (fun tb e args s => Calls_1 tb e args s ∧ rest_1 tb e args s ∧ Pre_1 tb e args s)
    (fun _ _ args s o t => lw_Q args s o t) := by
  intro p e ha hc hk s m args below hf hfit hheap happ hpre
  obtain ⟨b, xs, hP⟩ := lw_pre_spec hpre.2.2 hpre.2.1
  obtain ⟨k, o, h1, h2, h3, hQ⟩ := lw_walk l hlt b xs p e ha hc hk s m args below hf ((Spec.applies_iff_loose hf).mp happ).1 hP trivial
  exact ⟨k, o, h1, h2, h3, hQ⟩
theorem lw_frame {s t : State} {o : Outcome} {args : Array Value} (h : Framed s o t [] 600002 7302232) :
    Framed s o t (fieldLocs frame_1_writes args s ++ arrayLocs frame_1_arrays args s ++ staticLocs frame_1_statics s) 600002 7302232 := h
theorem lw_limb (L : Cond) (hL : ∀ (args : Array Value) (s t : State), L.after args s (.returned (some (.int 1))) t = true) :
    ArmFor flags0 classFile x code maxLocals ret World_1 tables_1 room_1 Calls_1 rest_1 Pre_1
      (fun tb e a s o t => postC L tb e a s o t ∧ Framed s o t (fieldLocs frame_1_writes a s ++ arrayLocs frame_1_arrays a s ++ staticLocs frame_1_statics s) 600002 7302232) := by
  intro l hfl _ _ p e ha hc hk s m args below hf hfit hheap happ hpre
  have hlt : l.stackTraces = false := by unfold Launch.stackTraces; rw [hfl]; decide +kernel
  obtain ⟨k, o, h1, h2, h3, rfl, hF⟩ := lw_comes l hlt p e ha hc hk s m args below hf hfit hheap happ hpre
  exact ⟨k, _, h1, h2, h3, hL args s _, lw_frame hF⟩
theorem i_vc : Claimed_1_1 ∧ Claimed_1_2 := ⟨lw_limb limb_1_1 (fun args s t => by simp [limb_1_1, Cond.after, Cond.holds, Cond.value]), lw_limb limb_1_2 (fun args s t => Cond.after_iff.mpr (by
  first | (rw [show limb_1_2 = Cond.eq .result (.int 1) from rfl, Cond.eq_ints (x := 1) (y := 1) rfl rfl]; simp; done) | (simp [limb_1_2, Cond.value, Term.eval]; done)))⟩
end
