section
-- ===== PART A: goes FIRST, ahead of the names: the tables' words, and 'selects' of the private methods out of them =====
/-- a private method of a class that the tables say can be made, by its rows of tables_1 -/
def lw_okq (q : MethodName × Nat) : Prop := (q.1.cls ≠ "java/lang/invoke/MethodHandle" ∧ q.1.cls ≠ "java/lang/invoke/VarHandle") ∧ Cond.instantiable q.1.cls q.2 ∈ tables_1 ∧ Cond.privateMethod q.1 ∈ tables_1 ∧ Cond.instanceMethod q.1 ∈ tables_1
theorem lw_p0 : lw_okq (⟨"FactorDesk$CommonDivisor", "makeWhole", "()V"⟩, 7) := ⟨⟨by decide +kernel, by decide +kernel⟩, List.mem_of_getElem? (i := 95) (by decide +kernel), List.mem_of_getElem? (i := 445) (by decide +kernel), List.mem_of_getElem? (i := 446) (by decide +kernel)⟩
theorem lw_p1 : lw_okq (⟨"FactorDesk$Division", "goesUp", "(LFactorDesk$Poly;LFactorDesk$Poly;I)Z"⟩, 2) := ⟨⟨by decide +kernel, by decide +kernel⟩, List.mem_of_getElem? (i := 101) (by decide +kernel), List.mem_of_getElem? (i := 468) (by decide +kernel), List.mem_of_getElem? (i := 469) (by decide +kernel)⟩
theorem lw_p2 : lw_okq (⟨"FactorDesk$Division", "isProduct", "(LFactorDesk$Poly;LFactorDesk$Poly;)Z"⟩, 2) := ⟨⟨by decide +kernel, by decide +kernel⟩, List.mem_of_getElem? (i := 101) (by decide +kernel), List.mem_of_getElem? (i := 475) (by decide +kernel), List.mem_of_getElem? (i := 476) (by decide +kernel)⟩
theorem lw_p3 : lw_okq (⟨"FactorDesk$Splitter", "takeEachFactorOnce", "()V"⟩, 9) := ⟨⟨by decide +kernel, by decide +kernel⟩, List.mem_of_getElem? (i := 87) (by decide +kernel), List.mem_of_getElem? (i := 481) (by decide +kernel), List.mem_of_getElem? (i := 482) (by decide +kernel)⟩
theorem lw_p4 : lw_okq (⟨"FactorDesk$ModularSplit", "suits", "(LFactorDesk$Poly;I)Z"⟩, 11) := ⟨⟨by decide +kernel, by decide +kernel⟩, List.mem_of_getElem? (i := 178) (by decide +kernel), List.mem_of_getElem? (i := 493) (by decide +kernel), List.mem_of_getElem? (i := 494) (by decide +kernel)⟩
theorem lw_p5 : lw_okq (⟨"FactorDesk$ModularSplit", "solveMatrix", "(I)I"⟩, 11) := ⟨⟨by decide +kernel, by decide +kernel⟩, List.mem_of_getElem? (i := 178) (by decide +kernel), List.mem_of_getElem? (i := 503) (by decide +kernel), List.mem_of_getElem? (i := 504) (by decide +kernel)⟩
theorem lw_p6 : lw_okq (⟨"FactorDesk$ModularSplit", "clearColumn", "(III)V"⟩, 11) := ⟨⟨by decide +kernel, by decide +kernel⟩, List.mem_of_getElem? (i := 178) (by decide +kernel), List.mem_of_getElem? (i := 513) (by decide +kernel), List.mem_of_getElem? (i := 514) (by decide +kernel)⟩
theorem lw_p7 : lw_okq (⟨"FactorDesk$ModularSplit", "readKernel", "(II)V"⟩, 11) := ⟨⟨by decide +kernel, by decide +kernel⟩, List.mem_of_getElem? (i := 178) (by decide +kernel), List.mem_of_getElem? (i := 523) (by decide +kernel), List.mem_of_getElem? (i := 524) (by decide +kernel)⟩
theorem lw_p8 : lw_okq (⟨"FactorDesk$ModularSplit", "splitPiece", "(I)V"⟩, 11) := ⟨⟨by decide +kernel, by decide +kernel⟩, List.mem_of_getElem? (i := 178) (by decide +kernel), List.mem_of_getElem? (i := 528) (by decide +kernel), List.mem_of_getElem? (i := 529) (by decide +kernel)⟩
theorem lw_p9 : lw_okq (⟨"FactorDesk$Splitter", "largestCoefficient", "()J"⟩, 9) := ⟨⟨by decide +kernel, by decide +kernel⟩, List.mem_of_getElem? (i := 87) (by decide +kernel), List.mem_of_getElem? (i := 534) (by decide +kernel), List.mem_of_getElem? (i := 535) (by decide +kernel)⟩
theorem lw_p10 : lw_okq (⟨"FactorDesk$Lift", "invertOthers", "(I)V"⟩, 11) := ⟨⟨by decide +kernel, by decide +kernel⟩, List.mem_of_getElem? (i := 172) (by decide +kernel), List.mem_of_getElem? (i := 551) (by decide +kernel), List.mem_of_getElem? (i := 552) (by decide +kernel)⟩
theorem lw_p11 : lw_okq (⟨"FactorDesk$Lift", "swapRows", "()V"⟩, 11) := ⟨⟨by decide +kernel, by decide +kernel⟩, List.mem_of_getElem? (i := 172) (by decide +kernel), List.mem_of_getElem? (i := 565) (by decide +kernel), List.mem_of_getElem? (i := 566) (by decide +kernel)⟩
theorem lw_p12 : lw_okq (⟨"FactorDesk$Lift", "improve", "(J)V"⟩, 11) := ⟨⟨by decide +kernel, by decide +kernel⟩, List.mem_of_getElem? (i := 172) (by decide +kernel), List.mem_of_getElem? (i := 569) (by decide +kernel), List.mem_of_getElem? (i := 570) (by decide +kernel)⟩
theorem lw_p13 : lw_okq (⟨"FactorDesk$Lift", "findShare", "(I)V"⟩, 11) := ⟨⟨by decide +kernel, by decide +kernel⟩, List.mem_of_getElem? (i := 172) (by decide +kernel), List.mem_of_getElem? (i := 585) (by decide +kernel), List.mem_of_getElem? (i := 586) (by decide +kernel)⟩
theorem lw_p14 : lw_okq (⟨"FactorDesk$Splitter", "combinePieces", "()V"⟩, 9) := ⟨⟨by decide +kernel, by decide +kernel⟩, List.mem_of_getElem? (i := 87) (by decide +kernel), List.mem_of_getElem? (i := 590) (by decide +kernel), List.mem_of_getElem? (i := 591) (by decide +kernel)⟩
theorem lw_p15 : lw_okq (⟨"FactorDesk$Splitter", "degreeOf", "(I)I"⟩, 9) := ⟨⟨by decide +kernel, by decide +kernel⟩, List.mem_of_getElem? (i := 87) (by decide +kernel), List.mem_of_getElem? (i := 594) (by decide +kernel), List.mem_of_getElem? (i := 595) (by decide +kernel)⟩
def lw_privs_1 : List (MethodName × Nat) := [(⟨"FactorDesk$CommonDivisor", "makeWhole", "()V"⟩, 7), (⟨"FactorDesk$Division", "goesUp", "(LFactorDesk$Poly;LFactorDesk$Poly;I)Z"⟩, 2), (⟨"FactorDesk$Division", "isProduct", "(LFactorDesk$Poly;LFactorDesk$Poly;)Z"⟩, 2), (⟨"FactorDesk$Splitter", "takeEachFactorOnce", "()V"⟩, 9), (⟨"FactorDesk$ModularSplit", "suits", "(LFactorDesk$Poly;I)Z"⟩, 11), (⟨"FactorDesk$ModularSplit", "solveMatrix", "(I)I"⟩, 11), (⟨"FactorDesk$ModularSplit", "clearColumn", "(III)V"⟩, 11), (⟨"FactorDesk$ModularSplit", "readKernel", "(II)V"⟩, 11), (⟨"FactorDesk$ModularSplit", "splitPiece", "(I)V"⟩, 11), (⟨"FactorDesk$Splitter", "largestCoefficient", "()J"⟩, 9), (⟨"FactorDesk$Lift", "invertOthers", "(I)V"⟩, 11), (⟨"FactorDesk$Lift", "swapRows", "()V"⟩, 11), (⟨"FactorDesk$Lift", "improve", "(J)V"⟩, 11), (⟨"FactorDesk$Lift", "findShare", "(I)V"⟩, 11), (⟨"FactorDesk$Splitter", "combinePieces", "()V"⟩, 9), (⟨"FactorDesk$Splitter", "degreeOf", "(I)I"⟩, 9)]
theorem lw_r1 : ∀ q ∈ lw_privs_1, lw_okq q := List.forall_mem_cons.mpr ⟨lw_p0, List.forall_mem_cons.mpr ⟨lw_p1, List.forall_mem_cons.mpr ⟨lw_p2, List.forall_mem_cons.mpr ⟨lw_p3, List.forall_mem_cons.mpr ⟨lw_p4, List.forall_mem_cons.mpr ⟨lw_p5, List.forall_mem_cons.mpr ⟨lw_p6, List.forall_mem_cons.mpr ⟨lw_p7, List.forall_mem_cons.mpr ⟨lw_p8, List.forall_mem_cons.mpr ⟨lw_p9, List.forall_mem_cons.mpr ⟨lw_p10, List.forall_mem_cons.mpr ⟨lw_p11, List.forall_mem_cons.mpr ⟨lw_p12, List.forall_mem_cons.mpr ⟨lw_p13, List.forall_mem_cons.mpr ⟨lw_p14, List.forall_mem_cons.mpr ⟨lw_p15, fun _ h => absurd h List.not_mem_nil⟩⟩⟩⟩⟩⟩⟩⟩⟩⟩⟩⟩⟩⟩⟩⟩
theorem lw_p16 : lw_okq (⟨"FactorDesk$Splitter", "isFactor", "(I)Z"⟩, 9) := ⟨⟨by decide +kernel, by decide +kernel⟩, List.mem_of_getElem? (i := 87) (by decide +kernel), List.mem_of_getElem? (i := 598) (by decide +kernel), List.mem_of_getElem? (i := 599) (by decide +kernel)⟩
theorem lw_p17 : lw_okq (⟨"FactorDesk$Splitter", "hasRightEnd", "(I)Z"⟩, 9) := ⟨⟨by decide +kernel, by decide +kernel⟩, List.mem_of_getElem? (i := 87) (by decide +kernel), List.mem_of_getElem? (i := 602) (by decide +kernel), List.mem_of_getElem? (i := 603) (by decide +kernel)⟩
theorem lw_p18 : lw_okq (⟨"FactorDesk$Splitter", "countMultiplicities", "()V"⟩, 9) := ⟨⟨by decide +kernel, by decide +kernel⟩, List.mem_of_getElem? (i := 87) (by decide +kernel), List.mem_of_getElem? (i := 621) (by decide +kernel), List.mem_of_getElem? (i := 622) (by decide +kernel)⟩
theorem lw_p19 : lw_okq (⟨"java/lang/Throwable", "fillInStackTrace", "(I)Ljava/lang/Throwable;"⟩, 6) := ⟨⟨by decide +kernel, by decide +kernel⟩, List.mem_of_getElem? (i := 680) (by decide +kernel), List.mem_of_getElem? (i := 678) (by decide +kernel), List.mem_of_getElem? (i := 679) (by decide +kernel)⟩
theorem lw_p20 : lw_okq (⟨"FactorDesk", "tapeTop", "()I"⟩, 10) := ⟨⟨by decide +kernel, by decide +kernel⟩, List.mem_of_getElem? (i := 20) (by decide +kernel), List.mem_of_getElem? (i := 718) (by decide +kernel), List.mem_of_getElem? (i := 719) (by decide +kernel)⟩
theorem lw_p21 : lw_okq (⟨"FactorDesk", "useUpTape", "(LFactorDesk$Poly;I)V"⟩, 10) := ⟨⟨by decide +kernel, by decide +kernel⟩, List.mem_of_getElem? (i := 20) (by decide +kernel), List.mem_of_getElem? (i := 738) (by decide +kernel), List.mem_of_getElem? (i := 739) (by decide +kernel)⟩
theorem lw_p22 : lw_okq (⟨"FactorDesk", "multiplyByTape", "(I)Z"⟩, 10) := ⟨⟨by decide +kernel, by decide +kernel⟩, List.mem_of_getElem? (i := 20) (by decide +kernel), List.mem_of_getElem? (i := 754) (by decide +kernel), List.mem_of_getElem? (i := 755) (by decide +kernel)⟩
theorem lw_p23 : lw_okq (⟨"FactorDeskModel", "fails", "(ZI)Z"⟩, 35) := ⟨⟨by decide +kernel, by decide +kernel⟩, List.mem_of_getElem? (i := 850) (by decide +kernel), List.mem_of_getElem? (i := 971) (by decide +kernel), List.mem_of_getElem? (i := 972) (by decide +kernel)⟩
theorem lw_p24 : lw_okq (⟨"FactorDeskModel", "tapeDegree", "()I"⟩, 35) := ⟨⟨by decide +kernel, by decide +kernel⟩, List.mem_of_getElem? (i := 850) (by decide +kernel), List.mem_of_getElem? (i := 983) (by decide +kernel), List.mem_of_getElem? (i := 984) (by decide +kernel)⟩
theorem lw_p25 : lw_okq (⟨"FactorDeskModel", "finds", "()V"⟩, 35) := ⟨⟨by decide +kernel, by decide +kernel⟩, List.mem_of_getElem? (i := 850) (by decide +kernel), List.mem_of_getElem? (i := 1017) (by decide +kernel), List.mem_of_getElem? (i := 1018) (by decide +kernel)⟩
theorem lw_p26 : lw_okq (⟨"FactorDeskModel", "primitive", "()V"⟩, 35) := ⟨⟨by decide +kernel, by decide +kernel⟩, List.mem_of_getElem? (i := 850) (by decide +kernel), List.mem_of_getElem? (i := 1021) (by decide +kernel), List.mem_of_getElem? (i := 1022) (by decide +kernel)⟩
theorem lw_p27 : lw_okq (⟨"FactorDeskModel", "best", "([JI[JI)I"⟩, 35) := ⟨⟨by decide +kernel, by decide +kernel⟩, List.mem_of_getElem? (i := 850) (by decide +kernel), List.mem_of_getElem? (i := 1025) (by decide +kernel), List.mem_of_getElem? (i := 1026) (by decide +kernel)⟩
theorem lw_p28 : lw_okq (⟨"FactorDeskModel", "choose", "(I)V"⟩, 35) := ⟨⟨by decide +kernel, by decide +kernel⟩, List.mem_of_getElem? (i := 850) (by decide +kernel), List.mem_of_getElem? (i := 1032) (by decide +kernel), List.mem_of_getElem? (i := 1033) (by decide +kernel)⟩
theorem lw_p29 : lw_okq (⟨"FactorDeskModel", "load", "(I[JI)V"⟩, 35) := ⟨⟨by decide +kernel, by decide +kernel⟩, List.mem_of_getElem? (i := 850) (by decide +kernel), List.mem_of_getElem? (i := 1036) (by decide +kernel), List.mem_of_getElem? (i := 1037) (by decide +kernel)⟩
theorem lw_p30 : lw_okq (⟨"FactorDeskModel", "small", "([JIJ)V"⟩, 35) := ⟨⟨by decide +kernel, by decide +kernel⟩, List.mem_of_getElem? (i := 850) (by decide +kernel), List.mem_of_getElem? (i := 1043) (by decide +kernel), List.mem_of_getElem? (i := 1044) (by decide +kernel)⟩
theorem lw_p31 : lw_okq (⟨"FactorDeskModel", "subtract", "([JI[JI[JI)V"⟩, 35) := ⟨⟨by decide +kernel, by decide +kernel⟩, List.mem_of_getElem? (i := 850) (by decide +kernel), List.mem_of_getElem? (i := 1048) (by decide +kernel), List.mem_of_getElem? (i := 1049) (by decide +kernel)⟩
def lw_privs_2 : List (MethodName × Nat) := [(⟨"FactorDesk$Splitter", "isFactor", "(I)Z"⟩, 9), (⟨"FactorDesk$Splitter", "hasRightEnd", "(I)Z"⟩, 9), (⟨"FactorDesk$Splitter", "countMultiplicities", "()V"⟩, 9), (⟨"java/lang/Throwable", "fillInStackTrace", "(I)Ljava/lang/Throwable;"⟩, 6), (⟨"FactorDesk", "tapeTop", "()I"⟩, 10), (⟨"FactorDesk", "useUpTape", "(LFactorDesk$Poly;I)V"⟩, 10), (⟨"FactorDesk", "multiplyByTape", "(I)Z"⟩, 10), (⟨"FactorDeskModel", "fails", "(ZI)Z"⟩, 35), (⟨"FactorDeskModel", "tapeDegree", "()I"⟩, 35), (⟨"FactorDeskModel", "finds", "()V"⟩, 35), (⟨"FactorDeskModel", "primitive", "()V"⟩, 35), (⟨"FactorDeskModel", "best", "([JI[JI)I"⟩, 35), (⟨"FactorDeskModel", "choose", "(I)V"⟩, 35), (⟨"FactorDeskModel", "load", "(I[JI)V"⟩, 35), (⟨"FactorDeskModel", "small", "([JIJ)V"⟩, 35), (⟨"FactorDeskModel", "subtract", "([JI[JI[JI)V"⟩, 35)]
theorem lw_r2 : ∀ q ∈ lw_privs_2, lw_okq q := List.forall_mem_cons.mpr ⟨lw_p16, List.forall_mem_cons.mpr ⟨lw_p17, List.forall_mem_cons.mpr ⟨lw_p18, List.forall_mem_cons.mpr ⟨lw_p19, List.forall_mem_cons.mpr ⟨lw_p20, List.forall_mem_cons.mpr ⟨lw_p21, List.forall_mem_cons.mpr ⟨lw_p22, List.forall_mem_cons.mpr ⟨lw_p23, List.forall_mem_cons.mpr ⟨lw_p24, List.forall_mem_cons.mpr ⟨lw_p25, List.forall_mem_cons.mpr ⟨lw_p26, List.forall_mem_cons.mpr ⟨lw_p27, List.forall_mem_cons.mpr ⟨lw_p28, List.forall_mem_cons.mpr ⟨lw_p29, List.forall_mem_cons.mpr ⟨lw_p30, List.forall_mem_cons.mpr ⟨lw_p31, fun _ h => absurd h List.not_mem_nil⟩⟩⟩⟩⟩⟩⟩⟩⟩⟩⟩⟩⟩⟩⟩⟩
theorem lw_p32 : lw_okq (⟨"FactorDeskModel", "carry", "()V"⟩, 35) := ⟨⟨by decide +kernel, by decide +kernel⟩, List.mem_of_getElem? (i := 850) (by decide +kernel), List.mem_of_getElem? (i := 1052) (by decide +kernel), List.mem_of_getElem? (i := 1053) (by decide +kernel)⟩
theorem lw_p33 : lw_okq (⟨"FactorDeskModel", "fold", "([JI)V"⟩, 35) := ⟨⟨by decide +kernel, by decide +kernel⟩, List.mem_of_getElem? (i := 850) (by decide +kernel), List.mem_of_getElem? (i := 1056) (by decide +kernel), List.mem_of_getElem? (i := 1057) (by decide +kernel)⟩
theorem lw_p34 : lw_okq (⟨"FactorDeskModel", "trim", "(II)V"⟩, 35) := ⟨⟨by decide +kernel, by decide +kernel⟩, List.mem_of_getElem? (i := 850) (by decide +kernel), List.mem_of_getElem? (i := 1060) (by decide +kernel), List.mem_of_getElem? (i := 1061) (by decide +kernel)⟩
theorem lw_p35 : lw_okq (⟨"FactorDeskModel", "isZero", "([JI)Z"⟩, 35) := ⟨⟨by decide +kernel, by decide +kernel⟩, List.mem_of_getElem? (i := 850) (by decide +kernel), List.mem_of_getElem? (i := 1064) (by decide +kernel), List.mem_of_getElem? (i := 1065) (by decide +kernel)⟩
theorem lw_p36 : lw_okq (⟨"FactorDeskModel", "meets", "(III)V"⟩, 35) := ⟨⟨by decide +kernel, by decide +kernel⟩, List.mem_of_getElem? (i := 850) (by decide +kernel), List.mem_of_getElem? (i := 1068) (by decide +kernel), List.mem_of_getElem? (i := 1069) (by decide +kernel)⟩
theorem lw_p37 : lw_okq (⟨"FactorDeskModel", "monic", "(I)V"⟩, 35) := ⟨⟨by decide +kernel, by decide +kernel⟩, List.mem_of_getElem? (i := 850) (by decide +kernel), List.mem_of_getElem? (i := 1072) (by decide +kernel), List.mem_of_getElem? (i := 1073) (by decide +kernel)⟩
theorem lw_p38 : lw_okq (⟨"FactorDeskModel", "invert", "([JI[JI)V"⟩, 35) := ⟨⟨by decide +kernel, by decide +kernel⟩, List.mem_of_getElem? (i := 850) (by decide +kernel), List.mem_of_getElem? (i := 1076) (by decide +kernel), List.mem_of_getElem? (i := 1077) (by decide +kernel)⟩
theorem lw_p39 : lw_okq (⟨"FactorDeskModel", "multiply", "([JI[JI[JI)V"⟩, 35) := ⟨⟨by decide +kernel, by decide +kernel⟩, List.mem_of_getElem? (i := 850) (by decide +kernel), List.mem_of_getElem? (i := 1080) (by decide +kernel), List.mem_of_getElem? (i := 1081) (by decide +kernel)⟩
theorem lw_p40 : lw_okq (⟨"FactorDeskModel", "reduce", "(II)V"⟩, 35) := ⟨⟨by decide +kernel, by decide +kernel⟩, List.mem_of_getElem? (i := 850) (by decide +kernel), List.mem_of_getElem? (i := 1084) (by decide +kernel), List.mem_of_getElem? (i := 1085) (by decide +kernel)⟩
theorem lw_p41 : lw_okq (⟨"FactorDeskModel", "copy", "(II)V"⟩, 35) := ⟨⟨by decide +kernel, by decide +kernel⟩, List.mem_of_getElem? (i := 850) (by decide +kernel), List.mem_of_getElem? (i := 1088) (by decide +kernel), List.mem_of_getElem? (i := 1089) (by decide +kernel)⟩
theorem lw_p42 : lw_okq (⟨"FactorDeskModel", "derive", "(II)V"⟩, 35) := ⟨⟨by decide +kernel, by decide +kernel⟩, List.mem_of_getElem? (i := 850) (by decide +kernel), List.mem_of_getElem? (i := 1092) (by decide +kernel), List.mem_of_getElem? (i := 1093) (by decide +kernel)⟩
theorem lw_p43 : lw_okq (⟨"FactorDeskModel", "quotient", "(III)V"⟩, 35) := ⟨⟨by decide +kernel, by decide +kernel⟩, List.mem_of_getElem? (i := 850) (by decide +kernel), List.mem_of_getElem? (i := 1096) (by decide +kernel), List.mem_of_getElem? (i := 1097) (by decide +kernel)⟩
theorem lw_p44 : lw_okq (⟨"FactorDeskModel", "splitsAll", "()V"⟩, 35) := ⟨⟨by decide +kernel, by decide +kernel⟩, List.mem_of_getElem? (i := 850) (by decide +kernel), List.mem_of_getElem? (i := 1100) (by decide +kernel), List.mem_of_getElem? (i := 1101) (by decide +kernel)⟩
theorem lw_p45 : lw_okq (⟨"FactorDeskModel", "frobenius", "(I)V"⟩, 35) := ⟨⟨by decide +kernel, by decide +kernel⟩, List.mem_of_getElem? (i := 850) (by decide +kernel), List.mem_of_getElem? (i := 1104) (by decide +kernel), List.mem_of_getElem? (i := 1105) (by decide +kernel)⟩
theorem lw_p46 : lw_okq (⟨"FactorDeskModel", "ones", "(IIII)V"⟩, 35) := ⟨⟨by decide +kernel, by decide +kernel⟩, List.mem_of_getElem? (i := 850) (by decide +kernel), List.mem_of_getElem? (i := 1108) (by decide +kernel), List.mem_of_getElem? (i := 1109) (by decide +kernel)⟩
theorem lw_p47 : lw_okq (⟨"FactorDeskModel", "productModulo", "(IIII)V"⟩, 35) := ⟨⟨by decide +kernel, by decide +kernel⟩, List.mem_of_getElem? (i := 850) (by decide +kernel), List.mem_of_getElem? (i := 1112) (by decide +kernel), List.mem_of_getElem? (i := 1113) (by decide +kernel)⟩
def lw_privs_3 : List (MethodName × Nat) := [(⟨"FactorDeskModel", "carry", "()V"⟩, 35), (⟨"FactorDeskModel", "fold", "([JI)V"⟩, 35), (⟨"FactorDeskModel", "trim", "(II)V"⟩, 35), (⟨"FactorDeskModel", "isZero", "([JI)Z"⟩, 35), (⟨"FactorDeskModel", "meets", "(III)V"⟩, 35), (⟨"FactorDeskModel", "monic", "(I)V"⟩, 35), (⟨"FactorDeskModel", "invert", "([JI[JI)V"⟩, 35), (⟨"FactorDeskModel", "multiply", "([JI[JI[JI)V"⟩, 35), (⟨"FactorDeskModel", "reduce", "(II)V"⟩, 35), (⟨"FactorDeskModel", "copy", "(II)V"⟩, 35), (⟨"FactorDeskModel", "derive", "(II)V"⟩, 35), (⟨"FactorDeskModel", "quotient", "(III)V"⟩, 35), (⟨"FactorDeskModel", "splitsAll", "()V"⟩, 35), (⟨"FactorDeskModel", "frobenius", "(I)V"⟩, 35), (⟨"FactorDeskModel", "ones", "(IIII)V"⟩, 35), (⟨"FactorDeskModel", "productModulo", "(IIII)V"⟩, 35)]
theorem lw_r3 : ∀ q ∈ lw_privs_3, lw_okq q := List.forall_mem_cons.mpr ⟨lw_p32, List.forall_mem_cons.mpr ⟨lw_p33, List.forall_mem_cons.mpr ⟨lw_p34, List.forall_mem_cons.mpr ⟨lw_p35, List.forall_mem_cons.mpr ⟨lw_p36, List.forall_mem_cons.mpr ⟨lw_p37, List.forall_mem_cons.mpr ⟨lw_p38, List.forall_mem_cons.mpr ⟨lw_p39, List.forall_mem_cons.mpr ⟨lw_p40, List.forall_mem_cons.mpr ⟨lw_p41, List.forall_mem_cons.mpr ⟨lw_p42, List.forall_mem_cons.mpr ⟨lw_p43, List.forall_mem_cons.mpr ⟨lw_p44, List.forall_mem_cons.mpr ⟨lw_p45, List.forall_mem_cons.mpr ⟨lw_p46, List.forall_mem_cons.mpr ⟨lw_p47, fun _ h => absurd h List.not_mem_nil⟩⟩⟩⟩⟩⟩⟩⟩⟩⟩⟩⟩⟩⟩⟩⟩
theorem lw_p48 : lw_okq (⟨"FactorDeskModel", "product", "(III)V"⟩, 35) := ⟨⟨by decide +kernel, by decide +kernel⟩, List.mem_of_getElem? (i := 850) (by decide +kernel), List.mem_of_getElem? (i := 1116) (by decide +kernel), List.mem_of_getElem? (i := 1117) (by decide +kernel)⟩
theorem lw_p49 : lw_okq (⟨"FactorDeskModel", "add", "([JI[JI[JI)V"⟩, 35) := ⟨⟨by decide +kernel, by decide +kernel⟩, List.mem_of_getElem? (i := 850) (by decide +kernel), List.mem_of_getElem? (i := 1120) (by decide +kernel), List.mem_of_getElem? (i := 1121) (by decide +kernel)⟩
theorem lw_p50 : lw_okq (⟨"FactorDeskModel", "less", "(II)V"⟩, 35) := ⟨⟨by decide +kernel, by decide +kernel⟩, List.mem_of_getElem? (i := 850) (by decide +kernel), List.mem_of_getElem? (i := 1124) (by decide +kernel), List.mem_of_getElem? (i := 1125) (by decide +kernel)⟩
theorem lw_p51 : lw_okq (⟨"FactorDeskModel", "splits", "(II)V"⟩, 35) := ⟨⟨by decide +kernel, by decide +kernel⟩, List.mem_of_getElem? (i := 850) (by decide +kernel), List.mem_of_getElem? (i := 1128) (by decide +kernel), List.mem_of_getElem? (i := 1129) (by decide +kernel)⟩
theorem lw_p52 : lw_okq (⟨"FactorDeskModel", "tries", "(II)V"⟩, 35) := ⟨⟨by decide +kernel, by decide +kernel⟩, List.mem_of_getElem? (i := 850) (by decide +kernel), List.mem_of_getElem? (i := 1132) (by decide +kernel), List.mem_of_getElem? (i := 1133) (by decide +kernel)⟩
theorem lw_p53 : lw_okq (⟨"FactorDeskModel", "draws", "()J"⟩, 35) := ⟨⟨by decide +kernel, by decide +kernel⟩, List.mem_of_getElem? (i := 850) (by decide +kernel), List.mem_of_getElem? (i := 1136) (by decide +kernel), List.mem_of_getElem? (i := 1137) (by decide +kernel)⟩
theorem lw_p54 : lw_okq (⟨"FactorDeskModel", "compose", "(IIII)V"⟩, 35) := ⟨⟨by decide +kernel, by decide +kernel⟩, List.mem_of_getElem? (i := 850) (by decide +kernel), List.mem_of_getElem? (i := 1142) (by decide +kernel), List.mem_of_getElem? (i := 1143) (by decide +kernel)⟩
theorem lw_p55 : lw_okq (⟨"FactorDeskModel", "counts", "(I)V"⟩, 35) := ⟨⟨by decide +kernel, by decide +kernel⟩, List.mem_of_getElem? (i := 850) (by decide +kernel), List.mem_of_getElem? (i := 1146) (by decide +kernel), List.mem_of_getElem? (i := 1147) (by decide +kernel)⟩
theorem lw_p56 : lw_okq (⟨"FactorDeskModel", "least", "(I)I"⟩, 35) := ⟨⟨by decide +kernel, by decide +kernel⟩, List.mem_of_getElem? (i := 850) (by decide +kernel), List.mem_of_getElem? (i := 1150) (by decide +kernel), List.mem_of_getElem? (i := 1151) (by decide +kernel)⟩
theorem lw_p57 : lw_okq (⟨"FactorDeskModel", "makes", "(I)Z"⟩, 35) := ⟨⟨by decide +kernel, by decide +kernel⟩, List.mem_of_getElem? (i := 850) (by decide +kernel), List.mem_of_getElem? (i := 1157) (by decide +kernel), List.mem_of_getElem? (i := 1158) (by decide +kernel)⟩
theorem lw_p58 : lw_okq (⟨"FactorDeskModel", "lifts", "(IJ)Z"⟩, 35) := ⟨⟨by decide +kernel, by decide +kernel⟩, List.mem_of_getElem? (i := 850) (by decide +kernel), List.mem_of_getElem? (i := 1161) (by decide +kernel), List.mem_of_getElem? (i := 1162) (by decide +kernel)⟩
theorem lw_p59 : lw_okq (⟨"FactorDeskModel", "isSmall", "(I)Z"⟩, 35) := ⟨⟨by decide +kernel, by decide +kernel⟩, List.mem_of_getElem? (i := 850) (by decide +kernel), List.mem_of_getElem? (i := 1165) (by decide +kernel), List.mem_of_getElem? (i := 1166) (by decide +kernel)⟩
theorem lw_p60 : lw_okq (⟨"FactorDeskModel", "isShort", "(I)Z"⟩, 35) := ⟨⟨by decide +kernel, by decide +kernel⟩, List.mem_of_getElem? (i := 850) (by decide +kernel), List.mem_of_getElem? (i := 1169) (by decide +kernel), List.mem_of_getElem? (i := 1170) (by decide +kernel)⟩
theorem lw_p61 : lw_okq (⟨"FactorDeskModel", "restOf", "(IJ)J"⟩, 35) := ⟨⟨by decide +kernel, by decide +kernel⟩, List.mem_of_getElem? (i := 850) (by decide +kernel), List.mem_of_getElem? (i := 1173) (by decide +kernel), List.mem_of_getElem? (i := 1174) (by decide +kernel)⟩
theorem lw_p62 : lw_okq (⟨"FactorDeskModel", "negative", "(I)Z"⟩, 35) := ⟨⟨by decide +kernel, by decide +kernel⟩, List.mem_of_getElem? (i := 850) (by decide +kernel), List.mem_of_getElem? (i := 1179) (by decide +kernel), List.mem_of_getElem? (i := 1180) (by decide +kernel)⟩
theorem lw_p63 : lw_okq (⟨"FactorDeskModel", "keeps", "(I)V"⟩, 35) := ⟨⟨by decide +kernel, by decide +kernel⟩, List.mem_of_getElem? (i := 850) (by decide +kernel), List.mem_of_getElem? (i := 1183) (by decide +kernel), List.mem_of_getElem? (i := 1184) (by decide +kernel)⟩
def lw_privs_4 : List (MethodName × Nat) := [(⟨"FactorDeskModel", "product", "(III)V"⟩, 35), (⟨"FactorDeskModel", "add", "([JI[JI[JI)V"⟩, 35), (⟨"FactorDeskModel", "less", "(II)V"⟩, 35), (⟨"FactorDeskModel", "splits", "(II)V"⟩, 35), (⟨"FactorDeskModel", "tries", "(II)V"⟩, 35), (⟨"FactorDeskModel", "draws", "()J"⟩, 35), (⟨"FactorDeskModel", "compose", "(IIII)V"⟩, 35), (⟨"FactorDeskModel", "counts", "(I)V"⟩, 35), (⟨"FactorDeskModel", "least", "(I)I"⟩, 35), (⟨"FactorDeskModel", "makes", "(I)Z"⟩, 35), (⟨"FactorDeskModel", "lifts", "(IJ)Z"⟩, 35), (⟨"FactorDeskModel", "isSmall", "(I)Z"⟩, 35), (⟨"FactorDeskModel", "isShort", "(I)Z"⟩, 35), (⟨"FactorDeskModel", "restOf", "(IJ)J"⟩, 35), (⟨"FactorDeskModel", "negative", "(I)Z"⟩, 35), (⟨"FactorDeskModel", "keeps", "(I)V"⟩, 35)]
theorem lw_r4 : ∀ q ∈ lw_privs_4, lw_okq q := List.forall_mem_cons.mpr ⟨lw_p48, List.forall_mem_cons.mpr ⟨lw_p49, List.forall_mem_cons.mpr ⟨lw_p50, List.forall_mem_cons.mpr ⟨lw_p51, List.forall_mem_cons.mpr ⟨lw_p52, List.forall_mem_cons.mpr ⟨lw_p53, List.forall_mem_cons.mpr ⟨lw_p54, List.forall_mem_cons.mpr ⟨lw_p55, List.forall_mem_cons.mpr ⟨lw_p56, List.forall_mem_cons.mpr ⟨lw_p57, List.forall_mem_cons.mpr ⟨lw_p58, List.forall_mem_cons.mpr ⟨lw_p59, List.forall_mem_cons.mpr ⟨lw_p60, List.forall_mem_cons.mpr ⟨lw_p61, List.forall_mem_cons.mpr ⟨lw_p62, List.forall_mem_cons.mpr ⟨lw_p63, fun _ h => absurd h List.not_mem_nil⟩⟩⟩⟩⟩⟩⟩⟩⟩⟩⟩⟩⟩⟩⟩⟩
theorem lw_p64 : lw_okq (⟨"FactorDeskModel", "compares", "(I)I"⟩, 35) := ⟨⟨by decide +kernel, by decide +kernel⟩, List.mem_of_getElem? (i := 850) (by decide +kernel), List.mem_of_getElem? (i := 1187) (by decide +kernel), List.mem_of_getElem? (i := 1188) (by decide +kernel)⟩
def lw_privs_5 : List (MethodName × Nat) := [(⟨"FactorDeskModel", "compares", "(I)I"⟩, 35)]
theorem lw_r5 : ∀ q ∈ lw_privs_5, lw_okq q := List.forall_mem_cons.mpr ⟨lw_p64, fun _ h => absurd h List.not_mem_nil⟩
def lw_privs : List (MethodName × Nat) := lw_privs_1 ++ (lw_privs_2 ++ (lw_privs_3 ++ (lw_privs_4 ++ (lw_privs_5))))
def lw_tbl : List Cond := k2_sels lw_privs ++ tables_1
theorem lw_privs_ok : ∀ q ∈ lw_privs, lw_okq q := by
  show ∀ q ∈ lw_privs_1 ++ (lw_privs_2 ++ (lw_privs_3 ++ (lw_privs_4 ++ (lw_privs_5)))), lw_okq q
  exact List.forall_mem_append.mpr ⟨lw_r1, List.forall_mem_append.mpr ⟨lw_r2, List.forall_mem_append.mpr ⟨lw_r3, List.forall_mem_append.mpr ⟨lw_r4, lw_r5⟩⟩⟩⟩
-- ===== end of PART A; then your names; then what follows =====
end
section
-- names of the classes, their fields in the order of the tables; by a program of mine (wip/gen/names.py)
abbrev R_Poly : String := "FactorDesk$Poly"
def T_Poly : u_T := fun k => match k with
  | 0 => ("FactorDesk$Poly", "c", "[J", true)
  | _ => ("FactorDesk$Poly", "degree", "I", false)
def t_Poly : Nat → FieldType := fun k => match k with
  | 0 => .array .long
  | _ => .int
theorem n_Poly : ∀ a, a < 2 → ∀ b, b < 2 → a ≠ b → (T_Poly a).2.1 ≠ (T_Poly b).2.1 := by decide +kernel
theorem t_Poly_ok : ∀ k, k < 2 → parseFieldDescriptor (T_Poly k).2.2.1 = some (t_Poly k) := by decide +kernel
theorem i_Poly_e : u_ws R_Poly T_Poly 2 = [115, 117].filterMap (fun i => lw_tbl[i]?) := by decide +kernel
theorem i_Poly_g : (u_ws R_Poly T_Poly 2).all goodWord = true := by decide +kernel
abbrev R_FList : String := "FactorDesk$FactorList"
def T_FList : u_T := fun k => match k with
  | 0 => ("FactorDesk$FactorList", "parts", "[LFactorDesk$Poly;", true)
  | 1 => ("FactorDesk$FactorList", "multiplicities", "[I", true)
  | _ => ("FactorDesk$FactorList", "count", "I", false)
def t_FList : Nat → FieldType := fun k => match k with
  | 0 => .array (.object "FactorDesk$Poly")
  | 1 => .array .int
  | _ => .int
theorem n_FList : ∀ a, a < 3 → ∀ b, b < 3 → a ≠ b → (T_FList a).2.1 ≠ (T_FList b).2.1 := by decide +kernel
theorem t_FList_ok : ∀ k, k < 3 → parseFieldDescriptor (T_FList k).2.2.1 = some (t_FList k) := by decide +kernel
theorem i_FList_e : u_ws R_FList T_FList 3 = [144, 146, 148].filterMap (fun i => lw_tbl[i]?) := by decide +kernel
theorem i_FList_g : (u_ws R_FList T_FList 3).all goodWord = true := by decide +kernel
abbrev R_Divn : String := "FactorDesk$Division"
def T_Divn : u_T := fun k => match k with
  | 0 => ("FactorDesk$Division", "quotient", "LFactorDesk$Poly;", true)
  | _ => ("FactorDesk$Division", "left", "[J", true)
def t_Divn : Nat → FieldType := fun k => match k with
  | 0 => .object "FactorDesk$Poly"
  | _ => .array .long
theorem n_Divn : ∀ a, a < 2 → ∀ b, b < 2 → a ≠ b → (T_Divn a).2.1 ≠ (T_Divn b).2.1 := by decide +kernel
theorem t_Divn_ok : ∀ k, k < 2 → parseFieldDescriptor (T_Divn k).2.2.1 = some (t_Divn k) := by decide +kernel
theorem i_Divn_e : u_ws R_Divn T_Divn 2 = [176, 178].filterMap (fun i => lw_tbl[i]?) := by decide +kernel
theorem i_Divn_g : (u_ws R_Divn T_Divn 2).all goodWord = true := by decide +kernel
abbrev R_Resi : String := "FactorDesk$Residues"
def T_Resi : u_T := fun k => match k with
  | 0 => ("FactorDesk$Residues", "quotient", "LFactorDesk$Poly;", true)
  | 1 => ("FactorDesk$Residues", "modulus", "J", false)
  | 2 => ("FactorDesk$Residues", "chunk", "I", false)
  | 3 => ("FactorDesk$Residues", "chunkMask", "J", false)
  | _ => ("FactorDesk$Residues", "chunks", "I", false)
def t_Resi : Nat → FieldType := fun k => match k with
  | 0 => .object "FactorDesk$Poly"
  | 1 => .long
  | 2 => .int
  | 3 => .long
  | _ => .int
theorem n_Resi : ∀ a, a < 5 → ∀ b, b < 5 → a ≠ b → (T_Resi a).2.1 ≠ (T_Resi b).2.1 := by decide +kernel
theorem t_Resi_ok : ∀ k, k < 5 → parseFieldDescriptor (T_Resi k).2.2.1 = some (t_Resi k) := by decide +kernel
theorem i_Resi_e : u_ws R_Resi T_Resi 5 = [198, 200, 202, 204, 206].filterMap (fun i => lw_tbl[i]?) := by decide +kernel
theorem i_Resi_g : (u_ws R_Resi T_Resi 5).all goodWord = true := by decide +kernel
abbrev R_CDiv : String := "FactorDesk$CommonDivisor"
def T_CDiv : u_T := fun k => match k with
  | 0 => ("FactorDesk$CommonDivisor", "answer", "LFactorDesk$Poly;", true)
  | 1 => ("FactorDesk$CommonDivisor", "division", "LFactorDesk$Division;", true)
  | 2 => ("FactorDesk$CommonDivisor", "residues", "LFactorDesk$Residues;", true)
  | 3 => ("FactorDesk$CommonDivisor", "one", "LFactorDesk$Poly;", true)
  | 4 => ("FactorDesk$CommonDivisor", "two", "LFactorDesk$Poly;", true)
  | 5 => ("FactorDesk$CommonDivisor", "a", "LFactorDesk$Poly;", true)
  | _ => ("FactorDesk$CommonDivisor", "b", "LFactorDesk$Poly;", true)
def t_CDiv : Nat → FieldType := fun k => match k with
  | 0 => .object "FactorDesk$Poly"
  | 1 => .object "FactorDesk$Division"
  | 2 => .object "FactorDesk$Residues"
  | 3 => .object "FactorDesk$Poly"
  | 4 => .object "FactorDesk$Poly"
  | 5 => .object "FactorDesk$Poly"
  | _ => .object "FactorDesk$Poly"
theorem n_CDiv : ∀ a, a < 7 → ∀ b, b < 7 → a ≠ b → (T_CDiv a).2.1 ≠ (T_CDiv b).2.1 := by decide +kernel
theorem t_CDiv_ok : ∀ k, k < 7 → parseFieldDescriptor (T_CDiv k).2.2.1 = some (t_CDiv k) := by decide +kernel
theorem i_CDiv_e : u_ws R_CDiv T_CDiv 7 = [221, 223, 225, 227, 229, 231, 233].filterMap (fun i => lw_tbl[i]?) := by decide +kernel
theorem i_CDiv_g : (u_ws R_CDiv T_CDiv 7).all goodWord = true := by decide +kernel
abbrev R_MSpl : String := "FactorDesk$ModularSplit"
def T_MSpl : u_T := fun k => match k with
  | 0 => ("FactorDesk$ModularSplit", "residues", "LFactorDesk$Residues;", true)
  | 1 => ("FactorDesk$ModularSplit", "pieces", "[LFactorDesk$Poly;", true)
  | 2 => ("FactorDesk$ModularSplit", "monic", "LFactorDesk$Poly;", true)
  | 3 => ("FactorDesk$ModularSplit", "count", "I", false)
  | 4 => ("FactorDesk$ModularSplit", "prime", "I", false)
  | 5 => ("FactorDesk$ModularSplit", "wanted", "I", false)
  | 6 => ("FactorDesk$ModularSplit", "matrix", "[[J", true)
  | 7 => ("FactorDesk$ModularSplit", "pivotRow", "[I", true)
  | 8 => ("FactorDesk$ModularSplit", "kernel", "LFactorDesk$Poly;", true)
  | 9 => ("FactorDesk$ModularSplit", "a", "LFactorDesk$Poly;", true)
  | _ => ("FactorDesk$ModularSplit", "b", "LFactorDesk$Poly;", true)
def t_MSpl : Nat → FieldType := fun k => match k with
  | 0 => .object "FactorDesk$Residues"
  | 1 => .array (.object "FactorDesk$Poly")
  | 2 => .object "FactorDesk$Poly"
  | 3 => .int
  | 4 => .int
  | 5 => .int
  | 6 => .array (.array .long)
  | 7 => .array .int
  | 8 => .object "FactorDesk$Poly"
  | 9 => .object "FactorDesk$Poly"
  | _ => .object "FactorDesk$Poly"
theorem n_MSpl : ∀ a, a < 11 → ∀ b, b < 11 → a ≠ b → (T_MSpl a).2.1 ≠ (T_MSpl b).2.1 := by decide +kernel
theorem t_MSpl_ok : ∀ k, k < 11 → parseFieldDescriptor (T_MSpl k).2.2.1 = some (t_MSpl k) := by decide +kernel
theorem i_MSpl_e : u_ws R_MSpl T_MSpl 11 = [272, 274, 276, 278, 280, 282, 284, 286, 288, 290, 292].filterMap (fun i => lw_tbl[i]?) := by decide +kernel
theorem i_MSpl_g : (u_ws R_MSpl T_MSpl 11).all goodWord = true := by decide +kernel
abbrev R_Lift : String := "FactorDesk$Lift"
def T_Lift : u_T := fun k => match k with
  | 0 => ("FactorDesk$Lift", "split", "LFactorDesk$ModularSplit;", true)
  | 1 => ("FactorDesk$Lift", "residues", "LFactorDesk$Residues;", true)
  | 2 => ("FactorDesk$Lift", "pieces", "[LFactorDesk$Poly;", true)
  | 3 => ("FactorDesk$Lift", "inverses", "[LFactorDesk$Poly;", true)
  | 4 => ("FactorDesk$Lift", "target", "LFactorDesk$Poly;", true)
  | 5 => ("FactorDesk$Lift", "error", "LFactorDesk$Poly;", true)
  | 6 => ("FactorDesk$Lift", "work", "LFactorDesk$Poly;", true)
  | 7 => ("FactorDesk$Lift", "one", "LFactorDesk$Poly;", false)
  | 8 => ("FactorDesk$Lift", "two", "LFactorDesk$Poly;", false)
  | 9 => ("FactorDesk$Lift", "oneTimes", "LFactorDesk$Poly;", false)
  | _ => ("FactorDesk$Lift", "twoTimes", "LFactorDesk$Poly;", false)
def t_Lift : Nat → FieldType := fun k => match k with
  | 0 => .object "FactorDesk$ModularSplit"
  | 1 => .object "FactorDesk$Residues"
  | 2 => .array (.object "FactorDesk$Poly")
  | 3 => .array (.object "FactorDesk$Poly")
  | 4 => .object "FactorDesk$Poly"
  | 5 => .object "FactorDesk$Poly"
  | 6 => .object "FactorDesk$Poly"
  | 7 => .object "FactorDesk$Poly"
  | 8 => .object "FactorDesk$Poly"
  | 9 => .object "FactorDesk$Poly"
  | _ => .object "FactorDesk$Poly"
theorem n_Lift : ∀ a, a < 11 → ∀ b, b < 11 → a ≠ b → (T_Lift a).2.1 ≠ (T_Lift b).2.1 := by decide +kernel
theorem t_Lift_ok : ∀ k, k < 11 → parseFieldDescriptor (T_Lift k).2.2.1 = some (t_Lift k) := by decide +kernel
theorem i_Lift_e : u_ws R_Lift T_Lift 11 = [313, 315, 317, 319, 321, 323, 325, 327, 329, 331, 333].filterMap (fun i => lw_tbl[i]?) := by decide +kernel
theorem i_Lift_g : (u_ws R_Lift T_Lift 11).all goodWord = true := by decide +kernel
abbrev R_Splt : String := "FactorDesk$Splitter"
def T_Splt : u_T := fun k => match k with
  | 0 => ("FactorDesk$Splitter", "found", "LFactorDesk$FactorList;", true)
  | 1 => ("FactorDesk$Splitter", "commonDivisor", "LFactorDesk$CommonDivisor;", true)
  | 2 => ("FactorDesk$Splitter", "division", "LFactorDesk$Division;", true)
  | 3 => ("FactorDesk$Splitter", "known", "Z", false)
  | 4 => ("FactorDesk$Splitter", "lift", "LFactorDesk$Lift;", true)
  | 5 => ("FactorDesk$Splitter", "modular", "LFactorDesk$ModularSplit;", true)
  | 6 => ("FactorDesk$Splitter", "whole", "LFactorDesk$Poly;", true)
  | 7 => ("FactorDesk$Splitter", "rest", "LFactorDesk$Poly;", true)
  | _ => ("FactorDesk$Splitter", "candidate", "LFactorDesk$Poly;", true)
def t_Splt : Nat → FieldType := fun k => match k with
  | 0 => .object "FactorDesk$FactorList"
  | 1 => .object "FactorDesk$CommonDivisor"
  | 2 => .object "FactorDesk$Division"
  | 3 => .boolean
  | 4 => .object "FactorDesk$Lift"
  | 5 => .object "FactorDesk$ModularSplit"
  | 6 => .object "FactorDesk$Poly"
  | 7 => .object "FactorDesk$Poly"
  | _ => .object "FactorDesk$Poly"
theorem n_Splt : ∀ a, a < 9 → ∀ b, b < 9 → a ≠ b → (T_Splt a).2.1 ≠ (T_Splt b).2.1 := by decide +kernel
theorem t_Splt_ok : ∀ k, k < 9 → parseFieldDescriptor (T_Splt k).2.2.1 = some (t_Splt k) := by decide +kernel
theorem i_Splt_e : u_ws R_Splt T_Splt 9 = [350, 352, 354, 356, 358, 360, 362, 364, 366].filterMap (fun i => lw_tbl[i]?) := by decide +kernel
theorem i_Splt_g : (u_ws R_Splt T_Splt 9).all goodWord = true := by decide +kernel
abbrev R_Desk : String := "FactorDesk"
def T_Desk : u_T := fun k => match k with
  | 0 => ("FactorDesk", "tape", "[I", true)
  | 1 => ("FactorDesk", "taped", "I", false)
  | 2 => ("FactorDesk", "polynomial", "LFactorDesk$Poly;", true)
  | 3 => ("FactorDesk", "result", "LFactorDesk$Poly;", true)
  | 4 => ("FactorDesk", "operand", "LFactorDesk$Poly;", true)
  | 5 => ("FactorDesk", "latestDivisor", "LFactorDesk$Poly;", true)
  | 6 => ("FactorDesk", "told", "LFactorDesk$FactorList;", true)
  | 7 => ("FactorDesk", "splitter", "LFactorDesk$Splitter;", true)
  | 8 => ("FactorDesk", "commonDivisor", "LFactorDesk$CommonDivisor;", true)
  | _ => ("FactorDesk", "division", "LFactorDesk$Division;", true)
def t_Desk : Nat → FieldType := fun k => match k with
  | 0 => .array .int
  | 1 => .int
  | 2 => .object "FactorDesk$Poly"
  | 3 => .object "FactorDesk$Poly"
  | 4 => .object "FactorDesk$Poly"
  | 5 => .object "FactorDesk$Poly"
  | 6 => .object "FactorDesk$FactorList"
  | 7 => .object "FactorDesk$Splitter"
  | 8 => .object "FactorDesk$CommonDivisor"
  | _ => .object "FactorDesk$Division"
theorem n_Desk : ∀ a, a < 10 → ∀ b, b < 10 → a ≠ b → (T_Desk a).2.1 ≠ (T_Desk b).2.1 := by decide +kernel
theorem t_Desk_ok : ∀ k, k < 10 → parseFieldDescriptor (T_Desk k).2.2.1 = some (t_Desk k) := by decide +kernel
theorem i_Desk_e : u_ws R_Desk T_Desk 10 = [379, 381, 383, 385, 387, 389, 391, 393, 395, 397].filterMap (fun i => lw_tbl[i]?) := by decide +kernel
theorem i_Desk_g : (u_ws R_Desk T_Desk 10).all goodWord = true := by decide +kernel
abbrev R_Modl : String := "FactorDeskModel"
def T_Modl : u_T := fun k => match k with
  | 0 => ("FactorDeskModel", "thrown", "I", false)
  | 1 => ("FactorDeskModel", "tape", "[J", true)
  | 2 => ("FactorDeskModel", "taped", "I", false)
  | 3 => ("FactorDeskModel", "one", "[J", true)
  | 4 => ("FactorDeskModel", "high", "I", false)
  | 5 => ("FactorDeskModel", "divisor", "[J", true)
  | 6 => ("FactorDeskModel", "divisorDegree", "I", false)
  | 7 => ("FactorDeskModel", "shown", "I", false)
  | 8 => ("FactorDeskModel", "shownPart", "[J", true)
  | 9 => ("FactorDeskModel", "shownDegree", "[I", true)
  | 10 => ("FactorDeskModel", "shownTimes", "[I", true)
  | 11 => ("FactorDeskModel", "found", "I", false)
  | 12 => ("FactorDeskModel", "part", "[J", true)
  | 13 => ("FactorDeskModel", "partDegree", "[I", true)
  | 14 => ("FactorDeskModel", "partTimes", "[I", true)
  | 15 => ("FactorDeskModel", "prime", "I", false)
  | 16 => ("FactorDeskModel", "digits", "I", false)
  | 17 => ("FactorDeskModel", "cells", "[J", true)
  | 18 => ("FactorDeskModel", "deg", "[I", true)
  | 19 => ("FactorDeskModel", "w", "[J", true)
  | 20 => ("FactorDeskModel", "t", "[J", true)
  | 21 => ("FactorDeskModel", "u", "[J", true)
  | 22 => ("FactorDeskModel", "zero", "[J", true)
  | 23 => ("FactorDeskModel", "chance", "J", false)
  | 24 => ("FactorDeskModel", "many", "I", false)
  | 25 => ("FactorDeskModel", "times", "[I", true)
  | 26 => ("FactorDeskModel", "used", "[Z", true)
  | 27 => ("FactorDeskModel", "candidate", "[J", true)
  | 28 => ("FactorDeskModel", "candidateDegree", "I", false)
  | 29 => ("FactorDeskModel", "candidateContent", "J", false)
  | 30 => ("FactorDeskModel", "left", "[J", true)
  | 31 => ("FactorDeskModel", "unit", "[J", true)
  | 32 => ("FactorDeskModel", "minus", "[Z", true)
  | 33 => ("FactorDeskModel", "other", "[J", true)
  | _ => ("FactorDeskModel", "otherContent", "J", false)
def t_Modl : Nat → FieldType := fun k => match k with
  | 0 => .int
  | 1 => .array .long
  | 2 => .int
  | 3 => .array .long
  | 4 => .int
  | 5 => .array .long
  | 6 => .int
  | 7 => .int
  | 8 => .array .long
  | 9 => .array .int
  | 10 => .array .int
  | 11 => .int
  | 12 => .array .long
  | 13 => .array .int
  | 14 => .array .int
  | 15 => .int
  | 16 => .int
  | 17 => .array .long
  | 18 => .array .int
  | 19 => .array .long
  | 20 => .array .long
  | 21 => .array .long
  | 22 => .array .long
  | 23 => .long
  | 24 => .int
  | 25 => .array .int
  | 26 => .array .boolean
  | 27 => .array .long
  | 28 => .int
  | 29 => .long
  | 30 => .array .long
  | 31 => .array .long
  | 32 => .array .boolean
  | 33 => .array .long
  | _ => .long
theorem n_Modl : ∀ a, a < 35 → ∀ b, b < 35 → a ≠ b → (T_Modl a).2.1 ≠ (T_Modl b).2.1 := by decide +kernel
theorem t_Modl_ok : ∀ k, k < 35 → parseFieldDescriptor (T_Modl k).2.2.1 = some (t_Modl k) := by decide +kernel
theorem i_Modl_e : u_ws R_Modl T_Modl 35 = [955, 957, 959, 961, 963, 965, 967, 969, 971, 973, 975, 977, 979, 981, 983, 985, 987, 989, 991, 993, 995, 997, 999, 1001, 1003, 1005, 1007, 1009, 1011, 1013, 1015, 1017, 1019, 1021, 1023].filterMap (fun i => lw_tbl[i]?) := by decide +kernel
theorem i_Modl_g : (u_ws R_Modl T_Modl 35).all goodWord = true := by decide +kernel
abbrev vcl : List vw_C := [(R_Poly, T_Poly, 2), (R_FList, T_FList, 3), (R_Divn, T_Divn, 2), (R_Resi, T_Resi, 5), (R_CDiv, T_CDiv, 7), (R_MSpl, T_MSpl, 11), (R_Lift, T_Lift, 11), (R_Splt, T_Splt, 9), (R_Desk, T_Desk, 10), (R_Modl, T_Modl, 35)]
end
