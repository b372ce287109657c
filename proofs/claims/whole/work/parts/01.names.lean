-- ===== PART A: goes FIRST, ahead of the names: the tables' words, and 'selects' of the private methods out of them =====
/-- a private method of a class that the tables say can be made, by its rows of tables_1 -/
def lw_okq (q : MethodName × Nat) : Prop := (q.1.cls ≠ "java/lang/invoke/MethodHandle" ∧ q.1.cls ≠ "java/lang/invoke/VarHandle") ∧ Cond.instantiable q.1.cls q.2 ∈ tables_1 ∧ Cond.privateMethod q.1 ∈ tables_1 ∧ Cond.instanceMethod q.1 ∈ tables_1
theorem lw_p0 : lw_okq (⟨"BlockLayout$SetupText", "readHead", "()Z"⟩, 5) := ⟨⟨by decide +kernel, by decide +kernel⟩, List.mem_of_getElem? (i := 120) (by decide +kernel), List.mem_of_getElem? (i := 239) (by decide +kernel), List.mem_of_getElem? (i := 240) (by decide +kernel)⟩
theorem lw_p1 : lw_okq (⟨"BlockLayout$SetupText", "readDigit", "(II)I"⟩, 5) := ⟨⟨by decide +kernel, by decide +kernel⟩, List.mem_of_getElem? (i := 120) (by decide +kernel), List.mem_of_getElem? (i := 243) (by decide +kernel), List.mem_of_getElem? (i := 244) (by decide +kernel)⟩
theorem lw_p2 : lw_okq (⟨"BlockLayout$SetupText", "readCount", "()I"⟩, 5) := ⟨⟨by decide +kernel, by decide +kernel⟩, List.mem_of_getElem? (i := 120) (by decide +kernel), List.mem_of_getElem? (i := 247) (by decide +kernel), List.mem_of_getElem? (i := 248) (by decide +kernel)⟩
theorem lw_p3 : lw_okq (⟨"BlockLayout$SetupText", "readBlocks", "()Z"⟩, 5) := ⟨⟨by decide +kernel, by decide +kernel⟩, List.mem_of_getElem? (i := 120) (by decide +kernel), List.mem_of_getElem? (i := 255) (by decide +kernel), List.mem_of_getElem? (i := 256) (by decide +kernel)⟩
theorem lw_p4 : lw_okq (⟨"BlockLayout$SetupText", "readBlock", "(I)Z"⟩, 5) := ⟨⟨by decide +kernel, by decide +kernel⟩, List.mem_of_getElem? (i := 120) (by decide +kernel), List.mem_of_getElem? (i := 259) (by decide +kernel), List.mem_of_getElem? (i := 260) (by decide +kernel)⟩
theorem lw_p5 : lw_okq (⟨"BlockLayout$SetupText", "readEdge", "(II)Z"⟩, 5) := ⟨⟨by decide +kernel, by decide +kernel⟩, List.mem_of_getElem? (i := 120) (by decide +kernel), List.mem_of_getElem? (i := 266) (by decide +kernel), List.mem_of_getElem? (i := 267) (by decide +kernel)⟩
theorem lw_p6 : lw_okq (⟨"BlockLayout$Chains", "sortEdges", "(LBlockLayout$State;)V"⟩, 5) := ⟨⟨by decide +kernel, by decide +kernel⟩, List.mem_of_getElem? (i := 148) (by decide +kernel), List.mem_of_getElem? (i := 431) (by decide +kernel), List.mem_of_getElem? (i := 432) (by decide +kernel)⟩
theorem lw_p7 : lw_okq (⟨"BlockLayout$Chains", "insertEdge", "(LBlockLayout$State;I)V"⟩, 5) := ⟨⟨by decide +kernel, by decide +kernel⟩, List.mem_of_getElem? (i := 148) (by decide +kernel), List.mem_of_getElem? (i := 436) (by decide +kernel), List.mem_of_getElem? (i := 437) (by decide +kernel)⟩
theorem lw_p8 : lw_okq (⟨"BlockLayout$Chains", "joinBehind", "(LBlockLayout$State;II)V"⟩, 5) := ⟨⟨by decide +kernel, by decide +kernel⟩, List.mem_of_getElem? (i := 148) (by decide +kernel), List.mem_of_getElem? (i := 440) (by decide +kernel), List.mem_of_getElem? (i := 441) (by decide +kernel)⟩
theorem lw_p9 : lw_okq (⟨"BlockLayout$OptimalOrder", "fillShares", "(LBlockLayout$State;)V"⟩, 3) := ⟨⟨by decide +kernel, by decide +kernel⟩, List.mem_of_getElem? (i := 171) (by decide +kernel), List.mem_of_getElem? (i := 452) (by decide +kernel), List.mem_of_getElem? (i := 453) (by decide +kernel)⟩
theorem lw_p10 : lw_okq (⟨"BlockLayout$OptimalOrder", "collectFreeBlocks", "(LBlockLayout$State;)V"⟩, 3) := ⟨⟨by decide +kernel, by decide +kernel⟩, List.mem_of_getElem? (i := 171) (by decide +kernel), List.mem_of_getElem? (i := 457) (by decide +kernel), List.mem_of_getElem? (i := 458) (by decide +kernel)⟩
theorem lw_p11 : lw_okq (⟨"BlockLayout$OptimalOrder", "fillSet", "(LBlockLayout$State;I)V"⟩, 3) := ⟨⟨by decide +kernel, by decide +kernel⟩, List.mem_of_getElem? (i := 171) (by decide +kernel), List.mem_of_getElem? (i := 461) (by decide +kernel), List.mem_of_getElem? (i := 462) (by decide +kernel)⟩
theorem lw_p12 : lw_okq (⟨"BlockLayout$OptimalOrder", "cheapestNext", "(LBlockLayout$State;II)I"⟩, 3) := ⟨⟨by decide +kernel, by decide +kernel⟩, List.mem_of_getElem? (i := 171) (by decide +kernel), List.mem_of_getElem? (i := 468) (by decide +kernel), List.mem_of_getElem? (i := 469) (by decide +kernel)⟩
theorem lw_p13 : lw_okq (⟨"BlockLayout$OptimalOrder", "costThrough", "(III)I"⟩, 3) := ⟨⟨by decide +kernel, by decide +kernel⟩, List.mem_of_getElem? (i := 171) (by decide +kernel), List.mem_of_getElem? (i := 472) (by decide +kernel), List.mem_of_getElem? (i := 473) (by decide +kernel)⟩
theorem lw_p14 : lw_okq (⟨"BlockLayout$Chains", "placeChain", "(LBlockLayout$State;II)I"⟩, 5) := ⟨⟨by decide +kernel, by decide +kernel⟩, List.mem_of_getElem? (i := 148) (by decide +kernel), List.mem_of_getElem? (i := 506) (by decide +kernel), List.mem_of_getElem? (i := 507) (by decide +kernel)⟩
theorem lw_p15 : lw_okq (⟨"BlockLayout$Chains", "heaviestHead", "(LBlockLayout$State;)I"⟩, 5) := ⟨⟨by decide +kernel, by decide +kernel⟩, List.mem_of_getElem? (i := 148) (by decide +kernel), List.mem_of_getElem? (i := 510) (by decide +kernel), List.mem_of_getElem? (i := 511) (by decide +kernel)⟩
def lw_privs_1 : List (MethodName × Nat) := [(⟨"BlockLayout$SetupText", "readHead", "()Z"⟩, 5), (⟨"BlockLayout$SetupText", "readDigit", "(II)I"⟩, 5), (⟨"BlockLayout$SetupText", "readCount", "()I"⟩, 5), (⟨"BlockLayout$SetupText", "readBlocks", "()Z"⟩, 5), (⟨"BlockLayout$SetupText", "readBlock", "(I)Z"⟩, 5), (⟨"BlockLayout$SetupText", "readEdge", "(II)Z"⟩, 5), (⟨"BlockLayout$Chains", "sortEdges", "(LBlockLayout$State;)V"⟩, 5), (⟨"BlockLayout$Chains", "insertEdge", "(LBlockLayout$State;I)V"⟩, 5), (⟨"BlockLayout$Chains", "joinBehind", "(LBlockLayout$State;II)V"⟩, 5), (⟨"BlockLayout$OptimalOrder", "fillShares", "(LBlockLayout$State;)V"⟩, 3), (⟨"BlockLayout$OptimalOrder", "collectFreeBlocks", "(LBlockLayout$State;)V"⟩, 3), (⟨"BlockLayout$OptimalOrder", "fillSet", "(LBlockLayout$State;I)V"⟩, 3), (⟨"BlockLayout$OptimalOrder", "cheapestNext", "(LBlockLayout$State;II)I"⟩, 3), (⟨"BlockLayout$OptimalOrder", "costThrough", "(III)I"⟩, 3), (⟨"BlockLayout$Chains", "placeChain", "(LBlockLayout$State;II)I"⟩, 5), (⟨"BlockLayout$Chains", "heaviestHead", "(LBlockLayout$State;)I"⟩, 5)]
theorem lw_r1 : ∀ q ∈ lw_privs_1, lw_okq q := List.forall_mem_cons.mpr ⟨lw_p0, List.forall_mem_cons.mpr ⟨lw_p1, List.forall_mem_cons.mpr ⟨lw_p2, List.forall_mem_cons.mpr ⟨lw_p3, List.forall_mem_cons.mpr ⟨lw_p4, List.forall_mem_cons.mpr ⟨lw_p5, List.forall_mem_cons.mpr ⟨lw_p6, List.forall_mem_cons.mpr ⟨lw_p7, List.forall_mem_cons.mpr ⟨lw_p8, List.forall_mem_cons.mpr ⟨lw_p9, List.forall_mem_cons.mpr ⟨lw_p10, List.forall_mem_cons.mpr ⟨lw_p11, List.forall_mem_cons.mpr ⟨lw_p12, List.forall_mem_cons.mpr ⟨lw_p13, List.forall_mem_cons.mpr ⟨lw_p14, List.forall_mem_cons.mpr ⟨lw_p15, fun _ h => absurd h List.not_mem_nil⟩⟩⟩⟩⟩⟩⟩⟩⟩⟩⟩⟩⟩⟩⟩⟩
theorem lw_p16 : lw_okq (⟨"BlockLayout$Chains", "isPlaced", "(I)Z"⟩, 5) := ⟨⟨by decide +kernel, by decide +kernel⟩, List.mem_of_getElem? (i := 148) (by decide +kernel), List.mem_of_getElem? (i := 514) (by decide +kernel), List.mem_of_getElem? (i := 515) (by decide +kernel)⟩
theorem lw_p17 : lw_okq (⟨"BlockLayout$Chains", "weightOf", "(LBlockLayout$State;I)I"⟩, 5) := ⟨⟨by decide +kernel, by decide +kernel⟩, List.mem_of_getElem? (i := 148) (by decide +kernel), List.mem_of_getElem? (i := 518) (by decide +kernel), List.mem_of_getElem? (i := 519) (by decide +kernel)⟩
theorem lw_p18 : lw_okq (⟨"BlockLayout$State", "joinEqualEdges", "(I)V"⟩, 7) := ⟨⟨by decide +kernel, by decide +kernel⟩, List.mem_of_getElem? (i := 53) (by decide +kernel), List.mem_of_getElem? (i := 573) (by decide +kernel), List.mem_of_getElem? (i := 574) (by decide +kernel)⟩
theorem lw_p19 : lw_okq (⟨"BlockLayoutModel", "readText", "()I"⟩, 23) := ⟨⟨by decide +kernel, by decide +kernel⟩, List.mem_of_getElem? (i := 671) (by decide +kernel), List.mem_of_getElem? (i := 763) (by decide +kernel), List.mem_of_getElem? (i := 764) (by decide +kernel)⟩
theorem lw_p20 : lw_okq (⟨"BlockLayoutModel", "figure", "(II)I"⟩, 23) := ⟨⟨by decide +kernel, by decide +kernel⟩, List.mem_of_getElem? (i := 671) (by decide +kernel), List.mem_of_getElem? (i := 767) (by decide +kernel), List.mem_of_getElem? (i := 768) (by decide +kernel)⟩
theorem lw_p21 : lw_okq (⟨"BlockLayoutModel", "twoFigures", "()I"⟩, 23) := ⟨⟨by decide +kernel, by decide +kernel⟩, List.mem_of_getElem? (i := 671) (by decide +kernel), List.mem_of_getElem? (i := 771) (by decide +kernel), List.mem_of_getElem? (i := 772) (by decide +kernel)⟩
theorem lw_p22 : lw_okq (⟨"BlockLayoutModel", "readBlock", "(I)Z"⟩, 23) := ⟨⟨by decide +kernel, by decide +kernel⟩, List.mem_of_getElem? (i := 671) (by decide +kernel), List.mem_of_getElem? (i := 775) (by decide +kernel), List.mem_of_getElem? (i := 776) (by decide +kernel)⟩
theorem lw_p23 : lw_okq (⟨"BlockLayoutModel", "readSuccessor", "(II)Z"⟩, 23) := ⟨⟨by decide +kernel, by decide +kernel⟩, List.mem_of_getElem? (i := 671) (by decide +kernel), List.mem_of_getElem? (i := 779) (by decide +kernel), List.mem_of_getElem? (i := 780) (by decide +kernel)⟩
theorem lw_p24 : lw_okq (⟨"BlockLayoutModel", "isBlock", "(I)Z"⟩, 23) := ⟨⟨by decide +kernel, by decide +kernel⟩, List.mem_of_getElem? (i := 671) (by decide +kernel), List.mem_of_getElem? (i := 798) (by decide +kernel), List.mem_of_getElem? (i := 799) (by decide +kernel)⟩
theorem lw_p25 : lw_okq (⟨"BlockLayoutModel", "isEdge", "(II)Z"⟩, 23) := ⟨⟨by decide +kernel, by decide +kernel⟩, List.mem_of_getElem? (i := 671) (by decide +kernel), List.mem_of_getElem? (i := 806) (by decide +kernel), List.mem_of_getElem? (i := 807) (by decide +kernel)⟩
theorem lw_p26 : lw_okq (⟨"BlockLayoutModel", "executionsOf", "([II)I"⟩, 23) := ⟨⟨by decide +kernel, by decide +kernel⟩, List.mem_of_getElem? (i := 671) (by decide +kernel), List.mem_of_getElem? (i := 818) (by decide +kernel), List.mem_of_getElem? (i := 819) (by decide +kernel)⟩
theorem lw_p27 : lw_okq (⟨"BlockLayoutModel", "isPosition", "(I)Z"⟩, 23) := ⟨⟨by decide +kernel, by decide +kernel⟩, List.mem_of_getElem? (i := 671) (by decide +kernel), List.mem_of_getElem? (i := 826) (by decide +kernel), List.mem_of_getElem? (i := 827) (by decide +kernel)⟩
theorem lw_p28 : lw_okq (⟨"BlockLayoutModel", "costOf", "([I)I"⟩, 23) := ⟨⟨by decide +kernel, by decide +kernel⟩, List.mem_of_getElem? (i := 671) (by decide +kernel), List.mem_of_getElem? (i := 838) (by decide +kernel), List.mem_of_getElem? (i := 839) (by decide +kernel)⟩
theorem lw_p29 : lw_okq (⟨"BlockLayoutModel", "edgeCostOf", "([III)I"⟩, 23) := ⟨⟨by decide +kernel, by decide +kernel⟩, List.mem_of_getElem? (i := 671) (by decide +kernel), List.mem_of_getElem? (i := 842) (by decide +kernel), List.mem_of_getElem? (i := 843) (by decide +kernel)⟩
theorem lw_p30 : lw_okq (⟨"BlockLayoutModel", "followerOf", "([II)I"⟩, 23) := ⟨⟨by decide +kernel, by decide +kernel⟩, List.mem_of_getElem? (i := 671) (by decide +kernel), List.mem_of_getElem? (i := 846) (by decide +kernel), List.mem_of_getElem? (i := 847) (by decide +kernel)⟩
theorem lw_p31 : lw_okq (⟨"BlockLayoutModel", "positionOf", "([II)I"⟩, 23) := ⟨⟨by decide +kernel, by decide +kernel⟩, List.mem_of_getElem? (i := 671) (by decide +kernel), List.mem_of_getElem? (i := 850) (by decide +kernel), List.mem_of_getElem? (i := 851) (by decide +kernel)⟩
def lw_privs_2 : List (MethodName × Nat) := [(⟨"BlockLayout$Chains", "isPlaced", "(I)Z"⟩, 5), (⟨"BlockLayout$Chains", "weightOf", "(LBlockLayout$State;I)I"⟩, 5), (⟨"BlockLayout$State", "joinEqualEdges", "(I)V"⟩, 7), (⟨"BlockLayoutModel", "readText", "()I"⟩, 23), (⟨"BlockLayoutModel", "figure", "(II)I"⟩, 23), (⟨"BlockLayoutModel", "twoFigures", "()I"⟩, 23), (⟨"BlockLayoutModel", "readBlock", "(I)Z"⟩, 23), (⟨"BlockLayoutModel", "readSuccessor", "(II)Z"⟩, 23), (⟨"BlockLayoutModel", "isBlock", "(I)Z"⟩, 23), (⟨"BlockLayoutModel", "isEdge", "(II)Z"⟩, 23), (⟨"BlockLayoutModel", "executionsOf", "([II)I"⟩, 23), (⟨"BlockLayoutModel", "isPosition", "(I)Z"⟩, 23), (⟨"BlockLayoutModel", "costOf", "([I)I"⟩, 23), (⟨"BlockLayoutModel", "edgeCostOf", "([III)I"⟩, 23), (⟨"BlockLayoutModel", "followerOf", "([II)I"⟩, 23), (⟨"BlockLayoutModel", "positionOf", "([II)I"⟩, 23)]
theorem lw_r2 : ∀ q ∈ lw_privs_2, lw_okq q := List.forall_mem_cons.mpr ⟨lw_p16, List.forall_mem_cons.mpr ⟨lw_p17, List.forall_mem_cons.mpr ⟨lw_p18, List.forall_mem_cons.mpr ⟨lw_p19, List.forall_mem_cons.mpr ⟨lw_p20, List.forall_mem_cons.mpr ⟨lw_p21, List.forall_mem_cons.mpr ⟨lw_p22, List.forall_mem_cons.mpr ⟨lw_p23, List.forall_mem_cons.mpr ⟨lw_p24, List.forall_mem_cons.mpr ⟨lw_p25, List.forall_mem_cons.mpr ⟨lw_p26, List.forall_mem_cons.mpr ⟨lw_p27, List.forall_mem_cons.mpr ⟨lw_p28, List.forall_mem_cons.mpr ⟨lw_p29, List.forall_mem_cons.mpr ⟨lw_p30, List.forall_mem_cons.mpr ⟨lw_p31, fun _ h => absurd h List.not_mem_nil⟩⟩⟩⟩⟩⟩⟩⟩⟩⟩⟩⟩⟩⟩⟩⟩
theorem lw_p32 : lw_okq (⟨"BlockLayoutModel", "addressOf", "([II)I"⟩, 23) := ⟨⟨by decide +kernel, by decide +kernel⟩, List.mem_of_getElem? (i := 671) (by decide +kernel), List.mem_of_getElem? (i := 858) (by decide +kernel), List.mem_of_getElem? (i := 859) (by decide +kernel)⟩
theorem lw_p33 : lw_okq (⟨"BlockLayoutModel", "isLoopHead", "([II)Z"⟩, 23) := ⟨⟨by decide +kernel, by decide +kernel⟩, List.mem_of_getElem? (i := 671) (by decide +kernel), List.mem_of_getElem? (i := 862) (by decide +kernel), List.mem_of_getElem? (i := 863) (by decide +kernel)⟩
theorem lw_p34 : lw_okq (⟨"BlockLayoutModel", "branchBytesOf", "([II)I"⟩, 23) := ⟨⟨by decide +kernel, by decide +kernel⟩, List.mem_of_getElem? (i := 671) (by decide +kernel), List.mem_of_getElem? (i := 869) (by decide +kernel), List.mem_of_getElem? (i := 870) (by decide +kernel)⟩
theorem lw_p35 : lw_okq (⟨"BlockLayoutModel", "layChains", "()V"⟩, 23) := ⟨⟨by decide +kernel, by decide +kernel⟩, List.mem_of_getElem? (i := 671) (by decide +kernel), List.mem_of_getElem? (i := 889) (by decide +kernel), List.mem_of_getElem? (i := 890) (by decide +kernel)⟩
theorem lw_p36 : lw_okq (⟨"BlockLayoutModel", "note", "()V"⟩, 23) := ⟨⟨by decide +kernel, by decide +kernel⟩, List.mem_of_getElem? (i := 671) (by decide +kernel), List.mem_of_getElem? (i := 897) (by decide +kernel), List.mem_of_getElem? (i := 898) (by decide +kernel)⟩
theorem lw_p37 : lw_okq (⟨"BlockLayoutModel", "weightOf", "(I)I"⟩, 23) := ⟨⟨by decide +kernel, by decide +kernel⟩, List.mem_of_getElem? (i := 671) (by decide +kernel), List.mem_of_getElem? (i := 901) (by decide +kernel), List.mem_of_getElem? (i := 902) (by decide +kernel)⟩
theorem lw_p38 : lw_okq (⟨"BlockLayoutModel", "findOptimal", "()I"⟩, 23) := ⟨⟨by decide +kernel, by decide +kernel⟩, List.mem_of_getElem? (i := 671) (by decide +kernel), List.mem_of_getElem? (i := 909) (by decide +kernel), List.mem_of_getElem? (i := 910) (by decide +kernel)⟩
theorem lw_p39 : lw_okq (⟨"BlockLayoutModel", "layOrder", "(II)V"⟩, 23) := ⟨⟨by decide +kernel, by decide +kernel⟩, List.mem_of_getElem? (i := 671) (by decide +kernel), List.mem_of_getElem? (i := 913) (by decide +kernel), List.mem_of_getElem? (i := 914) (by decide +kernel)⟩
theorem lw_p40 : lw_okq (⟨"BlockLayoutModel", "rangeError", "([III)I"⟩, 23) := ⟨⟨by decide +kernel, by decide +kernel⟩, List.mem_of_getElem? (i := 671) (by decide +kernel), List.mem_of_getElem? (i := 925) (by decide +kernel), List.mem_of_getElem? (i := 926) (by decide +kernel)⟩
theorem lw_p41 : lw_okq (⟨"BlockLayoutModel", "layRotated", "([IIII)V"⟩, 23) := ⟨⟨by decide +kernel, by decide +kernel⟩, List.mem_of_getElem? (i := 671) (by decide +kernel), List.mem_of_getElem? (i := 929) (by decide +kernel), List.mem_of_getElem? (i := 930) (by decide +kernel)⟩
theorem lw_p42 : lw_okq (⟨"BlockLayoutModel", "swapError", "(II)I"⟩, 23) := ⟨⟨by decide +kernel, by decide +kernel⟩, List.mem_of_getElem? (i := 671) (by decide +kernel), List.mem_of_getElem? (i := 937) (by decide +kernel), List.mem_of_getElem? (i := 938) (by decide +kernel)⟩
theorem lw_p43 : lw_okq (⟨"BlockLayoutModel", "splitIn", "([II)I"⟩, 23) := ⟨⟨by decide +kernel, by decide +kernel⟩, List.mem_of_getElem? (i := 671) (by decide +kernel), List.mem_of_getElem? (i := 956) (by decide +kernel), List.mem_of_getElem? (i := 957) (by decide +kernel)⟩
theorem lw_p44 : lw_okq (⟨"BlockLayoutModel", "bypassError", "([II)I"⟩, 23) := ⟨⟨by decide +kernel, by decide +kernel⟩, List.mem_of_getElem? (i := 671) (by decide +kernel), List.mem_of_getElem? (i := 964) (by decide +kernel), List.mem_of_getElem? (i := 965) (by decide +kernel)⟩
theorem lw_p45 : lw_okq (⟨"BlockLayoutModel", "bypassIn", "([II)I"⟩, 23) := ⟨⟨by decide +kernel, by decide +kernel⟩, List.mem_of_getElem? (i := 671) (by decide +kernel), List.mem_of_getElem? (i := 968) (by decide +kernel), List.mem_of_getElem? (i := 969) (by decide +kernel)⟩
theorem lw_p46 : lw_okq (⟨"BlockLayoutModel", "command", "(IIII)Z"⟩, 23) := ⟨⟨by decide +kernel, by decide +kernel⟩, List.mem_of_getElem? (i := 671) (by decide +kernel), List.mem_of_getElem? (i := 993) (by decide +kernel), List.mem_of_getElem? (i := 994) (by decide +kernel)⟩
def lw_privs_3 : List (MethodName × Nat) := [(⟨"BlockLayoutModel", "addressOf", "([II)I"⟩, 23), (⟨"BlockLayoutModel", "isLoopHead", "([II)Z"⟩, 23), (⟨"BlockLayoutModel", "branchBytesOf", "([II)I"⟩, 23), (⟨"BlockLayoutModel", "layChains", "()V"⟩, 23), (⟨"BlockLayoutModel", "note", "()V"⟩, 23), (⟨"BlockLayoutModel", "weightOf", "(I)I"⟩, 23), (⟨"BlockLayoutModel", "findOptimal", "()I"⟩, 23), (⟨"BlockLayoutModel", "layOrder", "(II)V"⟩, 23), (⟨"BlockLayoutModel", "rangeError", "([III)I"⟩, 23), (⟨"BlockLayoutModel", "layRotated", "([IIII)V"⟩, 23), (⟨"BlockLayoutModel", "swapError", "(II)I"⟩, 23), (⟨"BlockLayoutModel", "splitIn", "([II)I"⟩, 23), (⟨"BlockLayoutModel", "bypassError", "([II)I"⟩, 23), (⟨"BlockLayoutModel", "bypassIn", "([II)I"⟩, 23), (⟨"BlockLayoutModel", "command", "(IIII)Z"⟩, 23)]
theorem lw_r3 : ∀ q ∈ lw_privs_3, lw_okq q := List.forall_mem_cons.mpr ⟨lw_p32, List.forall_mem_cons.mpr ⟨lw_p33, List.forall_mem_cons.mpr ⟨lw_p34, List.forall_mem_cons.mpr ⟨lw_p35, List.forall_mem_cons.mpr ⟨lw_p36, List.forall_mem_cons.mpr ⟨lw_p37, List.forall_mem_cons.mpr ⟨lw_p38, List.forall_mem_cons.mpr ⟨lw_p39, List.forall_mem_cons.mpr ⟨lw_p40, List.forall_mem_cons.mpr ⟨lw_p41, List.forall_mem_cons.mpr ⟨lw_p42, List.forall_mem_cons.mpr ⟨lw_p43, List.forall_mem_cons.mpr ⟨lw_p44, List.forall_mem_cons.mpr ⟨lw_p45, List.forall_mem_cons.mpr ⟨lw_p46, fun _ h => absurd h List.not_mem_nil⟩⟩⟩⟩⟩⟩⟩⟩⟩⟩⟩⟩⟩⟩⟩
def lw_privs : List (MethodName × Nat) := lw_privs_1 ++ (lw_privs_2 ++ (lw_privs_3))
def lw_tbl : List Cond := k2_sels lw_privs ++ tables_1
theorem lw_privs_ok : ∀ q ∈ lw_privs, lw_okq q := by
  show ∀ q ∈ lw_privs_1 ++ (lw_privs_2 ++ (lw_privs_3)), lw_okq q
  exact List.forall_mem_append.mpr ⟨lw_r1, List.forall_mem_append.mpr ⟨lw_r2, lw_r3⟩⟩

-- names (printed by the task's own program)
def RX0 : String := "BlockLayout$Chains"
def TX0 : u_T := fun k => match k with
  | 0 => ("BlockLayout$Chains", "head", "[I", true)
  | 1 => ("BlockLayout$Chains", "next", "[I", true)
  | 2 => ("BlockLayout$Chains", "edges", "[I", true)
  | 3 => ("BlockLayout$Chains", "edgesHeld", "I", false)
  | _ => ("BlockLayout$Chains", "placedSet", "I", false)
def tyX0 : Nat → FieldType := fun k => match k with
  | 0 => .array .int
  | 1 => .array .int
  | 2 => .array .int
  | 3 => .int
  | _ => .int
theorem nmX0 : ∀ a, a < 5 → ∀ b, b < 5 → a ≠ b → (TX0 a).2.1 ≠ (TX0 b).2.1 := by decide +kernel
theorem tyX0_ok : ∀ k, k < 5 → parseFieldDescriptor (TX0 k).2.2.1 = some (tyX0 k) := by decide +kernel
abbrev cX0_init : ByteArray := prog_2_method_1_code
def yX0_init : MethodName := ⟨RX0, "<init>", "()V"⟩
abbrev cX0_merge : ByteArray := prog_2_method_2_code
def yX0_merge : MethodName := ⟨RX0, "merge", "(LBlockLayout$State;)V"⟩
abbrev cX0_sortEdges : ByteArray := prog_2_method_3_code
def yX0_sortEdges : MethodName := ⟨RX0, "sortEdges", "(LBlockLayout$State;)V"⟩
abbrev cX0_insertEdge : ByteArray := prog_2_method_4_code
def yX0_insertEdge : MethodName := ⟨RX0, "insertEdge", "(LBlockLayout$State;I)V"⟩
abbrev cX0_joinBehind : ByteArray := prog_2_method_5_code
def yX0_joinBehind : MethodName := ⟨RX0, "joinBehind", "(LBlockLayout$State;II)V"⟩
abbrev cX0_arrange : ByteArray := prog_2_method_6_code
def yX0_arrange : MethodName := ⟨RX0, "arrange", "(LBlockLayout$State;)V"⟩
abbrev cX0_placeChain : ByteArray := prog_2_method_7_code
def yX0_placeChain : MethodName := ⟨RX0, "placeChain", "(LBlockLayout$State;II)I"⟩
abbrev cX0_heaviestHead : ByteArray := prog_2_method_8_code
def yX0_heaviestHead : MethodName := ⟨RX0, "heaviestHead", "(LBlockLayout$State;)I"⟩
abbrev cX0_weightOf : ByteArray := prog_2_method_9_code
def yX0_weightOf : MethodName := ⟨RX0, "weightOf", "(LBlockLayout$State;I)I"⟩
abbrev cX0_isPlaced : ByteArray := prog_2_method_10_code
def yX0_isPlaced : MethodName := ⟨RX0, "isPlaced", "(I)Z"⟩
def RX1 : String := "BlockLayout$Frame"
def TX1 : u_T := fun k => match k with
  | 0 => ("BlockLayout$Frame", "blocks", "I", false)
  | 1 => ("BlockLayout$Frame", "entryCount", "I", false)
  | _ => ("BlockLayout$Frame", "bytes", "[I", true)
def tyX1 : Nat → FieldType := fun k => match k with
  | 0 => .int
  | 1 => .int
  | _ => .array .int
theorem nmX1 : ∀ a, a < 3 → ∀ b, b < 3 → a ≠ b → (TX1 a).2.1 ≠ (TX1 b).2.1 := by decide +kernel
theorem tyX1_ok : ∀ k, k < 3 → parseFieldDescriptor (TX1 k).2.2.1 = some (tyX1 k) := by decide +kernel
abbrev cX1_init : ByteArray := prog_3_method_1_code
def yX1_init : MethodName := ⟨RX1, "<init>", "()V"⟩
abbrev cX1_copyFrom : ByteArray := prog_3_method_2_code
def yX1_copyFrom : MethodName := ⟨RX1, "copyFrom", "(LBlockLayout$Frame;)V"⟩
abbrev cX1_hasBlock : ByteArray := prog_3_method_3_code
def yX1_hasBlock : MethodName := ⟨RX1, "hasBlock", "(I)Z"⟩
abbrev cX1_hasPosition : ByteArray := prog_3_method_4_code
def yX1_hasPosition : MethodName := ⟨RX1, "hasPosition", "(I)Z"⟩
def RX2 : String := "BlockLayout$History"
def TX2 : u_T := fun k => match k with
  | 0 => ("BlockLayout$History", "ring", "[LBlockLayout$State;", true)
  | 1 => ("BlockLayout$History", "oldest", "I", false)
  | _ => ("BlockLayout$History", "held", "I", false)
def tyX2 : Nat → FieldType := fun k => match k with
  | 0 => .array (.object "BlockLayout$State")
  | 1 => .int
  | _ => .int
theorem nmX2 : ∀ a, a < 3 → ∀ b, b < 3 → a ≠ b → (TX2 a).2.1 ≠ (TX2 b).2.1 := by decide +kernel
theorem tyX2_ok : ∀ k, k < 3 → parseFieldDescriptor (TX2 k).2.2.1 = some (tyX2 k) := by decide +kernel
abbrev cX2_init : ByteArray := prog_4_method_1_code
def yX2_init : MethodName := ⟨RX2, "<init>", "(LBlockLayout$Frame;)V"⟩
abbrev cX2_forget : ByteArray := prog_4_method_2_code
def yX2_forget : MethodName := ⟨RX2, "forget", "()V"⟩
abbrev cX2_remember : ByteArray := prog_4_method_3_code
def yX2_remember : MethodName := ⟨RX2, "remember", "(LBlockLayout$State;)V"⟩
abbrev cX2_takeBack : ByteArray := prog_4_method_4_code
def yX2_takeBack : MethodName := ⟨RX2, "takeBack", "(LBlockLayout$State;)I"⟩
def RX3 : String := "BlockLayout$OptimalOrder"
def TX3 : u_T := fun k => match k with
  | 0 => ("BlockLayout$OptimalOrder", "least", "[I", true)
  | 1 => ("BlockLayout$OptimalOrder", "shares", "[I", true)
  | _ => ("BlockLayout$OptimalOrder", "freeSet", "I", false)
def tyX3 : Nat → FieldType := fun k => match k with
  | 0 => .array .int
  | 1 => .array .int
  | _ => .int
theorem nmX3 : ∀ a, a < 3 → ∀ b, b < 3 → a ≠ b → (TX3 a).2.1 ≠ (TX3 b).2.1 := by decide +kernel
theorem tyX3_ok : ∀ k, k < 3 → parseFieldDescriptor (TX3 k).2.2.1 = some (tyX3 k) := by decide +kernel
abbrev cX3_init : ByteArray := prog_5_method_1_code
def yX3_init : MethodName := ⟨RX3, "<init>", "()V"⟩
abbrev cX3_leastCost : ByteArray := prog_5_method_2_code
def yX3_leastCost : MethodName := ⟨RX3, "leastCost", "(LBlockLayout$State;)I"⟩
abbrev cX3_coldCost : ByteArray := prog_5_method_3_code
def yX3_coldCost : MethodName := ⟨RX3, "coldCost", "(LBlockLayout$State;)I"⟩
abbrev cX3_arrange : ByteArray := prog_5_method_4_code
def yX3_arrange : MethodName := ⟨RX3, "arrange", "(LBlockLayout$State;)V"⟩
abbrev cX3_fillShares : ByteArray := prog_5_method_5_code
def yX3_fillShares : MethodName := ⟨RX3, "fillShares", "(LBlockLayout$State;)V"⟩
abbrev cX3_collectFreeBlocks : ByteArray := prog_5_method_6_code
def yX3_collectFreeBlocks : MethodName := ⟨RX3, "collectFreeBlocks", "(LBlockLayout$State;)V"⟩
abbrev cX3_fillSet : ByteArray := prog_5_method_7_code
def yX3_fillSet : MethodName := ⟨RX3, "fillSet", "(LBlockLayout$State;I)V"⟩
abbrev cX3_cheapestNext : ByteArray := prog_5_method_8_code
def yX3_cheapestNext : MethodName := ⟨RX3, "cheapestNext", "(LBlockLayout$State;II)I"⟩
abbrev cX3_costThrough : ByteArray := prog_5_method_9_code
def yX3_costThrough : MethodName := ⟨RX3, "costThrough", "(III)I"⟩
abbrev cX3_contains : ByteArray := prog_5_method_10_code
def yX3_contains : MethodName := ⟨RX3, "contains", "(II)Z"⟩
def RX4 : String := "BlockLayout$Placement"
def TX4 : u_T := fun k => match k with
  | _ => ("", "", "", false)
def tyX4 : Nat → FieldType := fun k => match k with
  | _ => .int
theorem nmX4 : ∀ a, a < 0 → ∀ b, b < 0 → a ≠ b → (TX4 a).2.1 ≠ (TX4 b).2.1 := by decide +kernel
theorem tyX4_ok : ∀ k, k < 0 → parseFieldDescriptor (TX4 k).2.2.1 = some (tyX4 k) := by decide +kernel
abbrev cX4_startOf : ByteArray := prog_6_method_2_code
def yX4_startOf : MethodName := ⟨RX4, "startOf", "(LBlockLayout$State;I)I"⟩
abbrev cX4_endOfCode : ByteArray := prog_6_method_3_code
def yX4_endOfCode : MethodName := ⟨RX4, "endOfCode", "(LBlockLayout$State;)I"⟩
abbrev cX4_startAt : ByteArray := prog_6_method_4_code
def yX4_startAt : MethodName := ⟨RX4, "startAt", "(LBlockLayout$State;II)I"⟩
abbrev cX4_bytesAt : ByteArray := prog_6_method_5_code
def yX4_bytesAt : MethodName := ⟨RX4, "bytesAt", "(LBlockLayout$State;I)I"⟩
abbrev cX4_isLoopHead : ByteArray := prog_6_method_6_code
def yX4_isLoopHead : MethodName := ⟨RX4, "isLoopHead", "(LBlockLayout$State;I)Z"⟩
abbrev cX4_roundUp : ByteArray := prog_6_method_7_code
def yX4_roundUp : MethodName := ⟨RX4, "roundUp", "(II)I"⟩
def RX5 : String := "BlockLayout$Script"
def TX5 : u_T := fun k => match k with
  | _ => ("", "", "", false)
def tyX5 : Nat → FieldType := fun k => match k with
  | _ => .int
theorem nmX5 : ∀ a, a < 0 → ∀ b, b < 0 → a ≠ b → (TX5 a).2.1 ≠ (TX5 b).2.1 := by decide +kernel
theorem tyX5_ok : ∀ k, k < 0 → parseFieldDescriptor (TX5 k).2.2.1 = some (tyX5 k) := by decide +kernel
abbrev cX5_isWellFormed : ByteArray := prog_7_method_2_code
def yX5_isWellFormed : MethodName := ⟨RX5, "isWellFormed", "(IJ)Z"⟩
abbrev cX5_firstFailure : ByteArray := prog_7_method_3_code
def yX5_firstFailure : MethodName := ⟨RX5, "firstFailure", "(LBlockLayout$State;IJ)I"⟩
abbrev cX5_withoutLowest : ByteArray := prog_7_method_4_code
def yX5_withoutLowest : MethodName := ⟨RX5, "withoutLowest", "(JI)J"⟩
abbrev cX5_succeeds : ByteArray := prog_7_method_5_code
def yX5_succeeds : MethodName := ⟨RX5, "succeeds", "(LBlockLayout$State;I)Z"⟩
abbrev cX5_exchanged : ByteArray := prog_7_method_6_code
def yX5_exchanged : MethodName := ⟨RX5, "exchanged", "(LBlockLayout$State;II)Z"⟩
abbrev cX5_turned : ByteArray := prog_7_method_7_code
def yX5_turned : MethodName := ⟨RX5, "turned", "(LBlockLayout$State;II)Z"⟩
abbrev cX5_divided : ByteArray := prog_7_method_8_code
def yX5_divided : MethodName := ⟨RX5, "divided", "(LBlockLayout$State;I)Z"⟩
abbrev cX5_wentAround : ByteArray := prog_7_method_9_code
def yX5_wentAround : MethodName := ⟨RX5, "wentAround", "(LBlockLayout$State;I)Z"⟩
abbrev cX5_isFollowedBy : ByteArray := prog_7_method_10_code
def yX5_isFollowedBy : MethodName := ⟨RX5, "isFollowedBy", "(LBlockLayout$State;II)Z"⟩
def RX6 : String := "BlockLayout$SetupText"
def TX6 : u_T := fun k => match k with
  | 0 => ("BlockLayout$SetupText", "draftFrame", "LBlockLayout$Frame;", true)
  | 1 => ("BlockLayout$SetupText", "draft", "LBlockLayout$State;", true)
  | 2 => ("BlockLayout$SetupText", "signs", "[I", true)
  | 3 => ("BlockLayout$SetupText", "length", "I", false)
  | _ => ("BlockLayout$SetupText", "at", "I", false)
def tyX6 : Nat → FieldType := fun k => match k with
  | 0 => .object "BlockLayout$Frame"
  | 1 => .object "BlockLayout$State"
  | 2 => .array .int
  | 3 => .int
  | _ => .int
theorem nmX6 : ∀ a, a < 5 → ∀ b, b < 5 → a ≠ b → (TX6 a).2.1 ≠ (TX6 b).2.1 := by decide +kernel
theorem tyX6_ok : ∀ k, k < 5 → parseFieldDescriptor (TX6 k).2.2.1 = some (tyX6 k) := by decide +kernel
abbrev cX6_init : ByteArray := prog_8_method_1_code
def yX6_init : MethodName := ⟨RX6, "<init>", "()V"⟩
abbrev cX6_addSign : ByteArray := prog_8_method_2_code
def yX6_addSign : MethodName := ⟨RX6, "addSign", "(I)I"⟩
abbrev cX6_dropSigns : ByteArray := prog_8_method_3_code
def yX6_dropSigns : MethodName := ⟨RX6, "dropSigns", "()I"⟩
abbrev cX6_read : ByteArray := prog_8_method_4_code
def yX6_read : MethodName := ⟨RX6, "read", "()I"⟩
abbrev cX6_readHead : ByteArray := prog_8_method_5_code
def yX6_readHead : MethodName := ⟨RX6, "readHead", "()Z"⟩
abbrev cX6_readBlocks : ByteArray := prog_8_method_6_code
def yX6_readBlocks : MethodName := ⟨RX6, "readBlocks", "()Z"⟩
abbrev cX6_readBlock : ByteArray := prog_8_method_7_code
def yX6_readBlock : MethodName := ⟨RX6, "readBlock", "(I)Z"⟩
abbrev cX6_readEdge : ByteArray := prog_8_method_8_code
def yX6_readEdge : MethodName := ⟨RX6, "readEdge", "(II)Z"⟩
abbrev cX6_readCount : ByteArray := prog_8_method_9_code
def yX6_readCount : MethodName := ⟨RX6, "readCount", "()I"⟩
abbrev cX6_readDigit : ByteArray := prog_8_method_10_code
def yX6_readDigit : MethodName := ⟨RX6, "readDigit", "(II)I"⟩
def RX7 : String := "BlockLayout$State"
def TX7 : u_T := fun k => match k with
  | 0 => ("BlockLayout$State", "frame", "LBlockLayout$Frame;", true)
  | 1 => ("BlockLayout$State", "exits", "[I", true)
  | 2 => ("BlockLayout$State", "targets", "[I", true)
  | 3 => ("BlockLayout$State", "counts", "[I", true)
  | 4 => ("BlockLayout$State", "order", "[I", true)
  | 5 => ("BlockLayout$State", "hot", "I", false)
  | _ => ("BlockLayout$State", "alignment", "I", false)
def tyX7 : Nat → FieldType := fun k => match k with
  | 0 => .object "BlockLayout$Frame"
  | 1 => .array .int
  | 2 => .array .int
  | 3 => .array .int
  | 4 => .array .int
  | 5 => .int
  | _ => .int
theorem nmX7 : ∀ a, a < 7 → ∀ b, b < 7 → a ≠ b → (TX7 a).2.1 ≠ (TX7 b).2.1 := by decide +kernel
theorem tyX7_ok : ∀ k, k < 7 → parseFieldDescriptor (TX7 k).2.2.1 = some (tyX7 k) := by decide +kernel
abbrev cX7_init : ByteArray := prog_9_method_1_code
def yX7_init : MethodName := ⟨RX7, "<init>", "(LBlockLayout$Frame;)V"⟩
abbrev cX7_copyFrom : ByteArray := prog_9_method_2_code
def yX7_copyFrom : MethodName := ⟨RX7, "copyFrom", "(LBlockLayout$State;)V"⟩
abbrev cX7_layOutByNumber : ByteArray := prog_9_method_3_code
def yX7_layOutByNumber : MethodName := ⟨RX7, "layOutByNumber", "()V"⟩
abbrev cX7_hasEdge : ByteArray := prog_9_method_4_code
def yX7_hasEdge : MethodName := ⟨RX7, "hasEdge", "(II)Z"⟩
abbrev cX7_target : ByteArray := prog_9_method_5_code
def yX7_target : MethodName := ⟨RX7, "target", "(II)I"⟩
abbrev cX7_count : ByteArray := prog_9_method_6_code
def yX7_count : MethodName := ⟨RX7, "count", "(II)I"⟩
abbrev cX7_putTarget : ByteArray := prog_9_method_7_code
def yX7_putTarget : MethodName := ⟨RX7, "putTarget", "(III)V"⟩
abbrev cX7_putCount : ByteArray := prog_9_method_8_code
def yX7_putCount : MethodName := ⟨RX7, "putCount", "(III)V"⟩
abbrev cX7_leadsTo : ByteArray := prog_9_method_9_code
def yX7_leadsTo : MethodName := ⟨RX7, "leadsTo", "(II)Z"⟩
abbrev cX7_runsOf : ByteArray := prog_9_method_10_code
def yX7_runsOf : MethodName := ⟨RX7, "runsOf", "(I)I"⟩
abbrev cX7_followerAt : ByteArray := prog_9_method_11_code
def yX7_followerAt : MethodName := ⟨RX7, "followerAt", "(I)I"⟩
abbrev cX7_followerOf : ByteArray := prog_9_method_12_code
def yX7_followerOf : MethodName := ⟨RX7, "followerOf", "(I)I"⟩
abbrev cX7_branchBytesBefore : ByteArray := prog_9_method_13_code
def yX7_branchBytesBefore : MethodName := ⟨RX7, "branchBytesBefore", "(II)I"⟩
abbrev cX7_passCost : ByteArray := prog_9_method_14_code
def yX7_passCost : MethodName := ⟨RX7, "passCost", "(III)I"⟩
abbrev cX7_shareOfCost : ByteArray := prog_9_method_15_code
def yX7_shareOfCost : MethodName := ⟨RX7, "shareOfCost", "(II)I"⟩
abbrev cX7_totalCost : ByteArray := prog_9_method_16_code
def yX7_totalCost : MethodName := ⟨RX7, "totalCost", "()I"⟩
abbrev cX7_refusalToExchange : ByteArray := prog_9_method_17_code
def yX7_refusalToExchange : MethodName := ⟨RX7, "refusalToExchange", "(II)I"⟩
abbrev cX7_exchange : ByteArray := prog_9_method_18_code
def yX7_exchange : MethodName := ⟨RX7, "exchange", "(II)V"⟩
abbrev cX7_refusalToTurn : ByteArray := prog_9_method_19_code
def yX7_refusalToTurn : MethodName := ⟨RX7, "refusalToTurn", "(II)I"⟩
abbrev cX7_turn : ByteArray := prog_9_method_20_code
def yX7_turn : MethodName := ⟨RX7, "turn", "(II)V"⟩
abbrev cX7_refusalToDivide : ByteArray := prog_9_method_21_code
def yX7_refusalToDivide : MethodName := ⟨RX7, "refusalToDivide", "(I)I"⟩
abbrev cX7_divide : ByteArray := prog_9_method_22_code
def yX7_divide : MethodName := ⟨RX7, "divide", "(I)V"⟩
abbrev cX7_refusalToGoAround : ByteArray := prog_9_method_23_code
def yX7_refusalToGoAround : MethodName := ⟨RX7, "refusalToGoAround", "(I)I"⟩
abbrev cX7_goAround : ByteArray := prog_9_method_24_code
def yX7_goAround : MethodName := ⟨RX7, "goAround", "(I)I"⟩
abbrev cX7_joinEqualEdges : ByteArray := prog_9_method_25_code
def yX7_joinEqualEdges : MethodName := ⟨RX7, "joinEqualEdges", "(I)V"⟩
def RX8 : String := "BlockLayout$Walk"
def TX8 : u_T := fun k => match k with
  | _ => ("", "", "", false)
def tyX8 : Nat → FieldType := fun k => match k with
  | _ => .int
theorem nmX8 : ∀ a, a < 0 → ∀ b, b < 0 → a ≠ b → (TX8 a).2.1 ≠ (TX8 b).2.1 := by decide +kernel
theorem tyX8_ok : ∀ k, k < 0 → parseFieldDescriptor (TX8 k).2.2.1 = some (tyX8 k) := by decide +kernel
abbrev cX8_costOf : ByteArray := prog_10_method_2_code
def yX8_costOf : MethodName := ⟨RX8, "costOf", "(LBlockLayout$State;JI)I"⟩
abbrev cX8_slotTaken : ByteArray := prog_10_method_3_code
def yX8_slotTaken : MethodName := ⟨RX8, "slotTaken", "(LBlockLayout$State;II)I"⟩
def RX9 : String := "BlockLayout"
def TX9 : u_T := fun k => match k with
  | 0 => ("BlockLayout", "frame", "LBlockLayout$Frame;", true)
  | 1 => ("BlockLayout", "present", "LBlockLayout$State;", true)
  | 2 => ("BlockLayout", "trial", "LBlockLayout$State;", true)
  | 3 => ("BlockLayout", "saved", "[LBlockLayout$State;", true)
  | 4 => ("BlockLayout", "isSaved", "[Z", true)
  | 5 => ("BlockLayout", "history", "LBlockLayout$History;", true)
  | 6 => ("BlockLayout", "text", "LBlockLayout$SetupText;", true)
  | 7 => ("BlockLayout", "chains", "LBlockLayout$Chains;", true)
  | _ => ("BlockLayout", "optimum", "LBlockLayout$OptimalOrder;", true)
def tyX9 : Nat → FieldType := fun k => match k with
  | 0 => .object "BlockLayout$Frame"
  | 1 => .object "BlockLayout$State"
  | 2 => .object "BlockLayout$State"
  | 3 => .array (.object "BlockLayout$State")
  | 4 => .array .boolean
  | 5 => .object "BlockLayout$History"
  | 6 => .object "BlockLayout$SetupText"
  | 7 => .object "BlockLayout$Chains"
  | _ => .object "BlockLayout$OptimalOrder"
theorem nmX9 : ∀ a, a < 9 → ∀ b, b < 9 → a ≠ b → (TX9 a).2.1 ≠ (TX9 b).2.1 := by decide +kernel
theorem tyX9_ok : ∀ k, k < 9 → parseFieldDescriptor (TX9 k).2.2.1 = some (tyX9 k) := by decide +kernel
abbrev cX9_init : ByteArray := prog_1_method_1_code
def yX9_init : MethodName := ⟨RX9, "<init>", "()V"⟩
abbrev cX9_append : ByteArray := prog_1_method_2_code
def yX9_append : MethodName := ⟨RX9, "append", "(I)I"⟩
abbrev cX9_clearText : ByteArray := prog_1_method_3_code
def yX9_clearText : MethodName := ⟨RX9, "clearText", "()I"⟩
abbrev cX9_errorPosition : ByteArray := prog_1_method_4_code
def yX9_errorPosition : MethodName := ⟨RX9, "errorPosition", "()I"⟩
abbrev cX9_load : ByteArray := prog_1_method_5_code
def yX9_load : MethodName := ⟨RX9, "load", "()I"⟩
abbrev cX9_blockCount : ByteArray := prog_1_method_6_code
def yX9_blockCount : MethodName := ⟨RX9, "blockCount", "()I"⟩
abbrev cX9_size : ByteArray := prog_1_method_7_code
def yX9_size : MethodName := ⟨RX9, "size", "(I)I"⟩
abbrev cX9_successor : ByteArray := prog_1_method_8_code
def yX9_successor : MethodName := ⟨RX9, "successor", "(II)I"⟩
abbrev cX9_edgeCount : ByteArray := prog_1_method_9_code
def yX9_edgeCount : MethodName := ⟨RX9, "edgeCount", "(II)I"⟩
abbrev cX9_executions : ByteArray := prog_1_method_10_code
def yX9_executions : MethodName := ⟨RX9, "executions", "(I)I"⟩
abbrev cX9_blockAt : ByteArray := prog_1_method_11_code
def yX9_blockAt : MethodName := ⟨RX9, "blockAt", "(I)I"⟩
abbrev cX9_hotCount : ByteArray := prog_1_method_12_code
def yX9_hotCount : MethodName := ⟨RX9, "hotCount", "()I"⟩
abbrev cX9_cost : ByteArray := prog_1_method_13_code
def yX9_cost : MethodName := ⟨RX9, "cost", "()I"⟩
abbrev cX9_codeSize : ByteArray := prog_1_method_14_code
def yX9_codeSize : MethodName := ⟨RX9, "codeSize", "()I"⟩
abbrev cX9_address : ByteArray := prog_1_method_15_code
def yX9_address : MethodName := ⟨RX9, "address", "(I)I"⟩
abbrev cX9_branchBytes : ByteArray := prog_1_method_16_code
def yX9_branchBytes : MethodName := ⟨RX9, "branchBytes", "(I)I"⟩
abbrev cX9_edgeCost : ByteArray := prog_1_method_17_code
def yX9_edgeCost : MethodName := ⟨RX9, "edgeCost", "(II)I"⟩
abbrev cX9_chainHead : ByteArray := prog_1_method_18_code
def yX9_chainHead : MethodName := ⟨RX9, "chainHead", "(I)I"⟩
abbrev cX9_optimalCost : ByteArray := prog_1_method_19_code
def yX9_optimalCost : MethodName := ⟨RX9, "optimalCost", "()I"⟩
abbrev cX9_bestRotation : ByteArray := prog_1_method_20_code
def yX9_bestRotation : MethodName := ⟨RX9, "bestRotation", "(II)I"⟩
abbrev cX9_orderByChains : ByteArray := prog_1_method_21_code
def yX9_orderByChains : MethodName := ⟨RX9, "orderByChains", "()I"⟩
abbrev cX9_orderOptimally : ByteArray := prog_1_method_22_code
def yX9_orderOptimally : MethodName := ⟨RX9, "orderOptimally", "()I"⟩
abbrev cX9_swap : ByteArray := prog_1_method_23_code
def yX9_swap : MethodName := ⟨RX9, "swap", "(II)I"⟩
abbrev cX9_rotate : ByteArray := prog_1_method_24_code
def yX9_rotate : MethodName := ⟨RX9, "rotate", "(II)I"⟩
abbrev cX9_split : ByteArray := prog_1_method_25_code
def yX9_split : MethodName := ⟨RX9, "split", "(I)I"⟩
abbrev cX9_bypass : ByteArray := prog_1_method_26_code
def yX9_bypass : MethodName := ⟨RX9, "bypass", "(I)I"⟩
abbrev cX9_setCount : ByteArray := prog_1_method_27_code
def yX9_setCount : MethodName := ⟨RX9, "setCount", "(III)I"⟩
abbrev cX9_setAlignment : ByteArray := prog_1_method_28_code
def yX9_setAlignment : MethodName := ⟨RX9, "setAlignment", "(I)I"⟩
abbrev cX9_undo : ByteArray := prog_1_method_29_code
def yX9_undo : MethodName := ⟨RX9, "undo", "()I"⟩
abbrev cX9_runScript : ByteArray := prog_1_method_30_code
def yX9_runScript : MethodName := ⟨RX9, "runScript", "(IJ)I"⟩
abbrev cX9_execute : ByteArray := prog_1_method_31_code
def yX9_execute : MethodName := ⟨RX9, "execute", "(JI)I"⟩
abbrev cX9_save : ByteArray := prog_1_method_32_code
def yX9_save : MethodName := ⟨RX9, "save", "(I)I"⟩
abbrev cX9_restore : ByteArray := prog_1_method_33_code
def yX9_restore : MethodName := ⟨RX9, "restore", "(I)I"⟩
def RX10 : String := "BlockLayoutModel"
def TX10 : u_T := fun k => match k with
  | 0 => ("BlockLayoutModel", "text", "[I", true)
  | 1 => ("BlockLayoutModel", "length", "I", false)
  | 2 => ("BlockLayoutModel", "blocks", "I", false)
  | 3 => ("BlockLayoutModel", "bytes", "[I", true)
  | 4 => ("BlockLayoutModel", "entry", "I", false)
  | 5 => ("BlockLayoutModel", "now", "[I", true)
  | 6 => ("BlockLayoutModel", "trial", "[I", true)
  | 7 => ("BlockLayoutModel", "best", "[I", true)
  | 8 => ("BlockLayoutModel", "diary", "[I", true)
  | 9 => ("BlockLayoutModel", "acts", "I", false)
  | 10 => ("BlockLayoutModel", "next", "I", false)
  | 11 => ("BlockLayoutModel", "kept", "[I", true)
  | 12 => ("BlockLayoutModel", "isKept", "[Z", true)
  | 13 => ("BlockLayoutModel", "place", "I", false)
  | 14 => ("BlockLayoutModel", "readBlocks", "I", false)
  | 15 => ("BlockLayoutModel", "readEntry", "I", false)
  | 16 => ("BlockLayoutModel", "readBytes", "[I", true)
  | 17 => ("BlockLayoutModel", "read", "[I", true)
  | 18 => ("BlockLayoutModel", "head", "[I", true)
  | 19 => ("BlockLayoutModel", "behind", "[I", true)
  | 20 => ("BlockLayoutModel", "isPlaced", "[Z", true)
  | 21 => ("BlockLayoutModel", "left", "[I", true)
  | _ => ("BlockLayoutModel", "codeEnd", "I", false)
def tyX10 : Nat → FieldType := fun k => match k with
  | 0 => .array .int
  | 1 => .int
  | 2 => .int
  | 3 => .array .int
  | 4 => .int
  | 5 => .array .int
  | 6 => .array .int
  | 7 => .array .int
  | 8 => .array .int
  | 9 => .int
  | 10 => .int
  | 11 => .array .int
  | 12 => .array .boolean
  | 13 => .int
  | 14 => .int
  | 15 => .int
  | 16 => .array .int
  | 17 => .array .int
  | 18 => .array .int
  | 19 => .array .int
  | 20 => .array .boolean
  | 21 => .array .int
  | _ => .int
theorem nmX10 : ∀ a, a < 23 → ∀ b, b < 23 → a ≠ b → (TX10 a).2.1 ≠ (TX10 b).2.1 := by decide +kernel
theorem tyX10_ok : ∀ k, k < 23 → parseFieldDescriptor (TX10 k).2.2.1 = some (tyX10 k) := by decide +kernel
abbrev cX10_init : ByteArray := prog_12_method_1_code
def yX10_init : MethodName := ⟨RX10, "<init>", "()V"⟩
abbrev cX10_copy : ByteArray := prog_12_method_3_code
def yX10_copy : MethodName := ⟨RX10, "copy", "([I[I)V"⟩
abbrev cX10_in : ByteArray := prog_12_method_4_code
def yX10_in : MethodName := ⟨RX10, "in", "(JJJ)Z"⟩
abbrev cX10_isBlock : ByteArray := prog_12_method_5_code
def yX10_isBlock : MethodName := ⟨RX10, "isBlock", "(I)Z"⟩
abbrev cX10_isEdge : ByteArray := prog_12_method_6_code
def yX10_isEdge : MethodName := ⟨RX10, "isEdge", "(II)Z"⟩
abbrev cX10_append : ByteArray := prog_12_method_7_code
def yX10_append : MethodName := ⟨RX10, "append", "(I)I"⟩
abbrev cX10_clearText : ByteArray := prog_12_method_8_code
def yX10_clearText : MethodName := ⟨RX10, "clearText", "()I"⟩
abbrev cX10_figure : ByteArray := prog_12_method_9_code
def yX10_figure : MethodName := ⟨RX10, "figure", "(II)I"⟩
abbrev cX10_twoFigures : ByteArray := prog_12_method_10_code
def yX10_twoFigures : MethodName := ⟨RX10, "twoFigures", "()I"⟩
abbrev cX10_readSuccessor : ByteArray := prog_12_method_11_code
def yX10_readSuccessor : MethodName := ⟨RX10, "readSuccessor", "(II)Z"⟩
abbrev cX10_readBlock : ByteArray := prog_12_method_12_code
def yX10_readBlock : MethodName := ⟨RX10, "readBlock", "(I)Z"⟩
abbrev cX10_readText : ByteArray := prog_12_method_13_code
def yX10_readText : MethodName := ⟨RX10, "readText", "()I"⟩
abbrev cX10_errorPosition : ByteArray := prog_12_method_14_code
def yX10_errorPosition : MethodName := ⟨RX10, "errorPosition", "()I"⟩
abbrev cX10_load : ByteArray := prog_12_method_15_code
def yX10_load : MethodName := ⟨RX10, "load", "()I"⟩
abbrev cX10_blockCount : ByteArray := prog_12_method_16_code
def yX10_blockCount : MethodName := ⟨RX10, "blockCount", "()I"⟩
abbrev cX10_size : ByteArray := prog_12_method_17_code
def yX10_size : MethodName := ⟨RX10, "size", "(I)I"⟩
abbrev cX10_successor : ByteArray := prog_12_method_18_code
def yX10_successor : MethodName := ⟨RX10, "successor", "(II)I"⟩
abbrev cX10_edgeCount : ByteArray := prog_12_method_19_code
def yX10_edgeCount : MethodName := ⟨RX10, "edgeCount", "(II)I"⟩
abbrev cX10_executionsOf : ByteArray := prog_12_method_20_code
def yX10_executionsOf : MethodName := ⟨RX10, "executionsOf", "([II)I"⟩
abbrev cX10_executions : ByteArray := prog_12_method_21_code
def yX10_executions : MethodName := ⟨RX10, "executions", "(I)I"⟩
abbrev cX10_positionOf : ByteArray := prog_12_method_22_code
def yX10_positionOf : MethodName := ⟨RX10, "positionOf", "([II)I"⟩
abbrev cX10_followerOf : ByteArray := prog_12_method_23_code
def yX10_followerOf : MethodName := ⟨RX10, "followerOf", "([II)I"⟩
abbrev cX10_edgeCostOf : ByteArray := prog_12_method_24_code
def yX10_edgeCostOf : MethodName := ⟨RX10, "edgeCostOf", "([III)I"⟩
abbrev cX10_branchBytesOf : ByteArray := prog_12_method_25_code
def yX10_branchBytesOf : MethodName := ⟨RX10, "branchBytesOf", "([II)I"⟩
abbrev cX10_costOf : ByteArray := prog_12_method_26_code
def yX10_costOf : MethodName := ⟨RX10, "costOf", "([I)I"⟩
abbrev cX10_isLoopHead : ByteArray := prog_12_method_27_code
def yX10_isLoopHead : MethodName := ⟨RX10, "isLoopHead", "([II)Z"⟩
abbrev cX10_up : ByteArray := prog_12_method_28_code
def yX10_up : MethodName := ⟨RX10, "up", "(II)I"⟩
abbrev cX10_addressOf : ByteArray := prog_12_method_29_code
def yX10_addressOf : MethodName := ⟨RX10, "addressOf", "([II)I"⟩
abbrev cX10_isPosition : ByteArray := prog_12_method_30_code
def yX10_isPosition : MethodName := ⟨RX10, "isPosition", "(I)Z"⟩
abbrev cX10_blockAt : ByteArray := prog_12_method_31_code
def yX10_blockAt : MethodName := ⟨RX10, "blockAt", "(I)I"⟩
abbrev cX10_hotCount : ByteArray := prog_12_method_32_code
def yX10_hotCount : MethodName := ⟨RX10, "hotCount", "()I"⟩
abbrev cX10_cost : ByteArray := prog_12_method_33_code
def yX10_cost : MethodName := ⟨RX10, "cost", "()I"⟩
abbrev cX10_codeSize : ByteArray := prog_12_method_34_code
def yX10_codeSize : MethodName := ⟨RX10, "codeSize", "()I"⟩
abbrev cX10_address : ByteArray := prog_12_method_35_code
def yX10_address : MethodName := ⟨RX10, "address", "(I)I"⟩
abbrev cX10_branchBytes : ByteArray := prog_12_method_36_code
def yX10_branchBytes : MethodName := ⟨RX10, "branchBytes", "(I)I"⟩
abbrev cX10_edgeCost : ByteArray := prog_12_method_37_code
def yX10_edgeCost : MethodName := ⟨RX10, "edgeCost", "(II)I"⟩
abbrev cX10_layChains : ByteArray := prog_12_method_38_code
def yX10_layChains : MethodName := ⟨RX10, "layChains", "()V"⟩
abbrev cX10_chainHead : ByteArray := prog_12_method_39_code
def yX10_chainHead : MethodName := ⟨RX10, "chainHead", "(I)I"⟩
abbrev cX10_weightOf : ByteArray := prog_12_method_40_code
def yX10_weightOf : MethodName := ⟨RX10, "weightOf", "(I)I"⟩
abbrev cX10_orderByChains : ByteArray := prog_12_method_41_code
def yX10_orderByChains : MethodName := ⟨RX10, "orderByChains", "()I"⟩
abbrev cX10_layOrder : ByteArray := prog_12_method_42_code
def yX10_layOrder : MethodName := ⟨RX10, "layOrder", "(II)V"⟩
abbrev cX10_findOptimal : ByteArray := prog_12_method_43_code
def yX10_findOptimal : MethodName := ⟨RX10, "findOptimal", "()I"⟩
abbrev cX10_optimalCost : ByteArray := prog_12_method_44_code
def yX10_optimalCost : MethodName := ⟨RX10, "optimalCost", "()I"⟩
abbrev cX10_orderOptimally : ByteArray := prog_12_method_45_code
def yX10_orderOptimally : MethodName := ⟨RX10, "orderOptimally", "()I"⟩
abbrev cX10_rangeError : ByteArray := prog_12_method_46_code
def yX10_rangeError : MethodName := ⟨RX10, "rangeError", "([III)I"⟩
abbrev cX10_layRotated : ByteArray := prog_12_method_47_code
def yX10_layRotated : MethodName := ⟨RX10, "layRotated", "([IIII)V"⟩
abbrev cX10_bestRotation : ByteArray := prog_12_method_48_code
def yX10_bestRotation : MethodName := ⟨RX10, "bestRotation", "(II)I"⟩
abbrev cX10_note : ByteArray := prog_12_method_49_code
def yX10_note : MethodName := ⟨RX10, "note", "()V"⟩
abbrev cX10_swapError : ByteArray := prog_12_method_50_code
def yX10_swapError : MethodName := ⟨RX10, "swapError", "(II)I"⟩
abbrev cX10_swapIn : ByteArray := prog_12_method_51_code
def yX10_swapIn : MethodName := ⟨RX10, "swapIn", "([III)V"⟩
abbrev cX10_swap : ByteArray := prog_12_method_52_code
def yX10_swap : MethodName := ⟨RX10, "swap", "(II)I"⟩
abbrev cX10_rotateIn : ByteArray := prog_12_method_53_code
def yX10_rotateIn : MethodName := ⟨RX10, "rotateIn", "([III)V"⟩
abbrev cX10_rotate : ByteArray := prog_12_method_54_code
def yX10_rotate : MethodName := ⟨RX10, "rotate", "(II)I"⟩
abbrev cX10_splitIn : ByteArray := prog_12_method_55_code
def yX10_splitIn : MethodName := ⟨RX10, "splitIn", "([II)I"⟩
abbrev cX10_split : ByteArray := prog_12_method_56_code
def yX10_split : MethodName := ⟨RX10, "split", "(I)I"⟩
abbrev cX10_bypassError : ByteArray := prog_12_method_57_code
def yX10_bypassError : MethodName := ⟨RX10, "bypassError", "([II)I"⟩
abbrev cX10_bypassIn : ByteArray := prog_12_method_58_code
def yX10_bypassIn : MethodName := ⟨RX10, "bypassIn", "([II)I"⟩
abbrev cX10_bypass : ByteArray := prog_12_method_59_code
def yX10_bypass : MethodName := ⟨RX10, "bypass", "(I)I"⟩
abbrev cX10_setCount : ByteArray := prog_12_method_60_code
def yX10_setCount : MethodName := ⟨RX10, "setCount", "(III)I"⟩
abbrev cX10_setAlignment : ByteArray := prog_12_method_61_code
def yX10_setAlignment : MethodName := ⟨RX10, "setAlignment", "(I)I"⟩
abbrev cX10_undo : ByteArray := prog_12_method_62_code
def yX10_undo : MethodName := ⟨RX10, "undo", "()I"⟩
abbrev cX10_command : ByteArray := prog_12_method_63_code
def yX10_command : MethodName := ⟨RX10, "command", "(IIII)Z"⟩
abbrev cX10_tenThousands : ByteArray := prog_12_method_64_code
def yX10_tenThousands : MethodName := ⟨RX10, "tenThousands", "(I)J"⟩
abbrev cX10_runScript : ByteArray := prog_12_method_65_code
def yX10_runScript : MethodName := ⟨RX10, "runScript", "(IJ)I"⟩
abbrev cX10_execute : ByteArray := prog_12_method_66_code
def yX10_execute : MethodName := ⟨RX10, "execute", "(JI)I"⟩
abbrev cX10_save : ByteArray := prog_12_method_67_code
def yX10_save : MethodName := ⟨RX10, "save", "(I)I"⟩
abbrev cX10_restore : ByteArray := prog_12_method_68_code
def yX10_restore : MethodName := ⟨RX10, "restore", "(I)I"⟩
def RJ6 : String := "java/lang/Integer"
def TJ6 : u_T := fun k => match k with
  | _ => ("", "", "", false)
def tyJ6 : Nat → FieldType := fun k => match k with
  | _ => .int
theorem nmJ6 : ∀ a, a < 0 → ∀ b, b < 0 → a ≠ b → (TJ6 a).2.1 ≠ (TJ6 b).2.1 := by decide +kernel
theorem tyJ6_ok : ∀ k, k < 0 → parseFieldDescriptor (TJ6 k).2.2.1 = some (tyJ6 k) := by decide +kernel
abbrev cJ6_bitCount_0f7a4 : ByteArray := prog_13_method_49_code
def yJ6_bitCount_0f7a4 : MethodName := ⟨RJ6, "bitCount", "(I)I"⟩
def RJ9 : String := "java/lang/Math"
def TJ9 : u_T := fun k => match k with
  | _ => ("", "", "", false)
def tyJ9 : Nat → FieldType := fun k => match k with
  | _ => .int
theorem nmJ9 : ∀ a, a < 0 → ∀ b, b < 0 → a ≠ b → (TJ9 a).2.1 ≠ (TJ9 b).2.1 := by decide +kernel
theorem tyJ9_ok : ∀ k, k < 0 → parseFieldDescriptor (TJ9 k).2.2.1 = some (tyJ9 k) := by decide +kernel
abbrev cJ9_min_7cf53 : ByteArray := prog_14_method_69_code
def yJ9_min_7cf53 : MethodName := ⟨RJ9, "min", "(II)I"⟩
def RJ10 : String := "java/lang/System"
def TJ10 : u_T := fun k => match k with
  | _ => ("", "", "", false)
def tyJ10 : Nat → FieldType := fun k => match k with
  | _ => .int
theorem nmJ10 : ∀ a, a < 0 → ∀ b, b < 0 → a ≠ b → (TJ10 a).2.1 ≠ (TJ10 b).2.1 := by decide +kernel
theorem tyJ10_ok : ∀ k, k < 0 → parseFieldDescriptor (TJ10 k).2.2.1 = some (tyJ10 k) := by decide +kernel
def RL : String := "BlockLayoutLaw"
abbrev cL_law : ByteArray := code
def yL_law : MethodName := ⟨RL, "law", "([I)Z"⟩
abbrev vwCl : List vw_C := [(RX0, TX0, 5), (RX1, TX1, 3), (RX2, TX2, 3), (RX3, TX3, 3), (RX6, TX6, 5), (RX7, TX7, 7), (RX9, TX9, 9), (RX10, TX10, 23)]
