section
-- ===== PART A: goes FIRST, ahead of the names: the tables' words, and 'selects' of the private methods out of them =====
/-- a private method of a class that the tables say can be made, by its rows of tables_1 -/
def lw_okq (q : MethodName × Nat) : Prop := (q.1.cls ≠ "java/lang/invoke/MethodHandle" ∧ q.1.cls ≠ "java/lang/invoke/VarHandle") ∧ Cond.instantiable q.1.cls q.2 ∈ tables_1 ∧ Cond.privateMethod q.1 ∈ tables_1 ∧ Cond.instanceMethod q.1 ∈ tables_1
theorem lw_p0 : lw_okq (⟨"BlockLayout$SetupText", "readHead", "()Z"⟩, 5) := ⟨⟨by decide +kernel, by decide +kernel⟩, List.mem_of_getElem? (i := 120) (by decide +kernel), List.mem_of_getElem? (i := 239) (by decide +kernel), List.mem_of_getElem? (i := 240) (by decide +kernel)⟩
theorem lw_p1 : lw_okq (⟨"BlockLayout$SetupText", "readDigit", "(II)I"⟩, 5) := ⟨⟨by decide +kernel, by decide +kernel⟩, List.mem_of_getElem? (i := 120) (by decide +kernel), List.mem_of_getElem? (i := 243) (by decide +kernel), List.mem_of_getElem? (i := 244) (by decide +kernel)⟩
theorem lw_p2 : lw_okq (⟨"BlockLayout$SetupText", "digitHere", "(II)I"⟩, 5) := ⟨⟨by decide +kernel, by decide +kernel⟩, List.mem_of_getElem? (i := 120) (by decide +kernel), List.mem_of_getElem? (i := 247) (by decide +kernel), List.mem_of_getElem? (i := 248) (by decide +kernel)⟩
theorem lw_p3 : lw_okq (⟨"BlockLayout$SetupText", "readCount", "()I"⟩, 5) := ⟨⟨by decide +kernel, by decide +kernel⟩, List.mem_of_getElem? (i := 120) (by decide +kernel), List.mem_of_getElem? (i := 251) (by decide +kernel), List.mem_of_getElem? (i := 252) (by decide +kernel)⟩
theorem lw_p4 : lw_okq (⟨"BlockLayout$SetupText", "readBlocks", "()Z"⟩, 5) := ⟨⟨by decide +kernel, by decide +kernel⟩, List.mem_of_getElem? (i := 120) (by decide +kernel), List.mem_of_getElem? (i := 259) (by decide +kernel), List.mem_of_getElem? (i := 260) (by decide +kernel)⟩
theorem lw_p5 : lw_okq (⟨"BlockLayout$SetupText", "readBlock", "(I)Z"⟩, 5) := ⟨⟨by decide +kernel, by decide +kernel⟩, List.mem_of_getElem? (i := 120) (by decide +kernel), List.mem_of_getElem? (i := 263) (by decide +kernel), List.mem_of_getElem? (i := 264) (by decide +kernel)⟩
theorem lw_p6 : lw_okq (⟨"BlockLayout$SetupText", "readEdge", "(II)Z"⟩, 5) := ⟨⟨by decide +kernel, by decide +kernel⟩, List.mem_of_getElem? (i := 120) (by decide +kernel), List.mem_of_getElem? (i := 270) (by decide +kernel), List.mem_of_getElem? (i := 271) (by decide +kernel)⟩
theorem lw_p7 : lw_okq (⟨"BlockLayout$Chains", "sortEdges", "(LBlockLayout$State;)V"⟩, 5) := ⟨⟨by decide +kernel, by decide +kernel⟩, List.mem_of_getElem? (i := 148) (by decide +kernel), List.mem_of_getElem? (i := 435) (by decide +kernel), List.mem_of_getElem? (i := 436) (by decide +kernel)⟩
theorem lw_p8 : lw_okq (⟨"BlockLayout$Chains", "insertEdge", "(LBlockLayout$State;I)V"⟩, 5) := ⟨⟨by decide +kernel, by decide +kernel⟩, List.mem_of_getElem? (i := 148) (by decide +kernel), List.mem_of_getElem? (i := 440) (by decide +kernel), List.mem_of_getElem? (i := 441) (by decide +kernel)⟩
theorem lw_p9 : lw_okq (⟨"BlockLayout$Chains", "joinBehind", "(LBlockLayout$State;II)V"⟩, 5) := ⟨⟨by decide +kernel, by decide +kernel⟩, List.mem_of_getElem? (i := 148) (by decide +kernel), List.mem_of_getElem? (i := 444) (by decide +kernel), List.mem_of_getElem? (i := 445) (by decide +kernel)⟩
theorem lw_p10 : lw_okq (⟨"BlockLayout$OptimalOrder", "fillShares", "(LBlockLayout$State;)V"⟩, 3) := ⟨⟨by decide +kernel, by decide +kernel⟩, List.mem_of_getElem? (i := 171) (by decide +kernel), List.mem_of_getElem? (i := 456) (by decide +kernel), List.mem_of_getElem? (i := 457) (by decide +kernel)⟩
theorem lw_p11 : lw_okq (⟨"BlockLayout$OptimalOrder", "collectFreeBlocks", "(LBlockLayout$State;)V"⟩, 3) := ⟨⟨by decide +kernel, by decide +kernel⟩, List.mem_of_getElem? (i := 171) (by decide +kernel), List.mem_of_getElem? (i := 461) (by decide +kernel), List.mem_of_getElem? (i := 462) (by decide +kernel)⟩
theorem lw_p12 : lw_okq (⟨"BlockLayout$OptimalOrder", "fillSet", "(LBlockLayout$State;I)V"⟩, 3) := ⟨⟨by decide +kernel, by decide +kernel⟩, List.mem_of_getElem? (i := 171) (by decide +kernel), List.mem_of_getElem? (i := 465) (by decide +kernel), List.mem_of_getElem? (i := 466) (by decide +kernel)⟩
theorem lw_p13 : lw_okq (⟨"BlockLayout$OptimalOrder", "cheapestNext", "(LBlockLayout$State;II)I"⟩, 3) := ⟨⟨by decide +kernel, by decide +kernel⟩, List.mem_of_getElem? (i := 171) (by decide +kernel), List.mem_of_getElem? (i := 472) (by decide +kernel), List.mem_of_getElem? (i := 473) (by decide +kernel)⟩
theorem lw_p14 : lw_okq (⟨"BlockLayout$OptimalOrder", "costThrough", "(III)I"⟩, 3) := ⟨⟨by decide +kernel, by decide +kernel⟩, List.mem_of_getElem? (i := 171) (by decide +kernel), List.mem_of_getElem? (i := 477) (by decide +kernel), List.mem_of_getElem? (i := 478) (by decide +kernel)⟩
theorem lw_p15 : lw_okq (⟨"BlockLayout$Chains", "placeChain", "(LBlockLayout$State;II)I"⟩, 5) := ⟨⟨by decide +kernel, by decide +kernel⟩, List.mem_of_getElem? (i := 148) (by decide +kernel), List.mem_of_getElem? (i := 511) (by decide +kernel), List.mem_of_getElem? (i := 512) (by decide +kernel)⟩
def lw_privs_1 : List (MethodName × Nat) := [(⟨"BlockLayout$SetupText", "readHead", "()Z"⟩, 5), (⟨"BlockLayout$SetupText", "readDigit", "(II)I"⟩, 5), (⟨"BlockLayout$SetupText", "digitHere", "(II)I"⟩, 5), (⟨"BlockLayout$SetupText", "readCount", "()I"⟩, 5), (⟨"BlockLayout$SetupText", "readBlocks", "()Z"⟩, 5), (⟨"BlockLayout$SetupText", "readBlock", "(I)Z"⟩, 5), (⟨"BlockLayout$SetupText", "readEdge", "(II)Z"⟩, 5), (⟨"BlockLayout$Chains", "sortEdges", "(LBlockLayout$State;)V"⟩, 5), (⟨"BlockLayout$Chains", "insertEdge", "(LBlockLayout$State;I)V"⟩, 5), (⟨"BlockLayout$Chains", "joinBehind", "(LBlockLayout$State;II)V"⟩, 5), (⟨"BlockLayout$OptimalOrder", "fillShares", "(LBlockLayout$State;)V"⟩, 3), (⟨"BlockLayout$OptimalOrder", "collectFreeBlocks", "(LBlockLayout$State;)V"⟩, 3), (⟨"BlockLayout$OptimalOrder", "fillSet", "(LBlockLayout$State;I)V"⟩, 3), (⟨"BlockLayout$OptimalOrder", "cheapestNext", "(LBlockLayout$State;II)I"⟩, 3), (⟨"BlockLayout$OptimalOrder", "costThrough", "(III)I"⟩, 3), (⟨"BlockLayout$Chains", "placeChain", "(LBlockLayout$State;II)I"⟩, 5)]
theorem lw_r1 : ∀ q ∈ lw_privs_1, lw_okq q := List.forall_mem_cons.mpr ⟨lw_p0, List.forall_mem_cons.mpr ⟨lw_p1, List.forall_mem_cons.mpr ⟨lw_p2, List.forall_mem_cons.mpr ⟨lw_p3, List.forall_mem_cons.mpr ⟨lw_p4, List.forall_mem_cons.mpr ⟨lw_p5, List.forall_mem_cons.mpr ⟨lw_p6, List.forall_mem_cons.mpr ⟨lw_p7, List.forall_mem_cons.mpr ⟨lw_p8, List.forall_mem_cons.mpr ⟨lw_p9, List.forall_mem_cons.mpr ⟨lw_p10, List.forall_mem_cons.mpr ⟨lw_p11, List.forall_mem_cons.mpr ⟨lw_p12, List.forall_mem_cons.mpr ⟨lw_p13, List.forall_mem_cons.mpr ⟨lw_p14, List.forall_mem_cons.mpr ⟨lw_p15, fun _ h => absurd h List.not_mem_nil⟩⟩⟩⟩⟩⟩⟩⟩⟩⟩⟩⟩⟩⟩⟩⟩
theorem lw_p16 : lw_okq (⟨"BlockLayout$Chains", "heaviestHead", "(LBlockLayout$State;)I"⟩, 5) := ⟨⟨by decide +kernel, by decide +kernel⟩, List.mem_of_getElem? (i := 148) (by decide +kernel), List.mem_of_getElem? (i := 515) (by decide +kernel), List.mem_of_getElem? (i := 516) (by decide +kernel)⟩
theorem lw_p17 : lw_okq (⟨"BlockLayout$Chains", "isPlaced", "(I)Z"⟩, 5) := ⟨⟨by decide +kernel, by decide +kernel⟩, List.mem_of_getElem? (i := 148) (by decide +kernel), List.mem_of_getElem? (i := 519) (by decide +kernel), List.mem_of_getElem? (i := 520) (by decide +kernel)⟩
theorem lw_p18 : lw_okq (⟨"BlockLayout$Chains", "weightOf", "(LBlockLayout$State;I)I"⟩, 5) := ⟨⟨by decide +kernel, by decide +kernel⟩, List.mem_of_getElem? (i := 148) (by decide +kernel), List.mem_of_getElem? (i := 523) (by decide +kernel), List.mem_of_getElem? (i := 524) (by decide +kernel)⟩
theorem lw_p19 : lw_okq (⟨"BlockLayout$State", "joinEqualEdges", "(I)V"⟩, 7) := ⟨⟨by decide +kernel, by decide +kernel⟩, List.mem_of_getElem? (i := 53) (by decide +kernel), List.mem_of_getElem? (i := 578) (by decide +kernel), List.mem_of_getElem? (i := 579) (by decide +kernel)⟩
theorem lw_p20 : lw_okq (⟨"BlockLayoutModel", "readText", "()I"⟩, 23) := ⟨⟨by decide +kernel, by decide +kernel⟩, List.mem_of_getElem? (i := 676) (by decide +kernel), List.mem_of_getElem? (i := 768) (by decide +kernel), List.mem_of_getElem? (i := 769) (by decide +kernel)⟩
theorem lw_p21 : lw_okq (⟨"BlockLayoutModel", "figure", "(II)I"⟩, 23) := ⟨⟨by decide +kernel, by decide +kernel⟩, List.mem_of_getElem? (i := 676) (by decide +kernel), List.mem_of_getElem? (i := 772) (by decide +kernel), List.mem_of_getElem? (i := 773) (by decide +kernel)⟩
theorem lw_p22 : lw_okq (⟨"BlockLayoutModel", "twoFigures", "()I"⟩, 23) := ⟨⟨by decide +kernel, by decide +kernel⟩, List.mem_of_getElem? (i := 676) (by decide +kernel), List.mem_of_getElem? (i := 776) (by decide +kernel), List.mem_of_getElem? (i := 777) (by decide +kernel)⟩
theorem lw_p23 : lw_okq (⟨"BlockLayoutModel", "readBlock", "(I)Z"⟩, 23) := ⟨⟨by decide +kernel, by decide +kernel⟩, List.mem_of_getElem? (i := 676) (by decide +kernel), List.mem_of_getElem? (i := 780) (by decide +kernel), List.mem_of_getElem? (i := 781) (by decide +kernel)⟩
theorem lw_p24 : lw_okq (⟨"BlockLayoutModel", "readSuccessor", "(II)Z"⟩, 23) := ⟨⟨by decide +kernel, by decide +kernel⟩, List.mem_of_getElem? (i := 676) (by decide +kernel), List.mem_of_getElem? (i := 784) (by decide +kernel), List.mem_of_getElem? (i := 785) (by decide +kernel)⟩
theorem lw_p25 : lw_okq (⟨"BlockLayoutModel", "isBlock", "(I)Z"⟩, 23) := ⟨⟨by decide +kernel, by decide +kernel⟩, List.mem_of_getElem? (i := 676) (by decide +kernel), List.mem_of_getElem? (i := 803) (by decide +kernel), List.mem_of_getElem? (i := 804) (by decide +kernel)⟩
theorem lw_p26 : lw_okq (⟨"BlockLayoutModel", "isEdge", "(II)Z"⟩, 23) := ⟨⟨by decide +kernel, by decide +kernel⟩, List.mem_of_getElem? (i := 676) (by decide +kernel), List.mem_of_getElem? (i := 811) (by decide +kernel), List.mem_of_getElem? (i := 812) (by decide +kernel)⟩
theorem lw_p27 : lw_okq (⟨"BlockLayoutModel", "executionsOf", "([II)I"⟩, 23) := ⟨⟨by decide +kernel, by decide +kernel⟩, List.mem_of_getElem? (i := 676) (by decide +kernel), List.mem_of_getElem? (i := 823) (by decide +kernel), List.mem_of_getElem? (i := 824) (by decide +kernel)⟩
theorem lw_p28 : lw_okq (⟨"BlockLayoutModel", "isPosition", "(I)Z"⟩, 23) := ⟨⟨by decide +kernel, by decide +kernel⟩, List.mem_of_getElem? (i := 676) (by decide +kernel), List.mem_of_getElem? (i := 831) (by decide +kernel), List.mem_of_getElem? (i := 832) (by decide +kernel)⟩
theorem lw_p29 : lw_okq (⟨"BlockLayoutModel", "costOf", "([I)I"⟩, 23) := ⟨⟨by decide +kernel, by decide +kernel⟩, List.mem_of_getElem? (i := 676) (by decide +kernel), List.mem_of_getElem? (i := 843) (by decide +kernel), List.mem_of_getElem? (i := 844) (by decide +kernel)⟩
theorem lw_p30 : lw_okq (⟨"BlockLayoutModel", "edgeCostOf", "([III)I"⟩, 23) := ⟨⟨by decide +kernel, by decide +kernel⟩, List.mem_of_getElem? (i := 676) (by decide +kernel), List.mem_of_getElem? (i := 847) (by decide +kernel), List.mem_of_getElem? (i := 848) (by decide +kernel)⟩
theorem lw_p31 : lw_okq (⟨"BlockLayoutModel", "followerOf", "([II)I"⟩, 23) := ⟨⟨by decide +kernel, by decide +kernel⟩, List.mem_of_getElem? (i := 676) (by decide +kernel), List.mem_of_getElem? (i := 851) (by decide +kernel), List.mem_of_getElem? (i := 852) (by decide +kernel)⟩
def lw_privs_2 : List (MethodName × Nat) := [(⟨"BlockLayout$Chains", "heaviestHead", "(LBlockLayout$State;)I"⟩, 5), (⟨"BlockLayout$Chains", "isPlaced", "(I)Z"⟩, 5), (⟨"BlockLayout$Chains", "weightOf", "(LBlockLayout$State;I)I"⟩, 5), (⟨"BlockLayout$State", "joinEqualEdges", "(I)V"⟩, 7), (⟨"BlockLayoutModel", "readText", "()I"⟩, 23), (⟨"BlockLayoutModel", "figure", "(II)I"⟩, 23), (⟨"BlockLayoutModel", "twoFigures", "()I"⟩, 23), (⟨"BlockLayoutModel", "readBlock", "(I)Z"⟩, 23), (⟨"BlockLayoutModel", "readSuccessor", "(II)Z"⟩, 23), (⟨"BlockLayoutModel", "isBlock", "(I)Z"⟩, 23), (⟨"BlockLayoutModel", "isEdge", "(II)Z"⟩, 23), (⟨"BlockLayoutModel", "executionsOf", "([II)I"⟩, 23), (⟨"BlockLayoutModel", "isPosition", "(I)Z"⟩, 23), (⟨"BlockLayoutModel", "costOf", "([I)I"⟩, 23), (⟨"BlockLayoutModel", "edgeCostOf", "([III)I"⟩, 23), (⟨"BlockLayoutModel", "followerOf", "([II)I"⟩, 23)]
theorem lw_r2 : ∀ q ∈ lw_privs_2, lw_okq q := List.forall_mem_cons.mpr ⟨lw_p16, List.forall_mem_cons.mpr ⟨lw_p17, List.forall_mem_cons.mpr ⟨lw_p18, List.forall_mem_cons.mpr ⟨lw_p19, List.forall_mem_cons.mpr ⟨lw_p20, List.forall_mem_cons.mpr ⟨lw_p21, List.forall_mem_cons.mpr ⟨lw_p22, List.forall_mem_cons.mpr ⟨lw_p23, List.forall_mem_cons.mpr ⟨lw_p24, List.forall_mem_cons.mpr ⟨lw_p25, List.forall_mem_cons.mpr ⟨lw_p26, List.forall_mem_cons.mpr ⟨lw_p27, List.forall_mem_cons.mpr ⟨lw_p28, List.forall_mem_cons.mpr ⟨lw_p29, List.forall_mem_cons.mpr ⟨lw_p30, List.forall_mem_cons.mpr ⟨lw_p31, fun _ h => absurd h List.not_mem_nil⟩⟩⟩⟩⟩⟩⟩⟩⟩⟩⟩⟩⟩⟩⟩⟩
theorem lw_p32 : lw_okq (⟨"BlockLayoutModel", "positionOf", "([II)I"⟩, 23) := ⟨⟨by decide +kernel, by decide +kernel⟩, List.mem_of_getElem? (i := 676) (by decide +kernel), List.mem_of_getElem? (i := 855) (by decide +kernel), List.mem_of_getElem? (i := 856) (by decide +kernel)⟩
theorem lw_p33 : lw_okq (⟨"BlockLayoutModel", "addressOf", "([II)I"⟩, 23) := ⟨⟨by decide +kernel, by decide +kernel⟩, List.mem_of_getElem? (i := 676) (by decide +kernel), List.mem_of_getElem? (i := 863) (by decide +kernel), List.mem_of_getElem? (i := 864) (by decide +kernel)⟩
theorem lw_p34 : lw_okq (⟨"BlockLayoutModel", "isLoopHead", "([II)Z"⟩, 23) := ⟨⟨by decide +kernel, by decide +kernel⟩, List.mem_of_getElem? (i := 676) (by decide +kernel), List.mem_of_getElem? (i := 867) (by decide +kernel), List.mem_of_getElem? (i := 868) (by decide +kernel)⟩
theorem lw_p35 : lw_okq (⟨"BlockLayoutModel", "branchBytesOf", "([II)I"⟩, 23) := ⟨⟨by decide +kernel, by decide +kernel⟩, List.mem_of_getElem? (i := 676) (by decide +kernel), List.mem_of_getElem? (i := 874) (by decide +kernel), List.mem_of_getElem? (i := 875) (by decide +kernel)⟩
theorem lw_p36 : lw_okq (⟨"BlockLayoutModel", "layChains", "()V"⟩, 23) := ⟨⟨by decide +kernel, by decide +kernel⟩, List.mem_of_getElem? (i := 676) (by decide +kernel), List.mem_of_getElem? (i := 894) (by decide +kernel), List.mem_of_getElem? (i := 895) (by decide +kernel)⟩
theorem lw_p37 : lw_okq (⟨"BlockLayoutModel", "note", "()V"⟩, 23) := ⟨⟨by decide +kernel, by decide +kernel⟩, List.mem_of_getElem? (i := 676) (by decide +kernel), List.mem_of_getElem? (i := 902) (by decide +kernel), List.mem_of_getElem? (i := 903) (by decide +kernel)⟩
theorem lw_p38 : lw_okq (⟨"BlockLayoutModel", "weightOf", "(I)I"⟩, 23) := ⟨⟨by decide +kernel, by decide +kernel⟩, List.mem_of_getElem? (i := 676) (by decide +kernel), List.mem_of_getElem? (i := 906) (by decide +kernel), List.mem_of_getElem? (i := 907) (by decide +kernel)⟩
theorem lw_p39 : lw_okq (⟨"BlockLayoutModel", "findOptimal", "()I"⟩, 23) := ⟨⟨by decide +kernel, by decide +kernel⟩, List.mem_of_getElem? (i := 676) (by decide +kernel), List.mem_of_getElem? (i := 914) (by decide +kernel), List.mem_of_getElem? (i := 915) (by decide +kernel)⟩
theorem lw_p40 : lw_okq (⟨"BlockLayoutModel", "layOrder", "(II)V"⟩, 23) := ⟨⟨by decide +kernel, by decide +kernel⟩, List.mem_of_getElem? (i := 676) (by decide +kernel), List.mem_of_getElem? (i := 918) (by decide +kernel), List.mem_of_getElem? (i := 919) (by decide +kernel)⟩
theorem lw_p41 : lw_okq (⟨"BlockLayoutModel", "rangeError", "([III)I"⟩, 23) := ⟨⟨by decide +kernel, by decide +kernel⟩, List.mem_of_getElem? (i := 676) (by decide +kernel), List.mem_of_getElem? (i := 930) (by decide +kernel), List.mem_of_getElem? (i := 931) (by decide +kernel)⟩
theorem lw_p42 : lw_okq (⟨"BlockLayoutModel", "layRotated", "([IIII)V"⟩, 23) := ⟨⟨by decide +kernel, by decide +kernel⟩, List.mem_of_getElem? (i := 676) (by decide +kernel), List.mem_of_getElem? (i := 934) (by decide +kernel), List.mem_of_getElem? (i := 935) (by decide +kernel)⟩
theorem lw_p43 : lw_okq (⟨"BlockLayoutModel", "swapError", "(II)I"⟩, 23) := ⟨⟨by decide +kernel, by decide +kernel⟩, List.mem_of_getElem? (i := 676) (by decide +kernel), List.mem_of_getElem? (i := 942) (by decide +kernel), List.mem_of_getElem? (i := 943) (by decide +kernel)⟩
theorem lw_p44 : lw_okq (⟨"BlockLayoutModel", "splitIn", "([II)I"⟩, 23) := ⟨⟨by decide +kernel, by decide +kernel⟩, List.mem_of_getElem? (i := 676) (by decide +kernel), List.mem_of_getElem? (i := 961) (by decide +kernel), List.mem_of_getElem? (i := 962) (by decide +kernel)⟩
theorem lw_p45 : lw_okq (⟨"BlockLayoutModel", "bypassError", "([II)I"⟩, 23) := ⟨⟨by decide +kernel, by decide +kernel⟩, List.mem_of_getElem? (i := 676) (by decide +kernel), List.mem_of_getElem? (i := 969) (by decide +kernel), List.mem_of_getElem? (i := 970) (by decide +kernel)⟩
theorem lw_p46 : lw_okq (⟨"BlockLayoutModel", "bypassIn", "([II)I"⟩, 23) := ⟨⟨by decide +kernel, by decide +kernel⟩, List.mem_of_getElem? (i := 676) (by decide +kernel), List.mem_of_getElem? (i := 973) (by decide +kernel), List.mem_of_getElem? (i := 974) (by decide +kernel)⟩
theorem lw_p47 : lw_okq (⟨"BlockLayoutModel", "command", "(IIII)Z"⟩, 23) := ⟨⟨by decide +kernel, by decide +kernel⟩, List.mem_of_getElem? (i := 676) (by decide +kernel), List.mem_of_getElem? (i := 998) (by decide +kernel), List.mem_of_getElem? (i := 999) (by decide +kernel)⟩
def lw_privs_3 : List (MethodName × Nat) := [(⟨"BlockLayoutModel", "positionOf", "([II)I"⟩, 23), (⟨"BlockLayoutModel", "addressOf", "([II)I"⟩, 23), (⟨"BlockLayoutModel", "isLoopHead", "([II)Z"⟩, 23), (⟨"BlockLayoutModel", "branchBytesOf", "([II)I"⟩, 23), (⟨"BlockLayoutModel", "layChains", "()V"⟩, 23), (⟨"BlockLayoutModel", "note", "()V"⟩, 23), (⟨"BlockLayoutModel", "weightOf", "(I)I"⟩, 23), (⟨"BlockLayoutModel", "findOptimal", "()I"⟩, 23), (⟨"BlockLayoutModel", "layOrder", "(II)V"⟩, 23), (⟨"BlockLayoutModel", "rangeError", "([III)I"⟩, 23), (⟨"BlockLayoutModel", "layRotated", "([IIII)V"⟩, 23), (⟨"BlockLayoutModel", "swapError", "(II)I"⟩, 23), (⟨"BlockLayoutModel", "splitIn", "([II)I"⟩, 23), (⟨"BlockLayoutModel", "bypassError", "([II)I"⟩, 23), (⟨"BlockLayoutModel", "bypassIn", "([II)I"⟩, 23), (⟨"BlockLayoutModel", "command", "(IIII)Z"⟩, 23)]
theorem lw_r3 : ∀ q ∈ lw_privs_3, lw_okq q := List.forall_mem_cons.mpr ⟨lw_p32, List.forall_mem_cons.mpr ⟨lw_p33, List.forall_mem_cons.mpr ⟨lw_p34, List.forall_mem_cons.mpr ⟨lw_p35, List.forall_mem_cons.mpr ⟨lw_p36, List.forall_mem_cons.mpr ⟨lw_p37, List.forall_mem_cons.mpr ⟨lw_p38, List.forall_mem_cons.mpr ⟨lw_p39, List.forall_mem_cons.mpr ⟨lw_p40, List.forall_mem_cons.mpr ⟨lw_p41, List.forall_mem_cons.mpr ⟨lw_p42, List.forall_mem_cons.mpr ⟨lw_p43, List.forall_mem_cons.mpr ⟨lw_p44, List.forall_mem_cons.mpr ⟨lw_p45, List.forall_mem_cons.mpr ⟨lw_p46, List.forall_mem_cons.mpr ⟨lw_p47, fun _ h => absurd h List.not_mem_nil⟩⟩⟩⟩⟩⟩⟩⟩⟩⟩⟩⟩⟩⟩⟩⟩
def lw_privs : List (MethodName × Nat) := lw_privs_1 ++ (lw_privs_2 ++ (lw_privs_3))
def lw_tbl : List Cond := k2_sels lw_privs ++ tables_1
theorem lw_privs_ok : ∀ q ∈ lw_privs, lw_okq q := by
  show ∀ q ∈ lw_privs_1 ++ (lw_privs_2 ++ (lw_privs_3)), lw_okq q
  exact List.forall_mem_append.mpr ⟨lw_r1, List.forall_mem_append.mpr ⟨lw_r2, lw_r3⟩⟩

-- names (printed by the task's own program)
def RX0 : String := "BlockLayout$Chains"
def TX0 : u_T := fun k => match k with
  | 0 => ("BlockLayout$Chains", "head", "[I", true)
  | 1 => ("BlockLayout$Chains", "next", "[I", true)
  | 2 => ("BlockLayout$Chains", "edges", "[I", true)
  | 3 => ("BlockLayout$Chains", "edgesHeld", "I", false)
  | _ => ("BlockLayout$Chains", "placedSet", "I", false)
def tyX0 : Nat → FieldType := fun k => match k with
  | 0 => .array .int
  | 1 => .array .int
  | 2 => .array .int
  | 3 => .int
  | _ => .int
theorem nmX0 : ∀ a, a < 5 → ∀ b, b < 5 → a ≠ b → (TX0 a).2.1 ≠ (TX0 b).2.1 := by decide +kernel
theorem tyX0_ok : ∀ k, k < 5 → parseFieldDescriptor (TX0 k).2.2.1 = some (tyX0 k) := by decide +kernel
abbrev cX0_init : ByteArray := prog_2_method_1_code
def yX0_init : MethodName := ⟨RX0, "<init>", "()V"⟩
abbrev cX0_merge : ByteArray := prog_2_method_2_code
def yX0_merge : MethodName := ⟨RX0, "merge", "(LBlockLayout$State;)V"⟩
abbrev cX0_sortEdges : ByteArray := prog_2_method_3_code
def yX0_sortEdges : MethodName := ⟨RX0, "sortEdges", "(LBlockLayout$State;)V"⟩
abbrev cX0_insertEdge : ByteArray := prog_2_method_4_code
def yX0_insertEdge : MethodName := ⟨RX0, "insertEdge", "(LBlockLayout$State;I)V"⟩
abbrev cX0_joinBehind : ByteArray := prog_2_method_5_code
def yX0_joinBehind : MethodName := ⟨RX0, "joinBehind", "(LBlockLayout$State;II)V"⟩
abbrev cX0_arrange : ByteArray := prog_2_method_6_code
def yX0_arrange : MethodName := ⟨RX0, "arrange", "(LBlockLayout$State;)V"⟩
abbrev cX0_placeChain : ByteArray := prog_2_method_7_code
def yX0_placeChain : MethodName := ⟨RX0, "placeChain", "(LBlockLayout$State;II)I"⟩
abbrev cX0_heaviestHead : ByteArray := prog_2_method_8_code
def yX0_heaviestHead : MethodName := ⟨RX0, "heaviestHead", "(LBlockLayout$State;)I"⟩
abbrev cX0_weightOf : ByteArray := prog_2_method_9_code
def yX0_weightOf : MethodName := ⟨RX0, "weightOf", "(LBlockLayout$State;I)I"⟩
abbrev cX0_isPlaced : ByteArray := prog_2_method_10_code
def yX0_isPlaced : MethodName := ⟨RX0, "isPlaced", "(I)Z"⟩
def RX1 : String := "BlockLayout$Frame"
def TX1 : u_T := fun k => match k with
  | 0 => ("BlockLayout$Frame", "blocks", "I", false)
  | 1 => ("BlockLayout$Frame", "entryCount", "I", false)
  | _ => ("BlockLayout$Frame", "bytes", "[I", true)
def tyX1 : Nat → FieldType := fun k => match k with
  | 0 => .int
  | 1 => .int
  | _ => .array .int
theorem nmX1 : ∀ a, a < 3 → ∀ b, b < 3 → a ≠ b → (TX1 a).2.1 ≠ (TX1 b).2.1 := by decide +kernel
theorem tyX1_ok : ∀ k, k < 3 → parseFieldDescriptor (TX1 k).2.2.1 = some (tyX1 k) := by decide +kernel
abbrev cX1_init : ByteArray := prog_3_method_1_code
def yX1_init : MethodName := ⟨RX1, "<init>", "()V"⟩
abbrev cX1_copyFrom : ByteArray := prog_3_method_2_code
def yX1_copyFrom : MethodName := ⟨RX1, "copyFrom", "(LBlockLayout$Frame;)V"⟩
abbrev cX1_hasBlock : ByteArray := prog_3_method_3_code
def yX1_hasBlock : MethodName := ⟨RX1, "hasBlock", "(I)Z"⟩
abbrev cX1_hasPosition : ByteArray := prog_3_method_4_code
def yX1_hasPosition : MethodName := ⟨RX1, "hasPosition", "(I)Z"⟩
def RX2 : String := "BlockLayout$History"
def TX2 : u_T := fun k => match k with
  | 0 => ("BlockLayout$History", "ring", "[LBlockLayout$State;", true)
  | 1 => ("BlockLayout$History", "oldest", "I", false)
  | _ => ("BlockLayout$History", "held", "I", false)
def tyX2 : Nat → FieldType := fun k => match k with
  | 0 => .array (.object "BlockLayout$State")
  | 1 => .int
  | _ => .int
theorem nmX2 : ∀ a, a < 3 → ∀ b, b < 3 → a ≠ b → (TX2 a).2.1 ≠ (TX2 b).2.1 := by decide +kernel
theorem tyX2_ok : ∀ k, k < 3 → parseFieldDescriptor (TX2 k).2.2.1 = some (tyX2 k) := by decide +kernel
abbrev cX2_init : ByteArray := prog_4_method_1_code
def yX2_init : MethodName := ⟨RX2, "<init>", "(LBlockLayout$Frame;)V"⟩
abbrev cX2_forget : ByteArray := prog_4_method_2_code
def yX2_forget : MethodName := ⟨RX2, "forget", "()V"⟩
abbrev cX2_remember : ByteArray := prog_4_method_3_code
def yX2_remember : MethodName := ⟨RX2, "remember", "(LBlockLayout$State;)V"⟩
abbrev cX2_takeBack : ByteArray := prog_4_method_4_code
def yX2_takeBack : MethodName := ⟨RX2, "takeBack", "(LBlockLayout$State;)I"⟩
def RX3 : String := "BlockLayout$OptimalOrder"
def TX3 : u_T := fun k => match k with
  | 0 => ("BlockLayout$OptimalOrder", "least", "[I", true)
  | 1 => ("BlockLayout$OptimalOrder", "shares", "[I", true)
  | _ => ("BlockLayout$OptimalOrder", "freeSet", "I", false)
def tyX3 : Nat → FieldType := fun k => match k with
  | 0 => .array .int
  | 1 => .array .int
  | _ => .int
theorem nmX3 : ∀ a, a < 3 → ∀ b, b < 3 → a ≠ b → (TX3 a).2.1 ≠ (TX3 b).2.1 := by decide +kernel
theorem tyX3_ok : ∀ k, k < 3 → parseFieldDescriptor (TX3 k).2.2.1 = some (tyX3 k) := by decide +kernel
abbrev cX3_init : ByteArray := prog_5_method_1_code
def yX3_init : MethodName := ⟨RX3, "<init>", "()V"⟩
abbrev cX3_leastCost : ByteArray := prog_5_method_2_code
def yX3_leastCost : MethodName := ⟨RX3, "leastCost", "(LBlockLayout$State;)I"⟩
abbrev cX3_coldCost : ByteArray := prog_5_method_3_code
def yX3_coldCost : MethodName := ⟨RX3, "coldCost", "(LBlockLayout$State;)I"⟩
abbrev cX3_arrange : ByteArray := prog_5_method_4_code
def yX3_arrange : MethodName := ⟨RX3, "arrange", "(LBlockLayout$State;)V"⟩
abbrev cX3_fillShares : ByteArray := prog_5_method_5_code
def yX3_fillShares : MethodName := ⟨RX3, "fillShares", "(LBlockLayout$State;)V"⟩
abbrev cX3_collectFreeBlocks : ByteArray := prog_5_method_6_code
def yX3_collectFreeBlocks : MethodName := ⟨RX3, "collectFreeBlocks", "(LBlockLayout$State;)V"⟩
abbrev cX3_fillSet : ByteArray := prog_5_method_7_code
def yX3_fillSet : MethodName := ⟨RX3, "fillSet", "(LBlockLayout$State;I)V"⟩
abbrev cX3_cheapestNext : ByteArray := prog_5_method_8_code
def yX3_cheapestNext : MethodName := ⟨RX3, "cheapestNext", "(LBlockLayout$State;II)I"⟩
abbrev cX3_costThrough : ByteArray := prog_5_method_9_code
def yX3_costThrough : MethodName := ⟨RX3, "costThrough", "(III)I"⟩
abbrev cX3_contains : ByteArray := prog_5_method_10_code
def yX3_contains : MethodName := ⟨RX3, "contains", "(II)Z"⟩
def RX4 : String := "BlockLayout$Placement"
def TX4 : u_T := fun k => match k with
  | _ => ("", "", "", false)
def tyX4 : Nat → FieldType := fun k => match k with
  | _ => .int
theorem nmX4 : ∀ a, a < 0 → ∀ b, b < 0 → a ≠ b → (TX4 a).2.1 ≠ (TX4 b).2.1 := by decide +kernel
theorem tyX4_ok : ∀ k, k < 0 → parseFieldDescriptor (TX4 k).2.2.1 = some (tyX4 k) := by decide +kernel
abbrev cX4_startOf : ByteArray := prog_6_method_2_code
def yX4_startOf : MethodName := ⟨RX4, "startOf", "(LBlockLayout$State;I)I"⟩
abbrev cX4_endOfCode : ByteArray := prog_6_method_3_code
def yX4_endOfCode : MethodName := ⟨RX4, "endOfCode", "(LBlockLayout$State;)I"⟩
abbrev cX4_startAt : ByteArray := prog_6_method_4_code
def yX4_startAt : MethodName := ⟨RX4, "startAt", "(LBlockLayout$State;II)I"⟩
abbrev cX4_bytesAt : ByteArray := prog_6_method_5_code
def yX4_bytesAt : MethodName := ⟨RX4, "bytesAt", "(LBlockLayout$State;I)I"⟩
abbrev cX4_isLoopHead : ByteArray := prog_6_method_6_code
def yX4_isLoopHead : MethodName := ⟨RX4, "isLoopHead", "(LBlockLayout$State;I)Z"⟩
abbrev cX4_roundUp : ByteArray := prog_6_method_7_code
def yX4_roundUp : MethodName := ⟨RX4, "roundUp", "(II)I"⟩
def RX5 : String := "BlockLayout$Script"
def TX5 : u_T := fun k => match k with
  | _ => ("", "", "", false)
def tyX5 : Nat → FieldType := fun k => match k with
  | _ => .int
theorem nmX5 : ∀ a, a < 0 → ∀ b, b < 0 → a ≠ b → (TX5 a).2.1 ≠ (TX5 b).2.1 := by decide +kernel
theorem tyX5_ok : ∀ k, k < 0 → parseFieldDescriptor (TX5 k).2.2.1 = some (tyX5 k) := by decide +kernel
abbrev cX5_isWellFormed : ByteArray := prog_7_method_2_code
def yX5_isWellFormed : MethodName := ⟨RX5, "isWellFormed", "(IJ)Z"⟩
abbrev cX5_firstFailure : ByteArray := prog_7_method_3_code
def yX5_firstFailure : MethodName := ⟨RX5, "firstFailure", "(LBlockLayout$State;IJ)I"⟩
abbrev cX5_withoutLowest : ByteArray := prog_7_method_4_code
def yX5_withoutLowest : MethodName := ⟨RX5, "withoutLowest", "(JI)J"⟩
abbrev cX5_succeeds : ByteArray := prog_7_method_5_code
def yX5_succeeds : MethodName := ⟨RX5, "succeeds", "(LBlockLayout$State;I)Z"⟩
abbrev cX5_exchanged : ByteArray := prog_7_method_6_code
def yX5_exchanged : MethodName := ⟨RX5, "exchanged", "(LBlockLayout$State;II)Z"⟩
abbrev cX5_turned : ByteArray := prog_7_method_7_code
def yX5_turned : MethodName := ⟨RX5, "turned", "(LBlockLayout$State;II)Z"⟩
abbrev cX5_divided : ByteArray := prog_7_method_8_code
def yX5_divided : MethodName := ⟨RX5, "divided", "(LBlockLayout$State;I)Z"⟩
abbrev cX5_wentAround : ByteArray := prog_7_method_9_code
def yX5_wentAround : MethodName := ⟨RX5, "wentAround", "(LBlockLayout$State;I)Z"⟩
abbrev cX5_isFollowedBy : ByteArray := prog_7_method_10_code
def yX5_isFollowedBy : MethodName := ⟨RX5, "isFollowedBy", "(LBlockLayout$State;II)Z"⟩
def RX6 : String := "BlockLayout$SetupText"
def TX6 : u_T := fun k => match k with
  | 0 => ("BlockLayout$SetupText", "draftFrame", "LBlockLayout$Frame;", true)
  | 1 => ("BlockLayout$SetupText", "draft", "LBlockLayout$State;", true)
  | 2 => ("BlockLayout$SetupText", "signs", "[I", true)
  | 3 => ("BlockLayout$SetupText", "length", "I", false)
  | _ => ("BlockLayout$SetupText", "at", "I", false)
def tyX6 : Nat → FieldType := fun k => match k with
  | 0 => .object "BlockLayout$Frame"
  | 1 => .object "BlockLayout$State"
  | 2 => .array .int
  | 3 => .int
  | _ => .int
theorem nmX6 : ∀ a, a < 5 → ∀ b, b < 5 → a ≠ b → (TX6 a).2.1 ≠ (TX6 b).2.1 := by decide +kernel
theorem tyX6_ok : ∀ k, k < 5 → parseFieldDescriptor (TX6 k).2.2.1 = some (tyX6 k) := by decide +kernel
abbrev cX6_init : ByteArray := prog_8_method_1_code
def yX6_init : MethodName := ⟨RX6, "<init>", "()V"⟩
abbrev cX6_addSign : ByteArray := prog_8_method_2_code
def yX6_addSign : MethodName := ⟨RX6, "addSign", "(I)I"⟩
abbrev cX6_dropSigns : ByteArray := prog_8_method_3_code
def yX6_dropSigns : MethodName := ⟨RX6, "dropSigns", "()I"⟩
abbrev cX6_read : ByteArray := prog_8_method_4_code
def yX6_read : MethodName := ⟨RX6, "read", "()I"⟩
abbrev cX6_readHead : ByteArray := prog_8_method_5_code
def yX6_readHead : MethodName := ⟨RX6, "readHead", "()Z"⟩
abbrev cX6_readBlocks : ByteArray := prog_8_method_6_code
def yX6_readBlocks : MethodName := ⟨RX6, "readBlocks", "()Z"⟩
abbrev cX6_readBlock : ByteArray := prog_8_method_7_code
def yX6_readBlock : MethodName := ⟨RX6, "readBlock", "(I)Z"⟩
abbrev cX6_readEdge : ByteArray := prog_8_method_8_code
def yX6_readEdge : MethodName := ⟨RX6, "readEdge", "(II)Z"⟩
abbrev cX6_readCount : ByteArray := prog_8_method_9_code
def yX6_readCount : MethodName := ⟨RX6, "readCount", "()I"⟩
abbrev cX6_readDigit : ByteArray := prog_8_method_10_code
def yX6_readDigit : MethodName := ⟨RX6, "readDigit", "(II)I"⟩
abbrev cX6_digitHere : ByteArray := prog_8_method_11_code
def yX6_digitHere : MethodName := ⟨RX6, "digitHere", "(II)I"⟩
def RX7 : String := "BlockLayout$State"
def TX7 : u_T := fun k => match k with
  | 0 => ("BlockLayout$State", "frame", "LBlockLayout$Frame;", true)
  | 1 => ("BlockLayout$State", "exits", "[I", true)
  | 2 => ("BlockLayout$State", "targets", "[I", true)
  | 3 => ("BlockLayout$State", "counts", "[I", true)
  | 4 => ("BlockLayout$State", "order", "[I", true)
  | 5 => ("BlockLayout$State", "hot", "I", false)
  | _ => ("BlockLayout$State", "alignment", "I", false)
def tyX7 : Nat → FieldType := fun k => match k with
  | 0 => .object "BlockLayout$Frame"
  | 1 => .array .int
  | 2 => .array .int
  | 3 => .array .int
  | 4 => .array .int
  | 5 => .int
  | _ => .int
theorem nmX7 : ∀ a, a < 7 → ∀ b, b < 7 → a ≠ b → (TX7 a).2.1 ≠ (TX7 b).2.1 := by decide +kernel
theorem tyX7_ok : ∀ k, k < 7 → parseFieldDescriptor (TX7 k).2.2.1 = some (tyX7 k) := by decide +kernel
abbrev cX7_init : ByteArray := prog_9_method_1_code
def yX7_init : MethodName := ⟨RX7, "<init>", "(LBlockLayout$Frame;)V"⟩
abbrev cX7_copyFrom : ByteArray := prog_9_method_2_code
def yX7_copyFrom : MethodName := ⟨RX7, "copyFrom", "(LBlockLayout$State;)V"⟩
abbrev cX7_layOutByNumber : ByteArray := prog_9_method_3_code
def yX7_layOutByNumber : MethodName := ⟨RX7, "layOutByNumber", "()V"⟩
abbrev cX7_hasEdge : ByteArray := prog_9_method_4_code
def yX7_hasEdge : MethodName := ⟨RX7, "hasEdge", "(II)Z"⟩
abbrev cX7_target : ByteArray := prog_9_method_5_code
def yX7_target : MethodName := ⟨RX7, "target", "(II)I"⟩
abbrev cX7_count : ByteArray := prog_9_method_6_code
def yX7_count : MethodName := ⟨RX7, "count", "(II)I"⟩
abbrev cX7_putTarget : ByteArray := prog_9_method_7_code
def yX7_putTarget : MethodName := ⟨RX7, "putTarget", "(III)V"⟩
abbrev cX7_putCount : ByteArray := prog_9_method_8_code
def yX7_putCount : MethodName := ⟨RX7, "putCount", "(III)V"⟩
abbrev cX7_leadsTo : ByteArray := prog_9_method_9_code
def yX7_leadsTo : MethodName := ⟨RX7, "leadsTo", "(II)Z"⟩
abbrev cX7_runsOf : ByteArray := prog_9_method_10_code
def yX7_runsOf : MethodName := ⟨RX7, "runsOf", "(I)I"⟩
abbrev cX7_followerAt : ByteArray := prog_9_method_11_code
def yX7_followerAt : MethodName := ⟨RX7, "followerAt", "(I)I"⟩
abbrev cX7_followerOf : ByteArray := prog_9_method_12_code
def yX7_followerOf : MethodName := ⟨RX7, "followerOf", "(I)I"⟩
abbrev cX7_branchBytesBefore : ByteArray := prog_9_method_13_code
def yX7_branchBytesBefore : MethodName := ⟨RX7, "branchBytesBefore", "(II)I"⟩
abbrev cX7_passCost : ByteArray := prog_9_method_14_code
def yX7_passCost : MethodName := ⟨RX7, "passCost", "(III)I"⟩
abbrev cX7_shareOfCost : ByteArray := prog_9_method_15_code
def yX7_shareOfCost : MethodName := ⟨RX7, "shareOfCost", "(II)I"⟩
abbrev cX7_totalCost : ByteArray := prog_9_method_16_code
def yX7_totalCost : MethodName := ⟨RX7, "totalCost", "()I"⟩
abbrev cX7_refusalToExchange : ByteArray := prog_9_method_17_code
def yX7_refusalToExchange : MethodName := ⟨RX7, "refusalToExchange", "(II)I"⟩
abbrev cX7_exchange : ByteArray := prog_9_method_18_code
def yX7_exchange : MethodName := ⟨RX7, "exchange", "(II)V"⟩
abbrev cX7_refusalToTurn : ByteArray := prog_9_method_19_code
def yX7_refusalToTurn : MethodName := ⟨RX7, "refusalToTurn", "(II)I"⟩
abbrev cX7_turn : ByteArray := prog_9_method_20_code
def yX7_turn : MethodName := ⟨RX7, "turn", "(II)V"⟩
abbrev cX7_refusalToDivide : ByteArray := prog_9_method_21_code
def yX7_refusalToDivide : MethodName := ⟨RX7, "refusalToDivide", "(I)I"⟩
abbrev cX7_divide : ByteArray := prog_9_method_22_code
def yX7_divide : MethodName := ⟨RX7, "divide", "(I)V"⟩
abbrev cX7_refusalToGoAround : ByteArray := prog_9_method_23_code
def yX7_refusalToGoAround : MethodName := ⟨RX7, "refusalToGoAround", "(I)I"⟩
abbrev cX7_goAround : ByteArray := prog_9_method_24_code
def yX7_goAround : MethodName := ⟨RX7, "goAround", "(I)I"⟩
abbrev cX7_joinEqualEdges : ByteArray := prog_9_method_25_code
def yX7_joinEqualEdges : MethodName := ⟨RX7, "joinEqualEdges", "(I)V"⟩
def RX8 : String := "BlockLayout$Walk"
def TX8 : u_T := fun k => match k with
  | _ => ("", "", "", false)
def tyX8 : Nat → FieldType := fun k => match k with
  | _ => .int
theorem nmX8 : ∀ a, a < 0 → ∀ b, b < 0 → a ≠ b → (TX8 a).2.1 ≠ (TX8 b).2.1 := by decide +kernel
theorem tyX8_ok : ∀ k, k < 0 → parseFieldDescriptor (TX8 k).2.2.1 = some (tyX8 k) := by decide +kernel
abbrev cX8_costOf : ByteArray := prog_10_method_2_code
def yX8_costOf : MethodName := ⟨RX8, "costOf", "(LBlockLayout$State;JI)I"⟩
abbrev cX8_slotTaken : ByteArray := prog_10_method_3_code
def yX8_slotTaken : MethodName := ⟨RX8, "slotTaken", "(LBlockLayout$State;II)I"⟩
def RX9 : String := "BlockLayout"
def TX9 : u_T := fun k => match k with
  | 0 => ("BlockLayout", "frame", "LBlockLayout$Frame;", true)
  | 1 => ("BlockLayout", "present", "LBlockLayout$State;", true)
  | 2 => ("BlockLayout", "trial", "LBlockLayout$State;", true)
  | 3 => ("BlockLayout", "saved", "[LBlockLayout$State;", true)
  | 4 => ("BlockLayout", "isSaved", "[Z", true)
  | 5 => ("BlockLayout", "history", "LBlockLayout$History;", true)
  | 6 => ("BlockLayout", "text", "LBlockLayout$SetupText;", true)
  | 7 => ("BlockLayout", "chains", "LBlockLayout$Chains;", true)
  | _ => ("BlockLayout", "optimum", "LBlockLayout$OptimalOrder;", true)
def tyX9 : Nat → FieldType := fun k => match k with
  | 0 => .object "BlockLayout$Frame"
  | 1 => .object "BlockLayout$State"
  | 2 => .object "BlockLayout$State"
  | 3 => .array (.object "BlockLayout$State")
  | 4 => .array .boolean
  | 5 => .object "BlockLayout$History"
  | 6 => .object "BlockLayout$SetupText"
  | 7 => .object "BlockLayout$Chains"
  | _ => .object "BlockLayout$OptimalOrder"
theorem nmX9 : ∀ a, a < 9 → ∀ b, b < 9 → a ≠ b → (TX9 a).2.1 ≠ (TX9 b).2.1 := by decide +kernel
theorem tyX9_ok : ∀ k, k < 9 → parseFieldDescriptor (TX9 k).2.2.1 = some (tyX9 k) := by decide +kernel
abbrev cX9_init : ByteArray := prog_1_method_1_code
def yX9_init : MethodName := ⟨RX9, "<init>", "()V"⟩
abbrev cX9_append : ByteArray := prog_1_method_2_code
def yX9_append : MethodName := ⟨RX9, "append", "(I)I"⟩
abbrev cX9_clearText : ByteArray := prog_1_method_3_code
def yX9_clearText : MethodName := ⟨RX9, "clearText", "()I"⟩
abbrev cX9_errorPosition : ByteArray := prog_1_method_4_code
def yX9_errorPosition : MethodName := ⟨RX9, "errorPosition", "()I"⟩
abbrev cX9_load : ByteArray := prog_1_method_5_code
def yX9_load : MethodName := ⟨RX9, "load", "()I"⟩
abbrev cX9_blockCount : ByteArray := prog_1_method_6_code
def yX9_blockCount : MethodName := ⟨RX9, "blockCount", "()I"⟩
abbrev cX9_size : ByteArray := prog_1_method_7_code
def yX9_size : MethodName := ⟨RX9, "size", "(I)I"⟩
abbrev cX9_successor : ByteArray := prog_1_method_8_code
def yX9_successor : MethodName := ⟨RX9, "successor", "(II)I"⟩
abbrev cX9_edgeCount : ByteArray := prog_1_method_9_code
def yX9_edgeCount : MethodName := ⟨RX9, "edgeCount", "(II)I"⟩
abbrev cX9_executions : ByteArray := prog_1_method_10_code
def yX9_executions : MethodName := ⟨RX9, "executions", "(I)I"⟩
abbrev cX9_blockAt : ByteArray := prog_1_method_11_code
def yX9_blockAt : MethodName := ⟨RX9, "blockAt", "(I)I"⟩
abbrev cX9_hotCount : ByteArray := prog_1_method_12_code
def yX9_hotCount : MethodName := ⟨RX9, "hotCount", "()I"⟩
abbrev cX9_cost : ByteArray := prog_1_method_13_code
def yX9_cost : MethodName := ⟨RX9, "cost", "()I"⟩
abbrev cX9_codeSize : ByteArray := prog_1_method_14_code
def yX9_codeSize : MethodName := ⟨RX9, "codeSize", "()I"⟩
abbrev cX9_address : ByteArray := prog_1_method_15_code
def yX9_address : MethodName := ⟨RX9, "address", "(I)I"⟩
abbrev cX9_branchBytes : ByteArray := prog_1_method_16_code
def yX9_branchBytes : MethodName := ⟨RX9, "branchBytes", "(I)I"⟩
abbrev cX9_edgeCost : ByteArray := prog_1_method_17_code
def yX9_edgeCost : MethodName := ⟨RX9, "edgeCost", "(II)I"⟩
abbrev cX9_chainHead : ByteArray := prog_1_method_18_code
def yX9_chainHead : MethodName := ⟨RX9, "chainHead", "(I)I"⟩
abbrev cX9_optimalCost : ByteArray := prog_1_method_19_code
def yX9_optimalCost : MethodName := ⟨RX9, "optimalCost", "()I"⟩
abbrev cX9_bestRotation : ByteArray := prog_1_method_20_code
def yX9_bestRotation : MethodName := ⟨RX9, "bestRotation", "(II)I"⟩
abbrev cX9_orderByChains : ByteArray := prog_1_method_21_code
def yX9_orderByChains : MethodName := ⟨RX9, "orderByChains", "()I"⟩
abbrev cX9_orderOptimally : ByteArray := prog_1_method_22_code
def yX9_orderOptimally : MethodName := ⟨RX9, "orderOptimally", "()I"⟩
abbrev cX9_swap : ByteArray := prog_1_method_23_code
def yX9_swap : MethodName := ⟨RX9, "swap", "(II)I"⟩
abbrev cX9_rotate : ByteArray := prog_1_method_24_code
def yX9_rotate : MethodName := ⟨RX9, "rotate", "(II)I"⟩
abbrev cX9_split : ByteArray := prog_1_method_25_code
def yX9_split : MethodName := ⟨RX9, "split", "(I)I"⟩
abbrev cX9_bypass : ByteArray := prog_1_method_26_code
def yX9_bypass : MethodName := ⟨RX9, "bypass", "(I)I"⟩
abbrev cX9_setCount : ByteArray := prog_1_method_27_code
def yX9_setCount : MethodName := ⟨RX9, "setCount", "(III)I"⟩
abbrev cX9_setAlignment : ByteArray := prog_1_method_28_code
def yX9_setAlignment : MethodName := ⟨RX9, "setAlignment", "(I)I"⟩
abbrev cX9_undo : ByteArray := prog_1_method_29_code
def yX9_undo : MethodName := ⟨RX9, "undo", "()I"⟩
abbrev cX9_runScript : ByteArray := prog_1_method_30_code
def yX9_runScript : MethodName := ⟨RX9, "runScript", "(IJ)I"⟩
abbrev cX9_execute : ByteArray := prog_1_method_31_code
def yX9_execute : MethodName := ⟨RX9, "execute", "(JI)I"⟩
abbrev cX9_save : ByteArray := prog_1_method_32_code
def yX9_save : MethodName := ⟨RX9, "save", "(I)I"⟩
abbrev cX9_restore : ByteArray := prog_1_method_33_code
def yX9_restore : MethodName := ⟨RX9, "restore", "(I)I"⟩
def RX10 : String := "BlockLayoutModel"
def TX10 : u_T := fun k => match k with
  | 0 => ("BlockLayoutModel", "text", "[I", true)
  | 1 => ("BlockLayoutModel", "length", "I", false)
  | 2 => ("BlockLayoutModel", "blocks", "I", false)
  | 3 => ("BlockLayoutModel", "bytes", "[I", true)
  | 4 => ("BlockLayoutModel", "entry", "I", false)
  | 5 => ("BlockLayoutModel", "now", "[I", true)
  | 6 => ("BlockLayoutModel", "trial", "[I", true)
  | 7 => ("BlockLayoutModel", "best", "[I", true)
  | 8 => ("BlockLayoutModel", "diary", "[I", true)
  | 9 => ("BlockLayoutModel", "acts", "I", false)
  | 10 => ("BlockLayoutModel", "next", "I", false)
  | 11 => ("BlockLayoutModel", "kept", "[I", true)
  | 12 => ("BlockLayoutModel", "isKept", "[Z", true)
  | 13 => ("BlockLayoutModel", "place", "I", false)
  | 14 => ("BlockLayoutModel", "readBlocks", "I", false)
  | 15 => ("BlockLayoutModel", "readEntry", "I", false)
  | 16 => ("BlockLayoutModel", "readBytes", "[I", true)
  | 17 => ("BlockLayoutModel", "read", "[I", true)
  | 18 => ("BlockLayoutModel", "head", "[I", true)
  | 19 => ("BlockLayoutModel", "behind", "[I", true)
  | 20 => ("BlockLayoutModel", "isPlaced", "[Z", true)
  | 21 => ("BlockLayoutModel", "left", "[I", true)
  | _ => ("BlockLayoutModel", "codeEnd", "I", false)
def tyX10 : Nat → FieldType := fun k => match k with
  | 0 => .array .int
  | 1 => .int
  | 2 => .int
  | 3 => .array .int
  | 4 => .int
  | 5 => .array .int
  | 6 => .array .int
  | 7 => .array .int
  | 8 => .array .int
  | 9 => .int
  | 10 => .int
  | 11 => .array .int
  | 12 => .array .boolean
  | 13 => .int
  | 14 => .int
  | 15 => .int
  | 16 => .array .int
  | 17 => .array .int
  | 18 => .array .int
  | 19 => .array .int
  | 20 => .array .boolean
  | 21 => .array .int
  | _ => .int
theorem nmX10 : ∀ a, a < 23 → ∀ b, b < 23 → a ≠ b → (TX10 a).2.1 ≠ (TX10 b).2.1 := by decide +kernel
theorem tyX10_ok : ∀ k, k < 23 → parseFieldDescriptor (TX10 k).2.2.1 = some (tyX10 k) := by decide +kernel
abbrev cX10_init : ByteArray := prog_12_method_1_code
def yX10_init : MethodName := ⟨RX10, "<init>", "()V"⟩
abbrev cX10_copy : ByteArray := prog_12_method_3_code
def yX10_copy : MethodName := ⟨RX10, "copy", "([I[I)V"⟩
abbrev cX10_in : ByteArray := prog_12_method_4_code
def yX10_in : MethodName := ⟨RX10, "in", "(JJJ)Z"⟩
abbrev cX10_isBlock : ByteArray := prog_12_method_5_code
def yX10_isBlock : MethodName := ⟨RX10, "isBlock", "(I)Z"⟩
abbrev cX10_isEdge : ByteArray := prog_12_method_6_code
def yX10_isEdge : MethodName := ⟨RX10, "isEdge", "(II)Z"⟩
abbrev cX10_append : ByteArray := prog_12_method_7_code
def yX10_append : MethodName := ⟨RX10, "append", "(I)I"⟩
abbrev cX10_clearText : ByteArray := prog_12_method_8_code
def yX10_clearText : MethodName := ⟨RX10, "clearText", "()I"⟩
abbrev cX10_figure : ByteArray := prog_12_method_9_code
def yX10_figure : MethodName := ⟨RX10, "figure", "(II)I"⟩
abbrev cX10_twoFigures : ByteArray := prog_12_method_10_code
def yX10_twoFigures : MethodName := ⟨RX10, "twoFigures", "()I"⟩
abbrev cX10_readSuccessor : ByteArray := prog_12_method_11_code
def yX10_readSuccessor : MethodName := ⟨RX10, "readSuccessor", "(II)Z"⟩
abbrev cX10_readBlock : ByteArray := prog_12_method_12_code
def yX10_readBlock : MethodName := ⟨RX10, "readBlock", "(I)Z"⟩
abbrev cX10_readText : ByteArray := prog_12_method_13_code
def yX10_readText : MethodName := ⟨RX10, "readText", "()I"⟩
abbrev cX10_errorPosition : ByteArray := prog_12_method_14_code
def yX10_errorPosition : MethodName := ⟨RX10, "errorPosition", "()I"⟩
abbrev cX10_load : ByteArray := prog_12_method_15_code
def yX10_load : MethodName := ⟨RX10, "load", "()I"⟩
abbrev cX10_blockCount : ByteArray := prog_12_method_16_code
def yX10_blockCount : MethodName := ⟨RX10, "blockCount", "()I"⟩
abbrev cX10_size : ByteArray := prog_12_method_17_code
def yX10_size : MethodName := ⟨RX10, "size", "(I)I"⟩
abbrev cX10_successor : ByteArray := prog_12_method_18_code
def yX10_successor : MethodName := ⟨RX10, "successor", "(II)I"⟩
abbrev cX10_edgeCount : ByteArray := prog_12_method_19_code
def yX10_edgeCount : MethodName := ⟨RX10, "edgeCount", "(II)I"⟩
abbrev cX10_executionsOf : ByteArray := prog_12_method_20_code
def yX10_executionsOf : MethodName := ⟨RX10, "executionsOf", "([II)I"⟩
abbrev cX10_executions : ByteArray := prog_12_method_21_code
def yX10_executions : MethodName := ⟨RX10, "executions", "(I)I"⟩
abbrev cX10_positionOf : ByteArray := prog_12_method_22_code
def yX10_positionOf : MethodName := ⟨RX10, "positionOf", "([II)I"⟩
abbrev cX10_followerOf : ByteArray := prog_12_method_23_code
def yX10_followerOf : MethodName := ⟨RX10, "followerOf", "([II)I"⟩
abbrev cX10_edgeCostOf : ByteArray := prog_12_method_24_code
def yX10_edgeCostOf : MethodName := ⟨RX10, "edgeCostOf", "([III)I"⟩
abbrev cX10_branchBytesOf : ByteArray := prog_12_method_25_code
def yX10_branchBytesOf : MethodName := ⟨RX10, "branchBytesOf", "([II)I"⟩
abbrev cX10_costOf : ByteArray := prog_12_method_26_code
def yX10_costOf : MethodName := ⟨RX10, "costOf", "([I)I"⟩
abbrev cX10_isLoopHead : ByteArray := prog_12_method_27_code
def yX10_isLoopHead : MethodName := ⟨RX10, "isLoopHead", "([II)Z"⟩
abbrev cX10_up : ByteArray := prog_12_method_28_code
def yX10_up : MethodName := ⟨RX10, "up", "(II)I"⟩
abbrev cX10_addressOf : ByteArray := prog_12_method_29_code
def yX10_addressOf : MethodName := ⟨RX10, "addressOf", "([II)I"⟩
abbrev cX10_isPosition : ByteArray := prog_12_method_30_code
def yX10_isPosition : MethodName := ⟨RX10, "isPosition", "(I)Z"⟩
abbrev cX10_blockAt : ByteArray := prog_12_method_31_code
def yX10_blockAt : MethodName := ⟨RX10, "blockAt", "(I)I"⟩
abbrev cX10_hotCount : ByteArray := prog_12_method_32_code
def yX10_hotCount : MethodName := ⟨RX10, "hotCount", "()I"⟩
abbrev cX10_cost : ByteArray := prog_12_method_33_code
def yX10_cost : MethodName := ⟨RX10, "cost", "()I"⟩
abbrev cX10_codeSize : ByteArray := prog_12_method_34_code
def yX10_codeSize : MethodName := ⟨RX10, "codeSize", "()I"⟩
abbrev cX10_address : ByteArray := prog_12_method_35_code
def yX10_address : MethodName := ⟨RX10, "address", "(I)I"⟩
abbrev cX10_branchBytes : ByteArray := prog_12_method_36_code
def yX10_branchBytes : MethodName := ⟨RX10, "branchBytes", "(I)I"⟩
abbrev cX10_edgeCost : ByteArray := prog_12_method_37_code
def yX10_edgeCost : MethodName := ⟨RX10, "edgeCost", "(II)I"⟩
abbrev cX10_layChains : ByteArray := prog_12_method_38_code
def yX10_layChains : MethodName := ⟨RX10, "layChains", "()V"⟩
abbrev cX10_chainHead : ByteArray := prog_12_method_39_code
def yX10_chainHead : MethodName := ⟨RX10, "chainHead", "(I)I"⟩
abbrev cX10_weightOf : ByteArray := prog_12_method_40_code
def yX10_weightOf : MethodName := ⟨RX10, "weightOf", "(I)I"⟩
abbrev cX10_orderByChains : ByteArray := prog_12_method_41_code
def yX10_orderByChains : MethodName := ⟨RX10, "orderByChains", "()I"⟩
abbrev cX10_layOrder : ByteArray := prog_12_method_42_code
def yX10_layOrder : MethodName := ⟨RX10, "layOrder", "(II)V"⟩
abbrev cX10_findOptimal : ByteArray := prog_12_method_43_code
def yX10_findOptimal : MethodName := ⟨RX10, "findOptimal", "()I"⟩
abbrev cX10_optimalCost : ByteArray := prog_12_method_44_code
def yX10_optimalCost : MethodName := ⟨RX10, "optimalCost", "()I"⟩
abbrev cX10_orderOptimally : ByteArray := prog_12_method_45_code
def yX10_orderOptimally : MethodName := ⟨RX10, "orderOptimally", "()I"⟩
abbrev cX10_rangeError : ByteArray := prog_12_method_46_code
def yX10_rangeError : MethodName := ⟨RX10, "rangeError", "([III)I"⟩
abbrev cX10_layRotated : ByteArray := prog_12_method_47_code
def yX10_layRotated : MethodName := ⟨RX10, "layRotated", "([IIII)V"⟩
abbrev cX10_bestRotation : ByteArray := prog_12_method_48_code
def yX10_bestRotation : MethodName := ⟨RX10, "bestRotation", "(II)I"⟩
abbrev cX10_note : ByteArray := prog_12_method_49_code
def yX10_note : MethodName := ⟨RX10, "note", "()V"⟩
abbrev cX10_swapError : ByteArray := prog_12_method_50_code
def yX10_swapError : MethodName := ⟨RX10, "swapError", "(II)I"⟩
abbrev cX10_swapIn : ByteArray := prog_12_method_51_code
def yX10_swapIn : MethodName := ⟨RX10, "swapIn", "([III)V"⟩
abbrev cX10_swap : ByteArray := prog_12_method_52_code
def yX10_swap : MethodName := ⟨RX10, "swap", "(II)I"⟩
abbrev cX10_rotateIn : ByteArray := prog_12_method_53_code
def yX10_rotateIn : MethodName := ⟨RX10, "rotateIn", "([III)V"⟩
abbrev cX10_rotate : ByteArray := prog_12_method_54_code
def yX10_rotate : MethodName := ⟨RX10, "rotate", "(II)I"⟩
abbrev cX10_splitIn : ByteArray := prog_12_method_55_code
def yX10_splitIn : MethodName := ⟨RX10, "splitIn", "([II)I"⟩
abbrev cX10_split : ByteArray := prog_12_method_56_code
def yX10_split : MethodName := ⟨RX10, "split", "(I)I"⟩
abbrev cX10_bypassError : ByteArray := prog_12_method_57_code
def yX10_bypassError : MethodName := ⟨RX10, "bypassError", "([II)I"⟩
abbrev cX10_bypassIn : ByteArray := prog_12_method_58_code
def yX10_bypassIn : MethodName := ⟨RX10, "bypassIn", "([II)I"⟩
abbrev cX10_bypass : ByteArray := prog_12_method_59_code
def yX10_bypass : MethodName := ⟨RX10, "bypass", "(I)I"⟩
abbrev cX10_setCount : ByteArray := prog_12_method_60_code
def yX10_setCount : MethodName := ⟨RX10, "setCount", "(III)I"⟩
abbrev cX10_setAlignment : ByteArray := prog_12_method_61_code
def yX10_setAlignment : MethodName := ⟨RX10, "setAlignment", "(I)I"⟩
abbrev cX10_undo : ByteArray := prog_12_method_62_code
def yX10_undo : MethodName := ⟨RX10, "undo", "()I"⟩
abbrev cX10_command : ByteArray := prog_12_method_63_code
def yX10_command : MethodName := ⟨RX10, "command", "(IIII)Z"⟩
abbrev cX10_tenThousands : ByteArray := prog_12_method_64_code
def yX10_tenThousands : MethodName := ⟨RX10, "tenThousands", "(I)J"⟩
abbrev cX10_runScript : ByteArray := prog_12_method_65_code
def yX10_runScript : MethodName := ⟨RX10, "runScript", "(IJ)I"⟩
abbrev cX10_execute : ByteArray := prog_12_method_66_code
def yX10_execute : MethodName := ⟨RX10, "execute", "(JI)I"⟩
abbrev cX10_save : ByteArray := prog_12_method_67_code
def yX10_save : MethodName := ⟨RX10, "save", "(I)I"⟩
abbrev cX10_restore : ByteArray := prog_12_method_68_code
def yX10_restore : MethodName := ⟨RX10, "restore", "(I)I"⟩
def RJ6 : String := "java/lang/Integer"
def TJ6 : u_T := fun k => match k with
  | _ => ("", "", "", false)
def tyJ6 : Nat → FieldType := fun k => match k with
  | _ => .int
theorem nmJ6 : ∀ a, a < 0 → ∀ b, b < 0 → a ≠ b → (TJ6 a).2.1 ≠ (TJ6 b).2.1 := by decide +kernel
theorem tyJ6_ok : ∀ k, k < 0 → parseFieldDescriptor (TJ6 k).2.2.1 = some (tyJ6 k) := by decide +kernel
abbrev cJ6_bitCount_0f7a4 : ByteArray := prog_13_method_49_code
def yJ6_bitCount_0f7a4 : MethodName := ⟨RJ6, "bitCount", "(I)I"⟩
def RJ9 : String := "java/lang/Math"
def TJ9 : u_T := fun k => match k with
  | _ => ("", "", "", false)
def tyJ9 : Nat → FieldType := fun k => match k with
  | _ => .int
theorem nmJ9 : ∀ a, a < 0 → ∀ b, b < 0 → a ≠ b → (TJ9 a).2.1 ≠ (TJ9 b).2.1 := by decide +kernel
theorem tyJ9_ok : ∀ k, k < 0 → parseFieldDescriptor (TJ9 k).2.2.1 = some (tyJ9 k) := by decide +kernel
abbrev cJ9_min_7cf53 : ByteArray := prog_14_method_69_code
def yJ9_min_7cf53 : MethodName := ⟨RJ9, "min", "(II)I"⟩
def RJ10 : String := "java/lang/System"
def TJ10 : u_T := fun k => match k with
  | _ => ("", "", "", false)
def tyJ10 : Nat → FieldType := fun k => match k with
  | _ => .int
theorem nmJ10 : ∀ a, a < 0 → ∀ b, b < 0 → a ≠ b → (TJ10 a).2.1 ≠ (TJ10 b).2.1 := by decide +kernel
theorem tyJ10_ok : ∀ k, k < 0 → parseFieldDescriptor (TJ10 k).2.2.1 = some (tyJ10 k) := by decide +kernel
def RL : String := "BlockLayoutLaw"
abbrev cL_law : ByteArray := code
def yL_law : MethodName := ⟨RL, "law", "([I)Z"⟩
abbrev vwCl : List vw_C := [(RX0, TX0, 5), (RX1, TX1, 3), (RX2, TX2, 3), (RX3, TX3, 3), (RX6, TX6, 5), (RX7, TX7, 7), (RX9, TX9, 9), (RX10, TX10, 23)]
end
section
theorem dJ6_bitCount_0f7a4_0 : decode cJ6_bitCount_0f7a4 0 = .ok (.iload_n 0, 1) := by decide +kernel
theorem dJ6_bitCount_0f7a4_1 : decode cJ6_bitCount_0f7a4 1 = .ok (.iload_n 0, 1) := by decide +kernel
theorem dJ6_bitCount_0f7a4_2 : decode cJ6_bitCount_0f7a4 2 = .ok (.iconst 1, 1) := by decide +kernel
theorem dJ6_bitCount_0f7a4_3 : decode cJ6_bitCount_0f7a4 3 = .ok (.iushr, 1) := by decide +kernel
theorem dJ6_bitCount_0f7a4_4 : decode cJ6_bitCount_0f7a4 4 = .ok (.ldc_w 265, 3) := by decide +kernel
theorem dJ6_bitCount_0f7a4_7 : decode cJ6_bitCount_0f7a4 7 = .ok (.iand, 1) := by decide +kernel
theorem dJ6_bitCount_0f7a4_8 : decode cJ6_bitCount_0f7a4 8 = .ok (.isub, 1) := by decide +kernel
theorem dJ6_bitCount_0f7a4_9 : decode cJ6_bitCount_0f7a4 9 = .ok (.istore_n 0, 1) := by decide +kernel
theorem dJ6_bitCount_0f7a4_10 : decode cJ6_bitCount_0f7a4 10 = .ok (.iload_n 0, 1) := by decide +kernel
theorem dJ6_bitCount_0f7a4_11 : decode cJ6_bitCount_0f7a4 11 = .ok (.ldc_w 266, 3) := by decide +kernel
theorem dJ6_bitCount_0f7a4_14 : decode cJ6_bitCount_0f7a4 14 = .ok (.iand, 1) := by decide +kernel
theorem dJ6_bitCount_0f7a4_15 : decode cJ6_bitCount_0f7a4 15 = .ok (.iload_n 0, 1) := by decide +kernel
theorem dJ6_bitCount_0f7a4_16 : decode cJ6_bitCount_0f7a4 16 = .ok (.iconst 2, 1) := by decide +kernel
theorem dJ6_bitCount_0f7a4_17 : decode cJ6_bitCount_0f7a4 17 = .ok (.iushr, 1) := by decide +kernel
theorem dJ6_bitCount_0f7a4_18 : decode cJ6_bitCount_0f7a4 18 = .ok (.ldc_w 266, 3) := by decide +kernel
theorem dJ6_bitCount_0f7a4_21 : decode cJ6_bitCount_0f7a4 21 = .ok (.iand, 1) := by decide +kernel
theorem dJ6_bitCount_0f7a4_22 : decode cJ6_bitCount_0f7a4 22 = .ok (.iadd, 1) := by decide +kernel
theorem dJ6_bitCount_0f7a4_23 : decode cJ6_bitCount_0f7a4 23 = .ok (.istore_n 0, 1) := by decide +kernel
theorem dJ6_bitCount_0f7a4_24 : decode cJ6_bitCount_0f7a4 24 = .ok (.iload_n 0, 1) := by decide +kernel
theorem dJ6_bitCount_0f7a4_25 : decode cJ6_bitCount_0f7a4 25 = .ok (.iload_n 0, 1) := by decide +kernel
theorem dJ6_bitCount_0f7a4_26 : decode cJ6_bitCount_0f7a4 26 = .ok (.iconst 4, 1) := by decide +kernel
theorem dJ6_bitCount_0f7a4_27 : decode cJ6_bitCount_0f7a4 27 = .ok (.iushr, 1) := by decide +kernel
theorem dJ6_bitCount_0f7a4_28 : decode cJ6_bitCount_0f7a4 28 = .ok (.iadd, 1) := by decide +kernel
theorem dJ6_bitCount_0f7a4_29 : decode cJ6_bitCount_0f7a4 29 = .ok (.ldc_w 267, 3) := by decide +kernel
theorem dJ6_bitCount_0f7a4_32 : decode cJ6_bitCount_0f7a4 32 = .ok (.iand, 1) := by decide +kernel
theorem dJ6_bitCount_0f7a4_33 : decode cJ6_bitCount_0f7a4 33 = .ok (.istore_n 0, 1) := by decide +kernel
theorem dJ6_bitCount_0f7a4_34 : decode cJ6_bitCount_0f7a4 34 = .ok (.iload_n 0, 1) := by decide +kernel
theorem dJ6_bitCount_0f7a4_35 : decode cJ6_bitCount_0f7a4 35 = .ok (.iload_n 0, 1) := by decide +kernel
theorem dJ6_bitCount_0f7a4_36 : decode cJ6_bitCount_0f7a4 36 = .ok (.bipush 8, 2) := by decide +kernel
theorem dJ6_bitCount_0f7a4_38 : decode cJ6_bitCount_0f7a4 38 = .ok (.iushr, 1) := by decide +kernel
theorem dJ6_bitCount_0f7a4_39 : decode cJ6_bitCount_0f7a4 39 = .ok (.iadd, 1) := by decide +kernel
theorem dJ6_bitCount_0f7a4_40 : decode cJ6_bitCount_0f7a4 40 = .ok (.istore_n 0, 1) := by decide +kernel
theorem dJ6_bitCount_0f7a4_41 : decode cJ6_bitCount_0f7a4 41 = .ok (.iload_n 0, 1) := by decide +kernel
theorem dJ6_bitCount_0f7a4_42 : decode cJ6_bitCount_0f7a4 42 = .ok (.iload_n 0, 1) := by decide +kernel
theorem dJ6_bitCount_0f7a4_43 : decode cJ6_bitCount_0f7a4 43 = .ok (.bipush 16, 2) := by decide +kernel
theorem dJ6_bitCount_0f7a4_45 : decode cJ6_bitCount_0f7a4 45 = .ok (.iushr, 1) := by decide +kernel
theorem dJ6_bitCount_0f7a4_46 : decode cJ6_bitCount_0f7a4 46 = .ok (.iadd, 1) := by decide +kernel
theorem dJ6_bitCount_0f7a4_47 : decode cJ6_bitCount_0f7a4 47 = .ok (.istore_n 0, 1) := by decide +kernel
theorem dJ6_bitCount_0f7a4_48 : decode cJ6_bitCount_0f7a4 48 = .ok (.iload_n 0, 1) := by decide +kernel
theorem dJ6_bitCount_0f7a4_49 : decode cJ6_bitCount_0f7a4 49 = .ok (.bipush 63, 2) := by decide +kernel
theorem dJ6_bitCount_0f7a4_51 : decode cJ6_bitCount_0f7a4 51 = .ok (.iand, 1) := by decide +kernel
theorem dJ6_bitCount_0f7a4_52 : decode cJ6_bitCount_0f7a4 52 = .ok (.ireturn, 1) := by decide +kernel
theorem dJ9_min_7cf53_0 : decode cJ9_min_7cf53 0 = .ok (.iload_n 0, 1) := by decide +kernel
theorem dJ9_min_7cf53_1 : decode cJ9_min_7cf53 1 = .ok (.iload_n 1, 1) := by decide +kernel
theorem dJ9_min_7cf53_2 : decode cJ9_min_7cf53 2 = .ok (.if_icmp .gt 7, 3) := by decide +kernel
theorem dJ9_min_7cf53_5 : decode cJ9_min_7cf53 5 = .ok (.iload_n 0, 1) := by decide +kernel
theorem dJ9_min_7cf53_6 : decode cJ9_min_7cf53 6 = .ok (.goto 4, 3) := by decide +kernel
theorem dJ9_min_7cf53_9 : decode cJ9_min_7cf53 9 = .ok (.iload_n 1, 1) := by decide +kernel
theorem dJ9_min_7cf53_10 : decode cJ9_min_7cf53 10 = .ok (.ireturn, 1) := by decide +kernel
theorem dX0_init_0 : decode cX0_init 0 = .ok (.aload_n 0, 1) := by decide +kernel
theorem dX0_init_1 : decode cX0_init 1 = .ok (.invokespecial 3, 3) := by decide +kernel
theorem dX0_init_4 : decode cX0_init 4 = .ok (.aload_n 0, 1) := by decide +kernel
theorem dX0_init_5 : decode cX0_init 5 = .ok (.bipush 8, 2) := by decide +kernel
theorem dX0_init_7 : decode cX0_init 7 = .ok (.newarray .int, 2) := by decide +kernel
theorem dX0_init_9 : decode cX0_init 9 = .ok (.putfield 9, 3) := by decide +kernel
theorem dX0_init_12 : decode cX0_init 12 = .ok (.aload_n 0, 1) := by decide +kernel
theorem dX0_init_13 : decode cX0_init 13 = .ok (.bipush 8, 2) := by decide +kernel
theorem dX0_init_15 : decode cX0_init 15 = .ok (.newarray .int, 2) := by decide +kernel
theorem dX0_init_17 : decode cX0_init 17 = .ok (.putfield 15, 3) := by decide +kernel
theorem dX0_init_20 : decode cX0_init 20 = .ok (.aload_n 0, 1) := by decide +kernel
theorem dX0_init_21 : decode cX0_init 21 = .ok (.bipush 16, 2) := by decide +kernel
theorem dX0_init_23 : decode cX0_init 23 = .ok (.newarray .int, 2) := by decide +kernel
theorem dX0_init_25 : decode cX0_init 25 = .ok (.putfield 18, 3) := by decide +kernel
theorem dX0_init_28 : decode cX0_init 28 = .ok (.aload_n 0, 1) := by decide +kernel
theorem dX0_init_29 : decode cX0_init 29 = .ok (.iconst 0, 1) := by decide +kernel
theorem dX0_init_30 : decode cX0_init 30 = .ok (.putfield 21, 3) := by decide +kernel
theorem dX0_init_33 : decode cX0_init 33 = .ok (.aload_n 0, 1) := by decide +kernel
theorem dX0_init_34 : decode cX0_init 34 = .ok (.iconst 0, 1) := by decide +kernel
theorem dX0_init_35 : decode cX0_init 35 = .ok (.putfield 25, 3) := by decide +kernel
theorem dX0_init_38 : decode cX0_init 38 = .ok (.return_, 1) := by decide +kernel
theorem dX0_merge_0 : decode cX0_merge 0 = .ok (.iconst 0, 1) := by decide +kernel
theorem dX0_merge_1 : decode cX0_merge 1 = .ok (.istore_n 2, 1) := by decide +kernel
theorem dX0_merge_2 : decode cX0_merge 2 = .ok (.iload_n 2, 1) := by decide +kernel
theorem dX0_merge_3 : decode cX0_merge 3 = .ok (.aload_n 1, 1) := by decide +kernel
theorem dX0_merge_4 : decode cX0_merge 4 = .ok (.getfield 28, 3) := by decide +kernel
theorem dX0_merge_7 : decode cX0_merge 7 = .ok (.getfield 34, 3) := by decide +kernel
theorem dX0_merge_10 : decode cX0_merge 10 = .ok (.if_icmp .ge 23, 3) := by decide +kernel
theorem dX0_merge_13 : decode cX0_merge 13 = .ok (.aload_n 0, 1) := by decide +kernel
theorem dX0_merge_14 : decode cX0_merge 14 = .ok (.getfield 9, 3) := by decide +kernel
theorem dX0_merge_17 : decode cX0_merge 17 = .ok (.iload_n 2, 1) := by decide +kernel
theorem dX0_merge_18 : decode cX0_merge 18 = .ok (.iload_n 2, 1) := by decide +kernel
theorem dX0_merge_19 : decode cX0_merge 19 = .ok (.iastore, 1) := by decide +kernel
theorem dX0_merge_20 : decode cX0_merge 20 = .ok (.aload_n 0, 1) := by decide +kernel
theorem dX0_merge_21 : decode cX0_merge 21 = .ok (.getfield 15, 3) := by decide +kernel
theorem dX0_merge_24 : decode cX0_merge 24 = .ok (.iload_n 2, 1) := by decide +kernel
theorem dX0_merge_25 : decode cX0_merge 25 = .ok (.iconst (-1), 1) := by decide +kernel
theorem dX0_merge_26 : decode cX0_merge 26 = .ok (.iastore, 1) := by decide +kernel
theorem dX0_merge_27 : decode cX0_merge 27 = .ok (.iinc 2 1, 3) := by decide +kernel
theorem dX0_merge_30 : decode cX0_merge 30 = .ok (.goto (-28), 3) := by decide +kernel
theorem dX0_merge_33 : decode cX0_merge 33 = .ok (.aload_n 0, 1) := by decide +kernel
theorem dX0_merge_34 : decode cX0_merge 34 = .ok (.aload_n 1, 1) := by decide +kernel
theorem dX0_merge_35 : decode cX0_merge 35 = .ok (.invokevirtual 39, 3) := by decide +kernel
theorem dX0_merge_38 : decode cX0_merge 38 = .ok (.iconst 0, 1) := by decide +kernel
theorem dX0_merge_39 : decode cX0_merge 39 = .ok (.istore_n 2, 1) := by decide +kernel
theorem dX0_merge_40 : decode cX0_merge 40 = .ok (.iload_n 2, 1) := by decide +kernel
theorem dX0_merge_41 : decode cX0_merge 41 = .ok (.aload_n 0, 1) := by decide +kernel
theorem dX0_merge_42 : decode cX0_merge 42 = .ok (.getfield 21, 3) := by decide +kernel
theorem dX0_merge_45 : decode cX0_merge 45 = .ok (.if_icmp .ge 35, 3) := by decide +kernel
theorem dX0_merge_48 : decode cX0_merge 48 = .ok (.aload_n 0, 1) := by decide +kernel
theorem dX0_merge_49 : decode cX0_merge 49 = .ok (.getfield 18, 3) := by decide +kernel
theorem dX0_merge_52 : decode cX0_merge 52 = .ok (.iload_n 2, 1) := by decide +kernel
theorem dX0_merge_53 : decode cX0_merge 53 = .ok (.iaload, 1) := by decide +kernel
theorem dX0_merge_54 : decode cX0_merge 54 = .ok (.iconst 2, 1) := by decide +kernel
theorem dX0_merge_55 : decode cX0_merge 55 = .ok (.idiv, 1) := by decide +kernel
theorem dX0_merge_56 : decode cX0_merge 56 = .ok (.istore_n 3, 1) := by decide +kernel
theorem dX0_merge_57 : decode cX0_merge 57 = .ok (.aload_n 0, 1) := by decide +kernel
theorem dX0_merge_58 : decode cX0_merge 58 = .ok (.aload_n 1, 1) := by decide +kernel
theorem dX0_merge_59 : decode cX0_merge 59 = .ok (.iload_n 3, 1) := by decide +kernel
theorem dX0_merge_60 : decode cX0_merge 60 = .ok (.aload_n 1, 1) := by decide +kernel
theorem dX0_merge_61 : decode cX0_merge 61 = .ok (.getfield 43, 3) := by decide +kernel
theorem dX0_merge_64 : decode cX0_merge 64 = .ok (.aload_n 0, 1) := by decide +kernel
theorem dX0_merge_65 : decode cX0_merge 65 = .ok (.getfield 18, 3) := by decide +kernel
theorem dX0_merge_68 : decode cX0_merge 68 = .ok (.iload_n 2, 1) := by decide +kernel
theorem dX0_merge_69 : decode cX0_merge 69 = .ok (.iaload, 1) := by decide +kernel
theorem dX0_merge_70 : decode cX0_merge 70 = .ok (.iaload, 1) := by decide +kernel
theorem dX0_merge_71 : decode cX0_merge 71 = .ok (.invokevirtual 46, 3) := by decide +kernel
theorem dX0_merge_74 : decode cX0_merge 74 = .ok (.iinc 2 1, 3) := by decide +kernel
theorem dX0_merge_77 : decode cX0_merge 77 = .ok (.goto (-37), 3) := by decide +kernel
theorem dX0_merge_80 : decode cX0_merge 80 = .ok (.return_, 1) := by decide +kernel
theorem dX0_sortEdges_0 : decode cX0_sortEdges 0 = .ok (.aload_n 0, 1) := by decide +kernel
theorem dX0_sortEdges_1 : decode cX0_sortEdges 1 = .ok (.iconst 0, 1) := by decide +kernel
theorem dX0_sortEdges_2 : decode cX0_sortEdges 2 = .ok (.putfield 21, 3) := by decide +kernel
theorem dX0_sortEdges_5 : decode cX0_sortEdges 5 = .ok (.iconst 0, 1) := by decide +kernel
theorem dX0_sortEdges_6 : decode cX0_sortEdges 6 = .ok (.istore_n 2, 1) := by decide +kernel
theorem dX0_sortEdges_7 : decode cX0_sortEdges 7 = .ok (.iload_n 2, 1) := by decide +kernel
theorem dX0_sortEdges_8 : decode cX0_sortEdges 8 = .ok (.aload_n 1, 1) := by decide +kernel
theorem dX0_sortEdges_9 : decode cX0_sortEdges 9 = .ok (.getfield 28, 3) := by decide +kernel
theorem dX0_sortEdges_12 : decode cX0_sortEdges 12 = .ok (.getfield 34, 3) := by decide +kernel
theorem dX0_sortEdges_15 : decode cX0_sortEdges 15 = .ok (.if_icmp .ge 46, 3) := by decide +kernel
theorem dX0_sortEdges_18 : decode cX0_sortEdges 18 = .ok (.iconst 0, 1) := by decide +kernel
theorem dX0_sortEdges_19 : decode cX0_sortEdges 19 = .ok (.istore_n 3, 1) := by decide +kernel
theorem dX0_sortEdges_20 : decode cX0_sortEdges 20 = .ok (.iload_n 3, 1) := by decide +kernel
theorem dX0_sortEdges_21 : decode cX0_sortEdges 21 = .ok (.aload_n 1, 1) := by decide +kernel
theorem dX0_sortEdges_22 : decode cX0_sortEdges 22 = .ok (.getfield 50, 3) := by decide +kernel
theorem dX0_sortEdges_25 : decode cX0_sortEdges 25 = .ok (.iload_n 2, 1) := by decide +kernel
theorem dX0_sortEdges_26 : decode cX0_sortEdges 26 = .ok (.iaload, 1) := by decide +kernel
theorem dX0_sortEdges_27 : decode cX0_sortEdges 27 = .ok (.if_icmp .ge 28, 3) := by decide +kernel
theorem dX0_sortEdges_30 : decode cX0_sortEdges 30 = .ok (.aload_n 1, 1) := by decide +kernel
theorem dX0_sortEdges_31 : decode cX0_sortEdges 31 = .ok (.iload_n 2, 1) := by decide +kernel
theorem dX0_sortEdges_32 : decode cX0_sortEdges 32 = .ok (.iload_n 3, 1) := by decide +kernel
theorem dX0_sortEdges_33 : decode cX0_sortEdges 33 = .ok (.invokevirtual 53, 3) := by decide +kernel
theorem dX0_sortEdges_36 : decode cX0_sortEdges 36 = .ok (.ifCond .le 13, 3) := by decide +kernel
theorem dX0_sortEdges_39 : decode cX0_sortEdges 39 = .ok (.aload_n 0, 1) := by decide +kernel
theorem dX0_sortEdges_40 : decode cX0_sortEdges 40 = .ok (.aload_n 1, 1) := by decide +kernel
theorem dX0_sortEdges_41 : decode cX0_sortEdges 41 = .ok (.iconst 2, 1) := by decide +kernel
theorem dX0_sortEdges_42 : decode cX0_sortEdges 42 = .ok (.iload_n 2, 1) := by decide +kernel
theorem dX0_sortEdges_43 : decode cX0_sortEdges 43 = .ok (.imul, 1) := by decide +kernel
theorem dX0_sortEdges_44 : decode cX0_sortEdges 44 = .ok (.iload_n 3, 1) := by decide +kernel
theorem dX0_sortEdges_45 : decode cX0_sortEdges 45 = .ok (.iadd, 1) := by decide +kernel
theorem dX0_sortEdges_46 : decode cX0_sortEdges 46 = .ok (.invokevirtual 57, 3) := by decide +kernel
theorem dX0_sortEdges_49 : decode cX0_sortEdges 49 = .ok (.iinc 3 1, 3) := by decide +kernel
theorem dX0_sortEdges_52 : decode cX0_sortEdges 52 = .ok (.goto (-32), 3) := by decide +kernel
theorem dX0_sortEdges_55 : decode cX0_sortEdges 55 = .ok (.iinc 2 1, 3) := by decide +kernel
theorem dX0_sortEdges_58 : decode cX0_sortEdges 58 = .ok (.goto (-51), 3) := by decide +kernel
theorem dX0_sortEdges_61 : decode cX0_sortEdges 61 = .ok (.return_, 1) := by decide +kernel
theorem dX0_insertEdge_0 : decode cX0_insertEdge 0 = .ok (.aload_n 0, 1) := by decide +kernel
theorem dX0_insertEdge_1 : decode cX0_insertEdge 1 = .ok (.getfield 21, 3) := by decide +kernel
theorem dX0_insertEdge_4 : decode cX0_insertEdge 4 = .ok (.istore_n 3, 1) := by decide +kernel
theorem dX0_insertEdge_5 : decode cX0_insertEdge 5 = .ok (.iload_n 3, 1) := by decide +kernel
theorem dX0_insertEdge_6 : decode cX0_insertEdge 6 = .ok (.ifCond .le 45, 3) := by decide +kernel
theorem dX0_insertEdge_9 : decode cX0_insertEdge 9 = .ok (.aload_n 1, 1) := by decide +kernel
theorem dX0_insertEdge_10 : decode cX0_insertEdge 10 = .ok (.getfield 61, 3) := by decide +kernel
theorem dX0_insertEdge_13 : decode cX0_insertEdge 13 = .ok (.aload_n 0, 1) := by decide +kernel
theorem dX0_insertEdge_14 : decode cX0_insertEdge 14 = .ok (.getfield 18, 3) := by decide +kernel
theorem dX0_insertEdge_17 : decode cX0_insertEdge 17 = .ok (.iload_n 3, 1) := by decide +kernel
theorem dX0_insertEdge_18 : decode cX0_insertEdge 18 = .ok (.iconst 1, 1) := by decide +kernel
theorem dX0_insertEdge_19 : decode cX0_insertEdge 19 = .ok (.isub, 1) := by decide +kernel
theorem dX0_insertEdge_20 : decode cX0_insertEdge 20 = .ok (.iaload, 1) := by decide +kernel
theorem dX0_insertEdge_21 : decode cX0_insertEdge 21 = .ok (.iaload, 1) := by decide +kernel
theorem dX0_insertEdge_22 : decode cX0_insertEdge 22 = .ok (.aload_n 1, 1) := by decide +kernel
theorem dX0_insertEdge_23 : decode cX0_insertEdge 23 = .ok (.getfield 61, 3) := by decide +kernel
theorem dX0_insertEdge_26 : decode cX0_insertEdge 26 = .ok (.iload_n 2, 1) := by decide +kernel
theorem dX0_insertEdge_27 : decode cX0_insertEdge 27 = .ok (.iaload, 1) := by decide +kernel
theorem dX0_insertEdge_28 : decode cX0_insertEdge 28 = .ok (.if_icmp .ge 23, 3) := by decide +kernel
theorem dX0_insertEdge_31 : decode cX0_insertEdge 31 = .ok (.aload_n 0, 1) := by decide +kernel
theorem dX0_insertEdge_32 : decode cX0_insertEdge 32 = .ok (.getfield 18, 3) := by decide +kernel
theorem dX0_insertEdge_35 : decode cX0_insertEdge 35 = .ok (.iload_n 3, 1) := by decide +kernel
theorem dX0_insertEdge_36 : decode cX0_insertEdge 36 = .ok (.aload_n 0, 1) := by decide +kernel
theorem dX0_insertEdge_37 : decode cX0_insertEdge 37 = .ok (.getfield 18, 3) := by decide +kernel
theorem dX0_insertEdge_40 : decode cX0_insertEdge 40 = .ok (.iload_n 3, 1) := by decide +kernel
theorem dX0_insertEdge_41 : decode cX0_insertEdge 41 = .ok (.iconst 1, 1) := by decide +kernel
theorem dX0_insertEdge_42 : decode cX0_insertEdge 42 = .ok (.isub, 1) := by decide +kernel
theorem dX0_insertEdge_43 : decode cX0_insertEdge 43 = .ok (.iaload, 1) := by decide +kernel
theorem dX0_insertEdge_44 : decode cX0_insertEdge 44 = .ok (.iastore, 1) := by decide +kernel
theorem dX0_insertEdge_45 : decode cX0_insertEdge 45 = .ok (.iinc 3 (-1), 3) := by decide +kernel
theorem dX0_insertEdge_48 : decode cX0_insertEdge 48 = .ok (.goto (-43), 3) := by decide +kernel
theorem dX0_insertEdge_51 : decode cX0_insertEdge 51 = .ok (.aload_n 0, 1) := by decide +kernel
theorem dX0_insertEdge_52 : decode cX0_insertEdge 52 = .ok (.getfield 18, 3) := by decide +kernel
theorem dX0_insertEdge_55 : decode cX0_insertEdge 55 = .ok (.iload_n 3, 1) := by decide +kernel
theorem dX0_insertEdge_56 : decode cX0_insertEdge 56 = .ok (.iload_n 2, 1) := by decide +kernel
theorem dX0_insertEdge_57 : decode cX0_insertEdge 57 = .ok (.iastore, 1) := by decide +kernel
theorem dX0_insertEdge_58 : decode cX0_insertEdge 58 = .ok (.aload_n 0, 1) := by decide +kernel
theorem dX0_insertEdge_59 : decode cX0_insertEdge 59 = .ok (.dup, 1) := by decide +kernel
theorem dX0_insertEdge_60 : decode cX0_insertEdge 60 = .ok (.getfield 21, 3) := by decide +kernel
theorem dX0_insertEdge_63 : decode cX0_insertEdge 63 = .ok (.iconst 1, 1) := by decide +kernel
theorem dX0_insertEdge_64 : decode cX0_insertEdge 64 = .ok (.iadd, 1) := by decide +kernel
theorem dX0_insertEdge_65 : decode cX0_insertEdge 65 = .ok (.putfield 21, 3) := by decide +kernel
theorem dX0_insertEdge_68 : decode cX0_insertEdge 68 = .ok (.return_, 1) := by decide +kernel
theorem dX0_joinBehind_0 : decode cX0_joinBehind 0 = .ok (.aload_n 0, 1) := by decide +kernel
theorem dX0_joinBehind_1 : decode cX0_joinBehind 1 = .ok (.getfield 15, 3) := by decide +kernel
theorem dX0_joinBehind_4 : decode cX0_joinBehind 4 = .ok (.iload_n 2, 1) := by decide +kernel
theorem dX0_joinBehind_5 : decode cX0_joinBehind 5 = .ok (.iaload, 1) := by decide +kernel
theorem dX0_joinBehind_6 : decode cX0_joinBehind 6 = .ok (.iconst (-1), 1) := by decide +kernel
theorem dX0_joinBehind_7 : decode cX0_joinBehind 7 = .ok (.if_icmp .ne 31, 3) := by decide +kernel
theorem dX0_joinBehind_10 : decode cX0_joinBehind 10 = .ok (.aload_n 0, 1) := by decide +kernel
theorem dX0_joinBehind_11 : decode cX0_joinBehind 11 = .ok (.getfield 9, 3) := by decide +kernel
theorem dX0_joinBehind_14 : decode cX0_joinBehind 14 = .ok (.iload_n 3, 1) := by decide +kernel
theorem dX0_joinBehind_15 : decode cX0_joinBehind 15 = .ok (.iaload, 1) := by decide +kernel
theorem dX0_joinBehind_16 : decode cX0_joinBehind 16 = .ok (.iload_n 3, 1) := by decide +kernel
theorem dX0_joinBehind_17 : decode cX0_joinBehind 17 = .ok (.if_icmp .ne 21, 3) := by decide +kernel
theorem dX0_joinBehind_20 : decode cX0_joinBehind 20 = .ok (.aload_n 0, 1) := by decide +kernel
theorem dX0_joinBehind_21 : decode cX0_joinBehind 21 = .ok (.getfield 9, 3) := by decide +kernel
theorem dX0_joinBehind_24 : decode cX0_joinBehind 24 = .ok (.iload_n 2, 1) := by decide +kernel
theorem dX0_joinBehind_25 : decode cX0_joinBehind 25 = .ok (.iaload, 1) := by decide +kernel
theorem dX0_joinBehind_26 : decode cX0_joinBehind 26 = .ok (.iload_n 3, 1) := by decide +kernel
theorem dX0_joinBehind_27 : decode cX0_joinBehind 27 = .ok (.if_icmp .eq 11, 3) := by decide +kernel
theorem dX0_joinBehind_30 : decode cX0_joinBehind 30 = .ok (.iload_n 3, 1) := by decide +kernel
theorem dX0_joinBehind_31 : decode cX0_joinBehind 31 = .ok (.ifCond .eq 7, 3) := by decide +kernel
theorem dX0_joinBehind_34 : decode cX0_joinBehind 34 = .ok (.iconst 1, 1) := by decide +kernel
theorem dX0_joinBehind_35 : decode cX0_joinBehind 35 = .ok (.goto 4, 3) := by decide +kernel
theorem dX0_joinBehind_38 : decode cX0_joinBehind 38 = .ok (.iconst 0, 1) := by decide +kernel
theorem dX0_joinBehind_39 : decode cX0_joinBehind 39 = .ok (.istore 4, 2) := by decide +kernel
theorem dX0_joinBehind_41 : decode cX0_joinBehind 41 = .ok (.iload 4, 2) := by decide +kernel
theorem dX0_joinBehind_43 : decode cX0_joinBehind 43 = .ok (.ifCond .ne 4, 3) := by decide +kernel
theorem dX0_joinBehind_46 : decode cX0_joinBehind 46 = .ok (.return_, 1) := by decide +kernel
theorem dX0_joinBehind_47 : decode cX0_joinBehind 47 = .ok (.aload_n 0, 1) := by decide +kernel
theorem dX0_joinBehind_48 : decode cX0_joinBehind 48 = .ok (.getfield 15, 3) := by decide +kernel
theorem dX0_joinBehind_51 : decode cX0_joinBehind 51 = .ok (.iload_n 2, 1) := by decide +kernel
theorem dX0_joinBehind_52 : decode cX0_joinBehind 52 = .ok (.iload_n 3, 1) := by decide +kernel
theorem dX0_joinBehind_53 : decode cX0_joinBehind 53 = .ok (.iastore, 1) := by decide +kernel
theorem dX0_joinBehind_54 : decode cX0_joinBehind 54 = .ok (.iconst 0, 1) := by decide +kernel
theorem dX0_joinBehind_55 : decode cX0_joinBehind 55 = .ok (.istore 5, 2) := by decide +kernel
theorem dX0_joinBehind_57 : decode cX0_joinBehind 57 = .ok (.iload 5, 2) := by decide +kernel
theorem dX0_joinBehind_59 : decode cX0_joinBehind 59 = .ok (.aload_n 1, 1) := by decide +kernel
theorem dX0_joinBehind_60 : decode cX0_joinBehind 60 = .ok (.getfield 28, 3) := by decide +kernel
theorem dX0_joinBehind_63 : decode cX0_joinBehind 63 = .ok (.getfield 34, 3) := by decide +kernel
theorem dX0_joinBehind_66 : decode cX0_joinBehind 66 = .ok (.if_icmp .ge 33, 3) := by decide +kernel
theorem dX0_joinBehind_69 : decode cX0_joinBehind 69 = .ok (.aload_n 0, 1) := by decide +kernel
theorem dX0_joinBehind_70 : decode cX0_joinBehind 70 = .ok (.getfield 9, 3) := by decide +kernel
theorem dX0_joinBehind_73 : decode cX0_joinBehind 73 = .ok (.iload 5, 2) := by decide +kernel
theorem dX0_joinBehind_75 : decode cX0_joinBehind 75 = .ok (.iaload, 1) := by decide +kernel
theorem dX0_joinBehind_76 : decode cX0_joinBehind 76 = .ok (.iload_n 3, 1) := by decide +kernel
theorem dX0_joinBehind_77 : decode cX0_joinBehind 77 = .ok (.if_icmp .ne 16, 3) := by decide +kernel
theorem dX0_joinBehind_80 : decode cX0_joinBehind 80 = .ok (.aload_n 0, 1) := by decide +kernel
theorem dX0_joinBehind_81 : decode cX0_joinBehind 81 = .ok (.getfield 9, 3) := by decide +kernel
theorem dX0_joinBehind_84 : decode cX0_joinBehind 84 = .ok (.iload 5, 2) := by decide +kernel
theorem dX0_joinBehind_86 : decode cX0_joinBehind 86 = .ok (.aload_n 0, 1) := by decide +kernel
theorem dX0_joinBehind_87 : decode cX0_joinBehind 87 = .ok (.getfield 9, 3) := by decide +kernel
theorem dX0_joinBehind_90 : decode cX0_joinBehind 90 = .ok (.iload_n 2, 1) := by decide +kernel
theorem dX0_joinBehind_91 : decode cX0_joinBehind 91 = .ok (.iaload, 1) := by decide +kernel
theorem dX0_joinBehind_92 : decode cX0_joinBehind 92 = .ok (.iastore, 1) := by decide +kernel
theorem dX0_joinBehind_93 : decode cX0_joinBehind 93 = .ok (.iinc 5 1, 3) := by decide +kernel
theorem dX0_joinBehind_96 : decode cX0_joinBehind 96 = .ok (.goto (-39), 3) := by decide +kernel
theorem dX0_joinBehind_99 : decode cX0_joinBehind 99 = .ok (.return_, 1) := by decide +kernel
theorem dX0_arrange_0 : decode cX0_arrange 0 = .ok (.aload_n 0, 1) := by decide +kernel
theorem dX0_arrange_1 : decode cX0_arrange 1 = .ok (.iconst 0, 1) := by decide +kernel
theorem dX0_arrange_2 : decode cX0_arrange 2 = .ok (.putfield 25, 3) := by decide +kernel
theorem dX0_arrange_5 : decode cX0_arrange 5 = .ok (.aload_n 0, 1) := by decide +kernel
theorem dX0_arrange_6 : decode cX0_arrange 6 = .ok (.aload_n 1, 1) := by decide +kernel
theorem dX0_arrange_7 : decode cX0_arrange 7 = .ok (.iconst 0, 1) := by decide +kernel
theorem dX0_arrange_8 : decode cX0_arrange 8 = .ok (.iconst 0, 1) := by decide +kernel
theorem dX0_arrange_9 : decode cX0_arrange 9 = .ok (.invokevirtual 64, 3) := by decide +kernel
theorem dX0_arrange_12 : decode cX0_arrange 12 = .ok (.istore_n 2, 1) := by decide +kernel
theorem dX0_arrange_13 : decode cX0_arrange 13 = .ok (.iconst 1, 1) := by decide +kernel
theorem dX0_arrange_14 : decode cX0_arrange 14 = .ok (.istore_n 3, 1) := by decide +kernel
theorem dX0_arrange_15 : decode cX0_arrange 15 = .ok (.iload_n 3, 1) := by decide +kernel
theorem dX0_arrange_16 : decode cX0_arrange 16 = .ok (.aload_n 1, 1) := by decide +kernel
theorem dX0_arrange_17 : decode cX0_arrange 17 = .ok (.getfield 28, 3) := by decide +kernel
theorem dX0_arrange_20 : decode cX0_arrange 20 = .ok (.getfield 34, 3) := by decide +kernel
theorem dX0_arrange_23 : decode cX0_arrange 23 = .ok (.if_icmp .ge 32, 3) := by decide +kernel
theorem dX0_arrange_26 : decode cX0_arrange 26 = .ok (.iload_n 2, 1) := by decide +kernel
theorem dX0_arrange_27 : decode cX0_arrange 27 = .ok (.aload_n 1, 1) := by decide +kernel
theorem dX0_arrange_28 : decode cX0_arrange 28 = .ok (.getfield 28, 3) := by decide +kernel
theorem dX0_arrange_31 : decode cX0_arrange 31 = .ok (.getfield 34, 3) := by decide +kernel
theorem dX0_arrange_34 : decode cX0_arrange 34 = .ok (.if_icmp .ge 21, 3) := by decide +kernel
theorem dX0_arrange_37 : decode cX0_arrange 37 = .ok (.aload_n 0, 1) := by decide +kernel
theorem dX0_arrange_38 : decode cX0_arrange 38 = .ok (.aload_n 1, 1) := by decide +kernel
theorem dX0_arrange_39 : decode cX0_arrange 39 = .ok (.aload_n 0, 1) := by decide +kernel
theorem dX0_arrange_40 : decode cX0_arrange 40 = .ok (.aload_n 1, 1) := by decide +kernel
theorem dX0_arrange_41 : decode cX0_arrange 41 = .ok (.invokevirtual 68, 3) := by decide +kernel
theorem dX0_arrange_44 : decode cX0_arrange 44 = .ok (.iload_n 2, 1) := by decide +kernel
theorem dX0_arrange_45 : decode cX0_arrange 45 = .ok (.invokevirtual 64, 3) := by decide +kernel
theorem dX0_arrange_48 : decode cX0_arrange 48 = .ok (.istore_n 2, 1) := by decide +kernel
theorem dX0_arrange_49 : decode cX0_arrange 49 = .ok (.iinc 3 1, 3) := by decide +kernel
theorem dX0_arrange_52 : decode cX0_arrange 52 = .ok (.goto (-37), 3) := by decide +kernel
theorem dX0_arrange_55 : decode cX0_arrange 55 = .ok (.aload_n 1, 1) := by decide +kernel
theorem dX0_arrange_56 : decode cX0_arrange 56 = .ok (.aload_n 1, 1) := by decide +kernel
theorem dX0_arrange_57 : decode cX0_arrange 57 = .ok (.getfield 28, 3) := by decide +kernel
theorem dX0_arrange_60 : decode cX0_arrange 60 = .ok (.getfield 34, 3) := by decide +kernel
theorem dX0_arrange_63 : decode cX0_arrange 63 = .ok (.putfield 72, 3) := by decide +kernel
theorem dX0_arrange_66 : decode cX0_arrange 66 = .ok (.return_, 1) := by decide +kernel
theorem dX0_placeChain_0 : decode cX0_placeChain 0 = .ok (.iload_n 3, 1) := by decide +kernel
theorem dX0_placeChain_1 : decode cX0_placeChain 1 = .ok (.istore 4, 2) := by decide +kernel
theorem dX0_placeChain_3 : decode cX0_placeChain 3 = .ok (.iload_n 2, 1) := by decide +kernel
theorem dX0_placeChain_4 : decode cX0_placeChain 4 = .ok (.istore 5, 2) := by decide +kernel
theorem dX0_placeChain_6 : decode cX0_placeChain 6 = .ok (.iload 5, 2) := by decide +kernel
theorem dX0_placeChain_8 : decode cX0_placeChain 8 = .ok (.iconst (-1), 1) := by decide +kernel
theorem dX0_placeChain_9 : decode cX0_placeChain 9 = .ok (.if_icmp .eq 52, 3) := by decide +kernel
theorem dX0_placeChain_12 : decode cX0_placeChain 12 = .ok (.iload 4, 2) := by decide +kernel
theorem dX0_placeChain_14 : decode cX0_placeChain 14 = .ok (.aload_n 1, 1) := by decide +kernel
theorem dX0_placeChain_15 : decode cX0_placeChain 15 = .ok (.getfield 28, 3) := by decide +kernel
theorem dX0_placeChain_18 : decode cX0_placeChain 18 = .ok (.getfield 34, 3) := by decide +kernel
theorem dX0_placeChain_21 : decode cX0_placeChain 21 = .ok (.if_icmp .ge 40, 3) := by decide +kernel
theorem dX0_placeChain_24 : decode cX0_placeChain 24 = .ok (.aload_n 1, 1) := by decide +kernel
theorem dX0_placeChain_25 : decode cX0_placeChain 25 = .ok (.getfield 75, 3) := by decide +kernel
theorem dX0_placeChain_28 : decode cX0_placeChain 28 = .ok (.iload 4, 2) := by decide +kernel
theorem dX0_placeChain_30 : decode cX0_placeChain 30 = .ok (.iload 5, 2) := by decide +kernel
theorem dX0_placeChain_32 : decode cX0_placeChain 32 = .ok (.iastore, 1) := by decide +kernel
theorem dX0_placeChain_33 : decode cX0_placeChain 33 = .ok (.aload_n 0, 1) := by decide +kernel
theorem dX0_placeChain_34 : decode cX0_placeChain 34 = .ok (.dup, 1) := by decide +kernel
theorem dX0_placeChain_35 : decode cX0_placeChain 35 = .ok (.getfield 25, 3) := by decide +kernel
theorem dX0_placeChain_38 : decode cX0_placeChain 38 = .ok (.iconst 1, 1) := by decide +kernel
theorem dX0_placeChain_39 : decode cX0_placeChain 39 = .ok (.iload 5, 2) := by decide +kernel
theorem dX0_placeChain_41 : decode cX0_placeChain 41 = .ok (.ishl, 1) := by decide +kernel
theorem dX0_placeChain_42 : decode cX0_placeChain 42 = .ok (.ior, 1) := by decide +kernel
theorem dX0_placeChain_43 : decode cX0_placeChain 43 = .ok (.putfield 25, 3) := by decide +kernel
theorem dX0_placeChain_46 : decode cX0_placeChain 46 = .ok (.iinc 4 1, 3) := by decide +kernel
theorem dX0_placeChain_49 : decode cX0_placeChain 49 = .ok (.aload_n 0, 1) := by decide +kernel
theorem dX0_placeChain_50 : decode cX0_placeChain 50 = .ok (.getfield 15, 3) := by decide +kernel
theorem dX0_placeChain_53 : decode cX0_placeChain 53 = .ok (.iload 5, 2) := by decide +kernel
theorem dX0_placeChain_55 : decode cX0_placeChain 55 = .ok (.iaload, 1) := by decide +kernel
theorem dX0_placeChain_56 : decode cX0_placeChain 56 = .ok (.istore 5, 2) := by decide +kernel
theorem dX0_placeChain_58 : decode cX0_placeChain 58 = .ok (.goto (-52), 3) := by decide +kernel
theorem dX0_placeChain_61 : decode cX0_placeChain 61 = .ok (.iload 4, 2) := by decide +kernel
theorem dX0_placeChain_63 : decode cX0_placeChain 63 = .ok (.ireturn, 1) := by decide +kernel
theorem dX0_heaviestHead_0 : decode cX0_heaviestHead 0 = .ok (.iconst (-1), 1) := by decide +kernel
theorem dX0_heaviestHead_1 : decode cX0_heaviestHead 1 = .ok (.istore_n 2, 1) := by decide +kernel
theorem dX0_heaviestHead_2 : decode cX0_heaviestHead 2 = .ok (.iconst (-1), 1) := by decide +kernel
theorem dX0_heaviestHead_3 : decode cX0_heaviestHead 3 = .ok (.istore_n 3, 1) := by decide +kernel
theorem dX0_heaviestHead_4 : decode cX0_heaviestHead 4 = .ok (.iconst 0, 1) := by decide +kernel
theorem dX0_heaviestHead_5 : decode cX0_heaviestHead 5 = .ok (.istore 4, 2) := by decide +kernel
theorem dX0_heaviestHead_7 : decode cX0_heaviestHead 7 = .ok (.iload 4, 2) := by decide +kernel
theorem dX0_heaviestHead_9 : decode cX0_heaviestHead 9 = .ok (.aload_n 1, 1) := by decide +kernel
theorem dX0_heaviestHead_10 : decode cX0_heaviestHead 10 = .ok (.getfield 28, 3) := by decide +kernel
theorem dX0_heaviestHead_13 : decode cX0_heaviestHead 13 = .ok (.getfield 34, 3) := by decide +kernel
theorem dX0_heaviestHead_16 : decode cX0_heaviestHead 16 = .ok (.if_icmp .ge 51, 3) := by decide +kernel
theorem dX0_heaviestHead_19 : decode cX0_heaviestHead 19 = .ok (.aload_n 0, 1) := by decide +kernel
theorem dX0_heaviestHead_20 : decode cX0_heaviestHead 20 = .ok (.getfield 9, 3) := by decide +kernel
theorem dX0_heaviestHead_23 : decode cX0_heaviestHead 23 = .ok (.iload 4, 2) := by decide +kernel
theorem dX0_heaviestHead_25 : decode cX0_heaviestHead 25 = .ok (.iaload, 1) := by decide +kernel
theorem dX0_heaviestHead_26 : decode cX0_heaviestHead 26 = .ok (.iload 4, 2) := by decide +kernel
theorem dX0_heaviestHead_28 : decode cX0_heaviestHead 28 = .ok (.if_icmp .ne 33, 3) := by decide +kernel
theorem dX0_heaviestHead_31 : decode cX0_heaviestHead 31 = .ok (.aload_n 0, 1) := by decide +kernel
theorem dX0_heaviestHead_32 : decode cX0_heaviestHead 32 = .ok (.iload 4, 2) := by decide +kernel
theorem dX0_heaviestHead_34 : decode cX0_heaviestHead 34 = .ok (.invokevirtual 78, 3) := by decide +kernel
theorem dX0_heaviestHead_37 : decode cX0_heaviestHead 37 = .ok (.ifCond .ne 24, 3) := by decide +kernel
theorem dX0_heaviestHead_40 : decode cX0_heaviestHead 40 = .ok (.aload_n 0, 1) := by decide +kernel
theorem dX0_heaviestHead_41 : decode cX0_heaviestHead 41 = .ok (.aload_n 1, 1) := by decide +kernel
theorem dX0_heaviestHead_42 : decode cX0_heaviestHead 42 = .ok (.iload 4, 2) := by decide +kernel
theorem dX0_heaviestHead_44 : decode cX0_heaviestHead 44 = .ok (.invokevirtual 82, 3) := by decide +kernel
theorem dX0_heaviestHead_47 : decode cX0_heaviestHead 47 = .ok (.istore 5, 2) := by decide +kernel
theorem dX0_heaviestHead_49 : decode cX0_heaviestHead 49 = .ok (.iload 5, 2) := by decide +kernel
theorem dX0_heaviestHead_51 : decode cX0_heaviestHead 51 = .ok (.iload_n 3, 1) := by decide +kernel
theorem dX0_heaviestHead_52 : decode cX0_heaviestHead 52 = .ok (.if_icmp .le 9, 3) := by decide +kernel
theorem dX0_heaviestHead_55 : decode cX0_heaviestHead 55 = .ok (.iload 4, 2) := by decide +kernel
theorem dX0_heaviestHead_57 : decode cX0_heaviestHead 57 = .ok (.istore_n 2, 1) := by decide +kernel
theorem dX0_heaviestHead_58 : decode cX0_heaviestHead 58 = .ok (.iload 5, 2) := by decide +kernel
theorem dX0_heaviestHead_60 : decode cX0_heaviestHead 60 = .ok (.istore_n 3, 1) := by decide +kernel
theorem dX0_heaviestHead_61 : decode cX0_heaviestHead 61 = .ok (.iinc 4 1, 3) := by decide +kernel
theorem dX0_heaviestHead_64 : decode cX0_heaviestHead 64 = .ok (.goto (-57), 3) := by decide +kernel
theorem dX0_heaviestHead_67 : decode cX0_heaviestHead 67 = .ok (.iload_n 2, 1) := by decide +kernel
theorem dX0_heaviestHead_68 : decode cX0_heaviestHead 68 = .ok (.ireturn, 1) := by decide +kernel
theorem dX0_weightOf_0 : decode cX0_weightOf 0 = .ok (.iconst 0, 1) := by decide +kernel
theorem dX0_weightOf_1 : decode cX0_weightOf 1 = .ok (.istore_n 3, 1) := by decide +kernel
theorem dX0_weightOf_2 : decode cX0_weightOf 2 = .ok (.iconst 0, 1) := by decide +kernel
theorem dX0_weightOf_3 : decode cX0_weightOf 3 = .ok (.istore 4, 2) := by decide +kernel
theorem dX0_weightOf_5 : decode cX0_weightOf 5 = .ok (.iload 4, 2) := by decide +kernel
theorem dX0_weightOf_7 : decode cX0_weightOf 7 = .ok (.aload_n 1, 1) := by decide +kernel
theorem dX0_weightOf_8 : decode cX0_weightOf 8 = .ok (.getfield 28, 3) := by decide +kernel
theorem dX0_weightOf_11 : decode cX0_weightOf 11 = .ok (.getfield 34, 3) := by decide +kernel
theorem dX0_weightOf_14 : decode cX0_weightOf 14 = .ok (.if_icmp .ge 115, 3) := by decide +kernel
theorem dX0_weightOf_17 : decode cX0_weightOf 17 = .ok (.iconst 0, 1) := by decide +kernel
theorem dX0_weightOf_18 : decode cX0_weightOf 18 = .ok (.istore 5, 2) := by decide +kernel
theorem dX0_weightOf_20 : decode cX0_weightOf 20 = .ok (.iload 5, 2) := by decide +kernel
theorem dX0_weightOf_22 : decode cX0_weightOf 22 = .ok (.aload_n 1, 1) := by decide +kernel
theorem dX0_weightOf_23 : decode cX0_weightOf 23 = .ok (.getfield 50, 3) := by decide +kernel
theorem dX0_weightOf_26 : decode cX0_weightOf 26 = .ok (.iload 4, 2) := by decide +kernel
theorem dX0_weightOf_28 : decode cX0_weightOf 28 = .ok (.iaload, 1) := by decide +kernel
theorem dX0_weightOf_29 : decode cX0_weightOf 29 = .ok (.if_icmp .ge 94, 3) := by decide +kernel
theorem dX0_weightOf_32 : decode cX0_weightOf 32 = .ok (.aload_n 1, 1) := by decide +kernel
theorem dX0_weightOf_33 : decode cX0_weightOf 33 = .ok (.iload 4, 2) := by decide +kernel
theorem dX0_weightOf_35 : decode cX0_weightOf 35 = .ok (.iload 5, 2) := by decide +kernel
theorem dX0_weightOf_37 : decode cX0_weightOf 37 = .ok (.invokevirtual 86, 3) := by decide +kernel
theorem dX0_weightOf_40 : decode cX0_weightOf 40 = .ok (.istore 6, 2) := by decide +kernel
theorem dX0_weightOf_42 : decode cX0_weightOf 42 = .ok (.aload_n 0, 1) := by decide +kernel
theorem dX0_weightOf_43 : decode cX0_weightOf 43 = .ok (.iload 4, 2) := by decide +kernel
theorem dX0_weightOf_45 : decode cX0_weightOf 45 = .ok (.invokevirtual 78, 3) := by decide +kernel
theorem dX0_weightOf_48 : decode cX0_weightOf 48 = .ok (.ifCond .eq 18, 3) := by decide +kernel
theorem dX0_weightOf_51 : decode cX0_weightOf 51 = .ok (.aload_n 0, 1) := by decide +kernel
theorem dX0_weightOf_52 : decode cX0_weightOf 52 = .ok (.getfield 9, 3) := by decide +kernel
theorem dX0_weightOf_55 : decode cX0_weightOf 55 = .ok (.iload 6, 2) := by decide +kernel
theorem dX0_weightOf_57 : decode cX0_weightOf 57 = .ok (.iaload, 1) := by decide +kernel
theorem dX0_weightOf_58 : decode cX0_weightOf 58 = .ok (.iload_n 2, 1) := by decide +kernel
theorem dX0_weightOf_59 : decode cX0_weightOf 59 = .ok (.if_icmp .ne 7, 3) := by decide +kernel
theorem dX0_weightOf_62 : decode cX0_weightOf 62 = .ok (.iconst 1, 1) := by decide +kernel
theorem dX0_weightOf_63 : decode cX0_weightOf 63 = .ok (.goto 4, 3) := by decide +kernel
theorem dX0_weightOf_66 : decode cX0_weightOf 66 = .ok (.iconst 0, 1) := by decide +kernel
theorem dX0_weightOf_67 : decode cX0_weightOf 67 = .ok (.istore 7, 2) := by decide +kernel
theorem dX0_weightOf_69 : decode cX0_weightOf 69 = .ok (.aload_n 0, 1) := by decide +kernel
theorem dX0_weightOf_70 : decode cX0_weightOf 70 = .ok (.getfield 9, 3) := by decide +kernel
theorem dX0_weightOf_73 : decode cX0_weightOf 73 = .ok (.iload 4, 2) := by decide +kernel
theorem dX0_weightOf_75 : decode cX0_weightOf 75 = .ok (.iaload, 1) := by decide +kernel
theorem dX0_weightOf_76 : decode cX0_weightOf 76 = .ok (.iload_n 2, 1) := by decide +kernel
theorem dX0_weightOf_77 : decode cX0_weightOf 77 = .ok (.if_icmp .ne 16, 3) := by decide +kernel
theorem dX0_weightOf_80 : decode cX0_weightOf 80 = .ok (.aload_n 0, 1) := by decide +kernel
theorem dX0_weightOf_81 : decode cX0_weightOf 81 = .ok (.iload 6, 2) := by decide +kernel
theorem dX0_weightOf_83 : decode cX0_weightOf 83 = .ok (.invokevirtual 78, 3) := by decide +kernel
theorem dX0_weightOf_86 : decode cX0_weightOf 86 = .ok (.ifCond .eq 7, 3) := by decide +kernel
theorem dX0_weightOf_89 : decode cX0_weightOf 89 = .ok (.iconst 1, 1) := by decide +kernel
theorem dX0_weightOf_90 : decode cX0_weightOf 90 = .ok (.goto 4, 3) := by decide +kernel
theorem dX0_weightOf_93 : decode cX0_weightOf 93 = .ok (.iconst 0, 1) := by decide +kernel
theorem dX0_weightOf_94 : decode cX0_weightOf 94 = .ok (.istore 8, 2) := by decide +kernel
theorem dX0_weightOf_96 : decode cX0_weightOf 96 = .ok (.iload 7, 2) := by decide +kernel
theorem dX0_weightOf_98 : decode cX0_weightOf 98 = .ok (.ifCond .ne 8, 3) := by decide +kernel
theorem dX0_weightOf_101 : decode cX0_weightOf 101 = .ok (.iload 8, 2) := by decide +kernel
theorem dX0_weightOf_103 : decode cX0_weightOf 103 = .ok (.ifCond .eq 14, 3) := by decide +kernel
theorem dX0_weightOf_106 : decode cX0_weightOf 106 = .ok (.iload_n 3, 1) := by decide +kernel
theorem dX0_weightOf_107 : decode cX0_weightOf 107 = .ok (.aload_n 1, 1) := by decide +kernel
theorem dX0_weightOf_108 : decode cX0_weightOf 108 = .ok (.iload 4, 2) := by decide +kernel
theorem dX0_weightOf_110 : decode cX0_weightOf 110 = .ok (.iload 5, 2) := by decide +kernel
theorem dX0_weightOf_112 : decode cX0_weightOf 112 = .ok (.invokevirtual 53, 3) := by decide +kernel
theorem dX0_weightOf_115 : decode cX0_weightOf 115 = .ok (.iadd, 1) := by decide +kernel
theorem dX0_weightOf_116 : decode cX0_weightOf 116 = .ok (.istore_n 3, 1) := by decide +kernel
theorem dX0_weightOf_117 : decode cX0_weightOf 117 = .ok (.iinc 5 1, 3) := by decide +kernel
theorem dX0_weightOf_120 : decode cX0_weightOf 120 = .ok (.goto (-100), 3) := by decide +kernel
theorem dX0_weightOf_123 : decode cX0_weightOf 123 = .ok (.iinc 4 1, 3) := by decide +kernel
theorem dX0_weightOf_126 : decode cX0_weightOf 126 = .ok (.goto (-121), 3) := by decide +kernel
theorem dX0_weightOf_129 : decode cX0_weightOf 129 = .ok (.iload_n 3, 1) := by decide +kernel
theorem dX0_weightOf_130 : decode cX0_weightOf 130 = .ok (.ireturn, 1) := by decide +kernel
theorem dX0_isPlaced_0 : decode cX0_isPlaced 0 = .ok (.aload_n 0, 1) := by decide +kernel
theorem dX0_isPlaced_1 : decode cX0_isPlaced 1 = .ok (.getfield 25, 3) := by decide +kernel
theorem dX0_isPlaced_4 : decode cX0_isPlaced 4 = .ok (.iload_n 1, 1) := by decide +kernel
theorem dX0_isPlaced_5 : decode cX0_isPlaced 5 = .ok (.ishr, 1) := by decide +kernel
theorem dX0_isPlaced_6 : decode cX0_isPlaced 6 = .ok (.iconst 1, 1) := by decide +kernel
theorem dX0_isPlaced_7 : decode cX0_isPlaced 7 = .ok (.iand, 1) := by decide +kernel
theorem dX0_isPlaced_8 : decode cX0_isPlaced 8 = .ok (.ifCond .eq 7, 3) := by decide +kernel
theorem dX0_isPlaced_11 : decode cX0_isPlaced 11 = .ok (.iconst 1, 1) := by decide +kernel
theorem dX0_isPlaced_12 : decode cX0_isPlaced 12 = .ok (.goto 4, 3) := by decide +kernel
theorem dX0_isPlaced_15 : decode cX0_isPlaced 15 = .ok (.iconst 0, 1) := by decide +kernel
theorem dX0_isPlaced_16 : decode cX0_isPlaced 16 = .ok (.ireturn, 1) := by decide +kernel
theorem dX1_init_0 : decode cX1_init 0 = .ok (.aload_n 0, 1) := by decide +kernel
theorem dX1_init_1 : decode cX1_init 1 = .ok (.invokespecial 3, 3) := by decide +kernel
theorem dX1_init_4 : decode cX1_init 4 = .ok (.aload_n 0, 1) := by decide +kernel
theorem dX1_init_5 : decode cX1_init 5 = .ok (.iconst 1, 1) := by decide +kernel
theorem dX1_init_6 : decode cX1_init 6 = .ok (.putfield 9, 3) := by decide +kernel
theorem dX1_init_9 : decode cX1_init 9 = .ok (.aload_n 0, 1) := by decide +kernel
theorem dX1_init_10 : decode cX1_init 10 = .ok (.iconst 0, 1) := by decide +kernel
theorem dX1_init_11 : decode cX1_init 11 = .ok (.putfield 15, 3) := by decide +kernel
theorem dX1_init_14 : decode cX1_init 14 = .ok (.aload_n 0, 1) := by decide +kernel
theorem dX1_init_15 : decode cX1_init 15 = .ok (.bipush 8, 2) := by decide +kernel
theorem dX1_init_17 : decode cX1_init 17 = .ok (.newarray .int, 2) := by decide +kernel
theorem dX1_init_19 : decode cX1_init 19 = .ok (.putfield 18, 3) := by decide +kernel
theorem dX1_init_22 : decode cX1_init 22 = .ok (.return_, 1) := by decide +kernel
theorem dX1_copyFrom_0 : decode cX1_copyFrom 0 = .ok (.aload_n 0, 1) := by decide +kernel
theorem dX1_copyFrom_1 : decode cX1_copyFrom 1 = .ok (.aload_n 1, 1) := by decide +kernel
theorem dX1_copyFrom_2 : decode cX1_copyFrom 2 = .ok (.getfield 9, 3) := by decide +kernel
theorem dX1_copyFrom_5 : decode cX1_copyFrom 5 = .ok (.putfield 9, 3) := by decide +kernel
theorem dX1_copyFrom_8 : decode cX1_copyFrom 8 = .ok (.aload_n 0, 1) := by decide +kernel
theorem dX1_copyFrom_9 : decode cX1_copyFrom 9 = .ok (.aload_n 1, 1) := by decide +kernel
theorem dX1_copyFrom_10 : decode cX1_copyFrom 10 = .ok (.getfield 15, 3) := by decide +kernel
theorem dX1_copyFrom_13 : decode cX1_copyFrom 13 = .ok (.putfield 15, 3) := by decide +kernel
theorem dX1_copyFrom_16 : decode cX1_copyFrom 16 = .ok (.aload_n 1, 1) := by decide +kernel
theorem dX1_copyFrom_17 : decode cX1_copyFrom 17 = .ok (.getfield 18, 3) := by decide +kernel
theorem dX1_copyFrom_20 : decode cX1_copyFrom 20 = .ok (.iconst 0, 1) := by decide +kernel
theorem dX1_copyFrom_21 : decode cX1_copyFrom 21 = .ok (.aload_n 0, 1) := by decide +kernel
theorem dX1_copyFrom_22 : decode cX1_copyFrom 22 = .ok (.getfield 18, 3) := by decide +kernel
theorem dX1_copyFrom_25 : decode cX1_copyFrom 25 = .ok (.iconst 0, 1) := by decide +kernel
theorem dX1_copyFrom_26 : decode cX1_copyFrom 26 = .ok (.bipush 8, 2) := by decide +kernel
theorem dX1_copyFrom_28 : decode cX1_copyFrom 28 = .ok (.invokestatic 22, 3) := by decide +kernel
theorem dX1_copyFrom_31 : decode cX1_copyFrom 31 = .ok (.return_, 1) := by decide +kernel
theorem dX1_hasBlock_0 : decode cX1_hasBlock 0 = .ok (.iload_n 1, 1) := by decide +kernel
theorem dX1_hasBlock_1 : decode cX1_hasBlock 1 = .ok (.ifCond .lt 15, 3) := by decide +kernel
theorem dX1_hasBlock_4 : decode cX1_hasBlock 4 = .ok (.iload_n 1, 1) := by decide +kernel
theorem dX1_hasBlock_5 : decode cX1_hasBlock 5 = .ok (.aload_n 0, 1) := by decide +kernel
theorem dX1_hasBlock_6 : decode cX1_hasBlock 6 = .ok (.getfield 9, 3) := by decide +kernel
theorem dX1_hasBlock_9 : decode cX1_hasBlock 9 = .ok (.if_icmp .ge 7, 3) := by decide +kernel
theorem dX1_hasBlock_12 : decode cX1_hasBlock 12 = .ok (.iconst 1, 1) := by decide +kernel
theorem dX1_hasBlock_13 : decode cX1_hasBlock 13 = .ok (.goto 4, 3) := by decide +kernel
theorem dX1_hasBlock_16 : decode cX1_hasBlock 16 = .ok (.iconst 0, 1) := by decide +kernel
theorem dX1_hasBlock_17 : decode cX1_hasBlock 17 = .ok (.ireturn, 1) := by decide +kernel
theorem dX1_hasPosition_0 : decode cX1_hasPosition 0 = .ok (.iload_n 1, 1) := by decide +kernel
theorem dX1_hasPosition_1 : decode cX1_hasPosition 1 = .ok (.ifCond .lt 15, 3) := by decide +kernel
theorem dX1_hasPosition_4 : decode cX1_hasPosition 4 = .ok (.iload_n 1, 1) := by decide +kernel
theorem dX1_hasPosition_5 : decode cX1_hasPosition 5 = .ok (.aload_n 0, 1) := by decide +kernel
theorem dX1_hasPosition_6 : decode cX1_hasPosition 6 = .ok (.getfield 9, 3) := by decide +kernel
theorem dX1_hasPosition_9 : decode cX1_hasPosition 9 = .ok (.if_icmp .ge 7, 3) := by decide +kernel
theorem dX1_hasPosition_12 : decode cX1_hasPosition 12 = .ok (.iconst 1, 1) := by decide +kernel
theorem dX1_hasPosition_13 : decode cX1_hasPosition 13 = .ok (.goto 4, 3) := by decide +kernel
theorem dX1_hasPosition_16 : decode cX1_hasPosition 16 = .ok (.iconst 0, 1) := by decide +kernel
theorem dX1_hasPosition_17 : decode cX1_hasPosition 17 = .ok (.ireturn, 1) := by decide +kernel
theorem dX2_init_0 : decode cX2_init 0 = .ok (.aload_n 0, 1) := by decide +kernel
theorem dX2_init_1 : decode cX2_init 1 = .ok (.invokespecial 3, 3) := by decide +kernel
theorem dX2_init_4 : decode cX2_init 4 = .ok (.aload_n 0, 1) := by decide +kernel
theorem dX2_init_5 : decode cX2_init 5 = .ok (.bipush 14, 2) := by decide +kernel
theorem dX2_init_7 : decode cX2_init 7 = .ok (.anewarray 9, 3) := by decide +kernel
theorem dX2_init_10 : decode cX2_init 10 = .ok (.putfield 11, 3) := by decide +kernel
theorem dX2_init_13 : decode cX2_init 13 = .ok (.aload_n 0, 1) := by decide +kernel
theorem dX2_init_14 : decode cX2_init 14 = .ok (.iconst 0, 1) := by decide +kernel
theorem dX2_init_15 : decode cX2_init 15 = .ok (.putfield 17, 3) := by decide +kernel
theorem dX2_init_18 : decode cX2_init 18 = .ok (.aload_n 0, 1) := by decide +kernel
theorem dX2_init_19 : decode cX2_init 19 = .ok (.iconst 0, 1) := by decide +kernel
theorem dX2_init_20 : decode cX2_init 20 = .ok (.putfield 21, 3) := by decide +kernel
theorem dX2_init_23 : decode cX2_init 23 = .ok (.iconst 0, 1) := by decide +kernel
theorem dX2_init_24 : decode cX2_init 24 = .ok (.istore_n 2, 1) := by decide +kernel
theorem dX2_init_25 : decode cX2_init 25 = .ok (.iload_n 2, 1) := by decide +kernel
theorem dX2_init_26 : decode cX2_init 26 = .ok (.bipush 14, 2) := by decide +kernel
theorem dX2_init_28 : decode cX2_init 28 = .ok (.if_icmp .ge 23, 3) := by decide +kernel
theorem dX2_init_31 : decode cX2_init 31 = .ok (.aload_n 0, 1) := by decide +kernel
theorem dX2_init_32 : decode cX2_init 32 = .ok (.getfield 11, 3) := by decide +kernel
theorem dX2_init_35 : decode cX2_init 35 = .ok (.iload_n 2, 1) := by decide +kernel
theorem dX2_init_36 : decode cX2_init 36 = .ok (.new 9, 3) := by decide +kernel
theorem dX2_init_39 : decode cX2_init 39 = .ok (.dup, 1) := by decide +kernel
theorem dX2_init_40 : decode cX2_init 40 = .ok (.aload_n 1, 1) := by decide +kernel
theorem dX2_init_41 : decode cX2_init 41 = .ok (.invokespecial 24, 3) := by decide +kernel
theorem dX2_init_44 : decode cX2_init 44 = .ok (.aastore, 1) := by decide +kernel
theorem dX2_init_45 : decode cX2_init 45 = .ok (.iinc 2 1, 3) := by decide +kernel
theorem dX2_init_48 : decode cX2_init 48 = .ok (.goto (-23), 3) := by decide +kernel
theorem dX2_init_51 : decode cX2_init 51 = .ok (.return_, 1) := by decide +kernel
theorem dX2_forget_0 : decode cX2_forget 0 = .ok (.aload_n 0, 1) := by decide +kernel
theorem dX2_forget_1 : decode cX2_forget 1 = .ok (.iconst 0, 1) := by decide +kernel
theorem dX2_forget_2 : decode cX2_forget 2 = .ok (.putfield 21, 3) := by decide +kernel
theorem dX2_forget_5 : decode cX2_forget 5 = .ok (.return_, 1) := by decide +kernel
theorem dX2_remember_0 : decode cX2_remember 0 = .ok (.aload_n 0, 1) := by decide +kernel
theorem dX2_remember_1 : decode cX2_remember 1 = .ok (.getfield 21, 3) := by decide +kernel
theorem dX2_remember_4 : decode cX2_remember 4 = .ok (.bipush 14, 2) := by decide +kernel
theorem dX2_remember_6 : decode cX2_remember 6 = .ok (.if_icmp .ne 26, 3) := by decide +kernel
theorem dX2_remember_9 : decode cX2_remember 9 = .ok (.aload_n 0, 1) := by decide +kernel
theorem dX2_remember_10 : decode cX2_remember 10 = .ok (.aload_n 0, 1) := by decide +kernel
theorem dX2_remember_11 : decode cX2_remember 11 = .ok (.getfield 17, 3) := by decide +kernel
theorem dX2_remember_14 : decode cX2_remember 14 = .ok (.iconst 1, 1) := by decide +kernel
theorem dX2_remember_15 : decode cX2_remember 15 = .ok (.iadd, 1) := by decide +kernel
theorem dX2_remember_16 : decode cX2_remember 16 = .ok (.bipush 14, 2) := by decide +kernel
theorem dX2_remember_18 : decode cX2_remember 18 = .ok (.irem, 1) := by decide +kernel
theorem dX2_remember_19 : decode cX2_remember 19 = .ok (.putfield 17, 3) := by decide +kernel
theorem dX2_remember_22 : decode cX2_remember 22 = .ok (.aload_n 0, 1) := by decide +kernel
theorem dX2_remember_23 : decode cX2_remember 23 = .ok (.dup, 1) := by decide +kernel
theorem dX2_remember_24 : decode cX2_remember 24 = .ok (.getfield 21, 3) := by decide +kernel
theorem dX2_remember_27 : decode cX2_remember 27 = .ok (.iconst 1, 1) := by decide +kernel
theorem dX2_remember_28 : decode cX2_remember 28 = .ok (.isub, 1) := by decide +kernel
theorem dX2_remember_29 : decode cX2_remember 29 = .ok (.putfield 21, 3) := by decide +kernel
theorem dX2_remember_32 : decode cX2_remember 32 = .ok (.aload_n 0, 1) := by decide +kernel
theorem dX2_remember_33 : decode cX2_remember 33 = .ok (.getfield 11, 3) := by decide +kernel
theorem dX2_remember_36 : decode cX2_remember 36 = .ok (.aload_n 0, 1) := by decide +kernel
theorem dX2_remember_37 : decode cX2_remember 37 = .ok (.getfield 17, 3) := by decide +kernel
theorem dX2_remember_40 : decode cX2_remember 40 = .ok (.aload_n 0, 1) := by decide +kernel
theorem dX2_remember_41 : decode cX2_remember 41 = .ok (.getfield 21, 3) := by decide +kernel
theorem dX2_remember_44 : decode cX2_remember 44 = .ok (.iadd, 1) := by decide +kernel
theorem dX2_remember_45 : decode cX2_remember 45 = .ok (.bipush 14, 2) := by decide +kernel
theorem dX2_remember_47 : decode cX2_remember 47 = .ok (.irem, 1) := by decide +kernel
theorem dX2_remember_48 : decode cX2_remember 48 = .ok (.aaload, 1) := by decide +kernel
theorem dX2_remember_49 : decode cX2_remember 49 = .ok (.aload_n 1, 1) := by decide +kernel
theorem dX2_remember_50 : decode cX2_remember 50 = .ok (.invokevirtual 27, 3) := by decide +kernel
theorem dX2_remember_53 : decode cX2_remember 53 = .ok (.aload_n 0, 1) := by decide +kernel
theorem dX2_remember_54 : decode cX2_remember 54 = .ok (.dup, 1) := by decide +kernel
theorem dX2_remember_55 : decode cX2_remember 55 = .ok (.getfield 21, 3) := by decide +kernel
theorem dX2_remember_58 : decode cX2_remember 58 = .ok (.iconst 1, 1) := by decide +kernel
theorem dX2_remember_59 : decode cX2_remember 59 = .ok (.iadd, 1) := by decide +kernel
theorem dX2_remember_60 : decode cX2_remember 60 = .ok (.putfield 21, 3) := by decide +kernel
theorem dX2_remember_63 : decode cX2_remember 63 = .ok (.return_, 1) := by decide +kernel
theorem dX2_takeBack_0 : decode cX2_takeBack 0 = .ok (.aload_n 0, 1) := by decide +kernel
theorem dX2_takeBack_1 : decode cX2_takeBack 1 = .ok (.getfield 21, 3) := by decide +kernel
theorem dX2_takeBack_4 : decode cX2_takeBack 4 = .ok (.ifCond .ne 6, 3) := by decide +kernel
theorem dX2_takeBack_7 : decode cX2_takeBack 7 = .ok (.bipush (-3), 2) := by decide +kernel
theorem dX2_takeBack_9 : decode cX2_takeBack 9 = .ok (.ireturn, 1) := by decide +kernel
theorem dX2_takeBack_10 : decode cX2_takeBack 10 = .ok (.aload_n 0, 1) := by decide +kernel
theorem dX2_takeBack_11 : decode cX2_takeBack 11 = .ok (.dup, 1) := by decide +kernel
theorem dX2_takeBack_12 : decode cX2_takeBack 12 = .ok (.getfield 21, 3) := by decide +kernel
theorem dX2_takeBack_15 : decode cX2_takeBack 15 = .ok (.iconst 1, 1) := by decide +kernel
theorem dX2_takeBack_16 : decode cX2_takeBack 16 = .ok (.isub, 1) := by decide +kernel
theorem dX2_takeBack_17 : decode cX2_takeBack 17 = .ok (.putfield 21, 3) := by decide +kernel
theorem dX2_takeBack_20 : decode cX2_takeBack 20 = .ok (.aload_n 1, 1) := by decide +kernel
theorem dX2_takeBack_21 : decode cX2_takeBack 21 = .ok (.aload_n 0, 1) := by decide +kernel
theorem dX2_takeBack_22 : decode cX2_takeBack 22 = .ok (.getfield 11, 3) := by decide +kernel
theorem dX2_takeBack_25 : decode cX2_takeBack 25 = .ok (.aload_n 0, 1) := by decide +kernel
theorem dX2_takeBack_26 : decode cX2_takeBack 26 = .ok (.getfield 17, 3) := by decide +kernel
theorem dX2_takeBack_29 : decode cX2_takeBack 29 = .ok (.aload_n 0, 1) := by decide +kernel
theorem dX2_takeBack_30 : decode cX2_takeBack 30 = .ok (.getfield 21, 3) := by decide +kernel
theorem dX2_takeBack_33 : decode cX2_takeBack 33 = .ok (.iadd, 1) := by decide +kernel
theorem dX2_takeBack_34 : decode cX2_takeBack 34 = .ok (.bipush 14, 2) := by decide +kernel
theorem dX2_takeBack_36 : decode cX2_takeBack 36 = .ok (.irem, 1) := by decide +kernel
theorem dX2_takeBack_37 : decode cX2_takeBack 37 = .ok (.aaload, 1) := by decide +kernel
theorem dX2_takeBack_38 : decode cX2_takeBack 38 = .ok (.invokevirtual 27, 3) := by decide +kernel
theorem dX2_takeBack_41 : decode cX2_takeBack 41 = .ok (.aload_n 0, 1) := by decide +kernel
theorem dX2_takeBack_42 : decode cX2_takeBack 42 = .ok (.getfield 21, 3) := by decide +kernel
theorem dX2_takeBack_45 : decode cX2_takeBack 45 = .ok (.ireturn, 1) := by decide +kernel
theorem dX3_init_0 : decode cX3_init 0 = .ok (.aload_n 0, 1) := by decide +kernel
theorem dX3_init_1 : decode cX3_init 1 = .ok (.invokespecial 3, 3) := by decide +kernel
theorem dX3_init_4 : decode cX3_init 4 = .ok (.aload_n 0, 1) := by decide +kernel
theorem dX3_init_5 : decode cX3_init 5 = .ok (.sipush 2048, 3) := by decide +kernel
theorem dX3_init_8 : decode cX3_init 8 = .ok (.newarray .int, 2) := by decide +kernel
theorem dX3_init_10 : decode cX3_init 10 = .ok (.putfield 11, 3) := by decide +kernel
theorem dX3_init_13 : decode cX3_init 13 = .ok (.aload_n 0, 1) := by decide +kernel
theorem dX3_init_14 : decode cX3_init 14 = .ok (.bipush 72, 2) := by decide +kernel
theorem dX3_init_16 : decode cX3_init 16 = .ok (.newarray .int, 2) := by decide +kernel
theorem dX3_init_18 : decode cX3_init 18 = .ok (.putfield 15, 3) := by decide +kernel
theorem dX3_init_21 : decode cX3_init 21 = .ok (.aload_n 0, 1) := by decide +kernel
theorem dX3_init_22 : decode cX3_init 22 = .ok (.iconst 0, 1) := by decide +kernel
theorem dX3_init_23 : decode cX3_init 23 = .ok (.putfield 18, 3) := by decide +kernel
theorem dX3_init_26 : decode cX3_init 26 = .ok (.return_, 1) := by decide +kernel
theorem dX3_leastCost_0 : decode cX3_leastCost 0 = .ok (.aload_n 0, 1) := by decide +kernel
theorem dX3_leastCost_1 : decode cX3_leastCost 1 = .ok (.aload_n 1, 1) := by decide +kernel
theorem dX3_leastCost_2 : decode cX3_leastCost 2 = .ok (.invokevirtual 22, 3) := by decide +kernel
theorem dX3_leastCost_5 : decode cX3_leastCost 5 = .ok (.aload_n 0, 1) := by decide +kernel
theorem dX3_leastCost_6 : decode cX3_leastCost 6 = .ok (.aload_n 1, 1) := by decide +kernel
theorem dX3_leastCost_7 : decode cX3_leastCost 7 = .ok (.invokevirtual 26, 3) := by decide +kernel
theorem dX3_leastCost_10 : decode cX3_leastCost 10 = .ok (.iconst 0, 1) := by decide +kernel
theorem dX3_leastCost_11 : decode cX3_leastCost 11 = .ok (.istore_n 2, 1) := by decide +kernel
theorem dX3_leastCost_12 : decode cX3_leastCost 12 = .ok (.iload_n 2, 1) := by decide +kernel
theorem dX3_leastCost_13 : decode cX3_leastCost 13 = .ok (.aload_n 0, 1) := by decide +kernel
theorem dX3_leastCost_14 : decode cX3_leastCost 14 = .ok (.getfield 18, 3) := by decide +kernel
theorem dX3_leastCost_17 : decode cX3_leastCost 17 = .ok (.if_icmp .gt 26, 3) := by decide +kernel
theorem dX3_leastCost_20 : decode cX3_leastCost 20 = .ok (.iload_n 2, 1) := by decide +kernel
theorem dX3_leastCost_21 : decode cX3_leastCost 21 = .ok (.aload_n 0, 1) := by decide +kernel
theorem dX3_leastCost_22 : decode cX3_leastCost 22 = .ok (.getfield 18, 3) := by decide +kernel
theorem dX3_leastCost_25 : decode cX3_leastCost 25 = .ok (.iconst (-1), 1) := by decide +kernel
theorem dX3_leastCost_26 : decode cX3_leastCost 26 = .ok (.ixor, 1) := by decide +kernel
theorem dX3_leastCost_27 : decode cX3_leastCost 27 = .ok (.iand, 1) := by decide +kernel
theorem dX3_leastCost_28 : decode cX3_leastCost 28 = .ok (.ifCond .ne 9, 3) := by decide +kernel
theorem dX3_leastCost_31 : decode cX3_leastCost 31 = .ok (.aload_n 0, 1) := by decide +kernel
theorem dX3_leastCost_32 : decode cX3_leastCost 32 = .ok (.aload_n 1, 1) := by decide +kernel
theorem dX3_leastCost_33 : decode cX3_leastCost 33 = .ok (.iload_n 2, 1) := by decide +kernel
theorem dX3_leastCost_34 : decode cX3_leastCost 34 = .ok (.invokevirtual 29, 3) := by decide +kernel
theorem dX3_leastCost_37 : decode cX3_leastCost 37 = .ok (.iinc 2 1, 3) := by decide +kernel
theorem dX3_leastCost_40 : decode cX3_leastCost 40 = .ok (.goto (-28), 3) := by decide +kernel
theorem dX3_leastCost_43 : decode cX3_leastCost 43 = .ok (.aload_n 0, 1) := by decide +kernel
theorem dX3_leastCost_44 : decode cX3_leastCost 44 = .ok (.getfield 11, 3) := by decide +kernel
theorem dX3_leastCost_47 : decode cX3_leastCost 47 = .ok (.aload_n 0, 1) := by decide +kernel
theorem dX3_leastCost_48 : decode cX3_leastCost 48 = .ok (.getfield 18, 3) := by decide +kernel
theorem dX3_leastCost_51 : decode cX3_leastCost 51 = .ok (.bipush 8, 2) := by decide +kernel
theorem dX3_leastCost_53 : decode cX3_leastCost 53 = .ok (.imul, 1) := by decide +kernel
theorem dX3_leastCost_54 : decode cX3_leastCost 54 = .ok (.iaload, 1) := by decide +kernel
theorem dX3_leastCost_55 : decode cX3_leastCost 55 = .ok (.aload_n 1, 1) := by decide +kernel
theorem dX3_leastCost_56 : decode cX3_leastCost 56 = .ok (.invokestatic 33, 3) := by decide +kernel
theorem dX3_leastCost_59 : decode cX3_leastCost 59 = .ok (.iadd, 1) := by decide +kernel
theorem dX3_leastCost_60 : decode cX3_leastCost 60 = .ok (.ireturn, 1) := by decide +kernel
theorem dX3_coldCost_0 : decode cX3_coldCost 0 = .ok (.iconst 0, 1) := by decide +kernel
theorem dX3_coldCost_1 : decode cX3_coldCost 1 = .ok (.istore_n 1, 1) := by decide +kernel
theorem dX3_coldCost_2 : decode cX3_coldCost 2 = .ok (.aload_n 0, 1) := by decide +kernel
theorem dX3_coldCost_3 : decode cX3_coldCost 3 = .ok (.getfield 37, 3) := by decide +kernel
theorem dX3_coldCost_6 : decode cX3_coldCost 6 = .ok (.istore_n 2, 1) := by decide +kernel
theorem dX3_coldCost_7 : decode cX3_coldCost 7 = .ok (.iload_n 2, 1) := by decide +kernel
theorem dX3_coldCost_8 : decode cX3_coldCost 8 = .ok (.aload_n 0, 1) := by decide +kernel
theorem dX3_coldCost_9 : decode cX3_coldCost 9 = .ok (.getfield 42, 3) := by decide +kernel
theorem dX3_coldCost_12 : decode cX3_coldCost 12 = .ok (.getfield 46, 3) := by decide +kernel
theorem dX3_coldCost_15 : decode cX3_coldCost 15 = .ok (.if_icmp .ge 27, 3) := by decide +kernel
theorem dX3_coldCost_18 : decode cX3_coldCost 18 = .ok (.iload_n 1, 1) := by decide +kernel
theorem dX3_coldCost_19 : decode cX3_coldCost 19 = .ok (.aload_n 0, 1) := by decide +kernel
theorem dX3_coldCost_20 : decode cX3_coldCost 20 = .ok (.aload_n 0, 1) := by decide +kernel
theorem dX3_coldCost_21 : decode cX3_coldCost 21 = .ok (.getfield 51, 3) := by decide +kernel
theorem dX3_coldCost_24 : decode cX3_coldCost 24 = .ok (.iload_n 2, 1) := by decide +kernel
theorem dX3_coldCost_25 : decode cX3_coldCost 25 = .ok (.iaload, 1) := by decide +kernel
theorem dX3_coldCost_26 : decode cX3_coldCost 26 = .ok (.aload_n 0, 1) := by decide +kernel
theorem dX3_coldCost_27 : decode cX3_coldCost 27 = .ok (.iload_n 2, 1) := by decide +kernel
theorem dX3_coldCost_28 : decode cX3_coldCost 28 = .ok (.invokevirtual 54, 3) := by decide +kernel
theorem dX3_coldCost_31 : decode cX3_coldCost 31 = .ok (.invokevirtual 58, 3) := by decide +kernel
theorem dX3_coldCost_34 : decode cX3_coldCost 34 = .ok (.iadd, 1) := by decide +kernel
theorem dX3_coldCost_35 : decode cX3_coldCost 35 = .ok (.istore_n 1, 1) := by decide +kernel
theorem dX3_coldCost_36 : decode cX3_coldCost 36 = .ok (.iinc 2 1, 3) := by decide +kernel
theorem dX3_coldCost_39 : decode cX3_coldCost 39 = .ok (.goto (-32), 3) := by decide +kernel
theorem dX3_coldCost_42 : decode cX3_coldCost 42 = .ok (.iload_n 1, 1) := by decide +kernel
theorem dX3_coldCost_43 : decode cX3_coldCost 43 = .ok (.ireturn, 1) := by decide +kernel
theorem dX3_arrange_0 : decode cX3_arrange 0 = .ok (.aload_n 0, 1) := by decide +kernel
theorem dX3_arrange_1 : decode cX3_arrange 1 = .ok (.aload_n 1, 1) := by decide +kernel
theorem dX3_arrange_2 : decode cX3_arrange 2 = .ok (.invokevirtual 62, 3) := by decide +kernel
theorem dX3_arrange_5 : decode cX3_arrange 5 = .ok (.pop, 1) := by decide +kernel
theorem dX3_arrange_6 : decode cX3_arrange 6 = .ok (.aload_n 0, 1) := by decide +kernel
theorem dX3_arrange_7 : decode cX3_arrange 7 = .ok (.getfield 18, 3) := by decide +kernel
theorem dX3_arrange_10 : decode cX3_arrange 10 = .ok (.istore_n 2, 1) := by decide +kernel
theorem dX3_arrange_11 : decode cX3_arrange 11 = .ok (.iconst 0, 1) := by decide +kernel
theorem dX3_arrange_12 : decode cX3_arrange 12 = .ok (.istore_n 3, 1) := by decide +kernel
theorem dX3_arrange_13 : decode cX3_arrange 13 = .ok (.iconst 1, 1) := by decide +kernel
theorem dX3_arrange_14 : decode cX3_arrange 14 = .ok (.istore 4, 2) := by decide +kernel
theorem dX3_arrange_16 : decode cX3_arrange 16 = .ok (.iload 4, 2) := by decide +kernel
theorem dX3_arrange_18 : decode cX3_arrange 18 = .ok (.aload_n 1, 1) := by decide +kernel
theorem dX3_arrange_19 : decode cX3_arrange 19 = .ok (.getfield 37, 3) := by decide +kernel
theorem dX3_arrange_22 : decode cX3_arrange 22 = .ok (.if_icmp .ge 39, 3) := by decide +kernel
theorem dX3_arrange_25 : decode cX3_arrange 25 = .ok (.aload_n 0, 1) := by decide +kernel
theorem dX3_arrange_26 : decode cX3_arrange 26 = .ok (.aload_n 1, 1) := by decide +kernel
theorem dX3_arrange_27 : decode cX3_arrange 27 = .ok (.iload_n 2, 1) := by decide +kernel
theorem dX3_arrange_28 : decode cX3_arrange 28 = .ok (.iload_n 3, 1) := by decide +kernel
theorem dX3_arrange_29 : decode cX3_arrange 29 = .ok (.invokevirtual 65, 3) := by decide +kernel
theorem dX3_arrange_32 : decode cX3_arrange 32 = .ok (.istore 5, 2) := by decide +kernel
theorem dX3_arrange_34 : decode cX3_arrange 34 = .ok (.aload_n 1, 1) := by decide +kernel
theorem dX3_arrange_35 : decode cX3_arrange 35 = .ok (.getfield 51, 3) := by decide +kernel
theorem dX3_arrange_38 : decode cX3_arrange 38 = .ok (.iload 4, 2) := by decide +kernel
theorem dX3_arrange_40 : decode cX3_arrange 40 = .ok (.iload 5, 2) := by decide +kernel
theorem dX3_arrange_42 : decode cX3_arrange 42 = .ok (.iastore, 1) := by decide +kernel
theorem dX3_arrange_43 : decode cX3_arrange 43 = .ok (.iload_n 2, 1) := by decide +kernel
theorem dX3_arrange_44 : decode cX3_arrange 44 = .ok (.iconst 1, 1) := by decide +kernel
theorem dX3_arrange_45 : decode cX3_arrange 45 = .ok (.iload 5, 2) := by decide +kernel
theorem dX3_arrange_47 : decode cX3_arrange 47 = .ok (.ishl, 1) := by decide +kernel
theorem dX3_arrange_48 : decode cX3_arrange 48 = .ok (.iconst (-1), 1) := by decide +kernel
theorem dX3_arrange_49 : decode cX3_arrange 49 = .ok (.ixor, 1) := by decide +kernel
theorem dX3_arrange_50 : decode cX3_arrange 50 = .ok (.iand, 1) := by decide +kernel
theorem dX3_arrange_51 : decode cX3_arrange 51 = .ok (.istore_n 2, 1) := by decide +kernel
theorem dX3_arrange_52 : decode cX3_arrange 52 = .ok (.iload 5, 2) := by decide +kernel
theorem dX3_arrange_54 : decode cX3_arrange 54 = .ok (.istore_n 3, 1) := by decide +kernel
theorem dX3_arrange_55 : decode cX3_arrange 55 = .ok (.iinc 4 1, 3) := by decide +kernel
theorem dX3_arrange_58 : decode cX3_arrange 58 = .ok (.goto (-42), 3) := by decide +kernel
theorem dX3_arrange_61 : decode cX3_arrange 61 = .ok (.return_, 1) := by decide +kernel
theorem dX3_fillShares_0 : decode cX3_fillShares 0 = .ok (.iconst 0, 1) := by decide +kernel
theorem dX3_fillShares_1 : decode cX3_fillShares 1 = .ok (.istore_n 2, 1) := by decide +kernel
theorem dX3_fillShares_2 : decode cX3_fillShares 2 = .ok (.iload_n 2, 1) := by decide +kernel
theorem dX3_fillShares_3 : decode cX3_fillShares 3 = .ok (.aload_n 1, 1) := by decide +kernel
theorem dX3_fillShares_4 : decode cX3_fillShares 4 = .ok (.getfield 42, 3) := by decide +kernel
theorem dX3_fillShares_7 : decode cX3_fillShares 7 = .ok (.getfield 46, 3) := by decide +kernel
theorem dX3_fillShares_10 : decode cX3_fillShares 10 = .ok (.if_icmp .ge 66, 3) := by decide +kernel
theorem dX3_fillShares_13 : decode cX3_fillShares 13 = .ok (.iload_n 2, 1) := by decide +kernel
theorem dX3_fillShares_14 : decode cX3_fillShares 14 = .ok (.bipush 9, 2) := by decide +kernel
theorem dX3_fillShares_16 : decode cX3_fillShares 16 = .ok (.imul, 1) := by decide +kernel
theorem dX3_fillShares_17 : decode cX3_fillShares 17 = .ok (.istore_n 3, 1) := by decide +kernel
theorem dX3_fillShares_18 : decode cX3_fillShares 18 = .ok (.iconst 0, 1) := by decide +kernel
theorem dX3_fillShares_19 : decode cX3_fillShares 19 = .ok (.istore 4, 2) := by decide +kernel
theorem dX3_fillShares_21 : decode cX3_fillShares 21 = .ok (.iload 4, 2) := by decide +kernel
theorem dX3_fillShares_23 : decode cX3_fillShares 23 = .ok (.aload_n 1, 1) := by decide +kernel
theorem dX3_fillShares_24 : decode cX3_fillShares 24 = .ok (.getfield 42, 3) := by decide +kernel
theorem dX3_fillShares_27 : decode cX3_fillShares 27 = .ok (.getfield 46, 3) := by decide +kernel
theorem dX3_fillShares_30 : decode cX3_fillShares 30 = .ok (.if_icmp .ge 25, 3) := by decide +kernel
theorem dX3_fillShares_33 : decode cX3_fillShares 33 = .ok (.aload_n 0, 1) := by decide +kernel
theorem dX3_fillShares_34 : decode cX3_fillShares 34 = .ok (.getfield 15, 3) := by decide +kernel
theorem dX3_fillShares_37 : decode cX3_fillShares 37 = .ok (.iload_n 3, 1) := by decide +kernel
theorem dX3_fillShares_38 : decode cX3_fillShares 38 = .ok (.iload 4, 2) := by decide +kernel
theorem dX3_fillShares_40 : decode cX3_fillShares 40 = .ok (.iadd, 1) := by decide +kernel
theorem dX3_fillShares_41 : decode cX3_fillShares 41 = .ok (.aload_n 1, 1) := by decide +kernel
theorem dX3_fillShares_42 : decode cX3_fillShares 42 = .ok (.iload_n 2, 1) := by decide +kernel
theorem dX3_fillShares_43 : decode cX3_fillShares 43 = .ok (.iload 4, 2) := by decide +kernel
theorem dX3_fillShares_45 : decode cX3_fillShares 45 = .ok (.invokevirtual 58, 3) := by decide +kernel
theorem dX3_fillShares_48 : decode cX3_fillShares 48 = .ok (.iastore, 1) := by decide +kernel
theorem dX3_fillShares_49 : decode cX3_fillShares 49 = .ok (.iinc 4 1, 3) := by decide +kernel
theorem dX3_fillShares_52 : decode cX3_fillShares 52 = .ok (.goto (-31), 3) := by decide +kernel
theorem dX3_fillShares_55 : decode cX3_fillShares 55 = .ok (.aload_n 0, 1) := by decide +kernel
theorem dX3_fillShares_56 : decode cX3_fillShares 56 = .ok (.getfield 15, 3) := by decide +kernel
theorem dX3_fillShares_59 : decode cX3_fillShares 59 = .ok (.iload_n 3, 1) := by decide +kernel
theorem dX3_fillShares_60 : decode cX3_fillShares 60 = .ok (.bipush 8, 2) := by decide +kernel
theorem dX3_fillShares_62 : decode cX3_fillShares 62 = .ok (.iadd, 1) := by decide +kernel
theorem dX3_fillShares_63 : decode cX3_fillShares 63 = .ok (.aload_n 1, 1) := by decide +kernel
theorem dX3_fillShares_64 : decode cX3_fillShares 64 = .ok (.iload_n 2, 1) := by decide +kernel
theorem dX3_fillShares_65 : decode cX3_fillShares 65 = .ok (.iconst (-1), 1) := by decide +kernel
theorem dX3_fillShares_66 : decode cX3_fillShares 66 = .ok (.invokevirtual 58, 3) := by decide +kernel
theorem dX3_fillShares_69 : decode cX3_fillShares 69 = .ok (.iastore, 1) := by decide +kernel
theorem dX3_fillShares_70 : decode cX3_fillShares 70 = .ok (.iinc 2 1, 3) := by decide +kernel
theorem dX3_fillShares_73 : decode cX3_fillShares 73 = .ok (.goto (-71), 3) := by decide +kernel
theorem dX3_fillShares_76 : decode cX3_fillShares 76 = .ok (.return_, 1) := by decide +kernel
theorem dX3_collectFreeBlocks_0 : decode cX3_collectFreeBlocks 0 = .ok (.aload_n 0, 1) := by decide +kernel
theorem dX3_collectFreeBlocks_1 : decode cX3_collectFreeBlocks 1 = .ok (.iconst 0, 1) := by decide +kernel
theorem dX3_collectFreeBlocks_2 : decode cX3_collectFreeBlocks 2 = .ok (.putfield 18, 3) := by decide +kernel
theorem dX3_collectFreeBlocks_5 : decode cX3_collectFreeBlocks 5 = .ok (.iconst 1, 1) := by decide +kernel
theorem dX3_collectFreeBlocks_6 : decode cX3_collectFreeBlocks 6 = .ok (.istore_n 2, 1) := by decide +kernel
theorem dX3_collectFreeBlocks_7 : decode cX3_collectFreeBlocks 7 = .ok (.iload_n 2, 1) := by decide +kernel
theorem dX3_collectFreeBlocks_8 : decode cX3_collectFreeBlocks 8 = .ok (.aload_n 1, 1) := by decide +kernel
theorem dX3_collectFreeBlocks_9 : decode cX3_collectFreeBlocks 9 = .ok (.getfield 37, 3) := by decide +kernel
theorem dX3_collectFreeBlocks_12 : decode cX3_collectFreeBlocks 12 = .ok (.if_icmp .ge 26, 3) := by decide +kernel
theorem dX3_collectFreeBlocks_15 : decode cX3_collectFreeBlocks 15 = .ok (.aload_n 0, 1) := by decide +kernel
theorem dX3_collectFreeBlocks_16 : decode cX3_collectFreeBlocks 16 = .ok (.dup, 1) := by decide +kernel
theorem dX3_collectFreeBlocks_17 : decode cX3_collectFreeBlocks 17 = .ok (.getfield 18, 3) := by decide +kernel
theorem dX3_collectFreeBlocks_20 : decode cX3_collectFreeBlocks 20 = .ok (.iconst 1, 1) := by decide +kernel
theorem dX3_collectFreeBlocks_21 : decode cX3_collectFreeBlocks 21 = .ok (.aload_n 1, 1) := by decide +kernel
theorem dX3_collectFreeBlocks_22 : decode cX3_collectFreeBlocks 22 = .ok (.getfield 51, 3) := by decide +kernel
theorem dX3_collectFreeBlocks_25 : decode cX3_collectFreeBlocks 25 = .ok (.iload_n 2, 1) := by decide +kernel
theorem dX3_collectFreeBlocks_26 : decode cX3_collectFreeBlocks 26 = .ok (.iaload, 1) := by decide +kernel
theorem dX3_collectFreeBlocks_27 : decode cX3_collectFreeBlocks 27 = .ok (.ishl, 1) := by decide +kernel
theorem dX3_collectFreeBlocks_28 : decode cX3_collectFreeBlocks 28 = .ok (.ior, 1) := by decide +kernel
theorem dX3_collectFreeBlocks_29 : decode cX3_collectFreeBlocks 29 = .ok (.putfield 18, 3) := by decide +kernel
theorem dX3_collectFreeBlocks_32 : decode cX3_collectFreeBlocks 32 = .ok (.iinc 2 1, 3) := by decide +kernel
theorem dX3_collectFreeBlocks_35 : decode cX3_collectFreeBlocks 35 = .ok (.goto (-28), 3) := by decide +kernel
theorem dX3_collectFreeBlocks_38 : decode cX3_collectFreeBlocks 38 = .ok (.return_, 1) := by decide +kernel
theorem dX3_fillSet_0 : decode cX3_fillSet 0 = .ok (.iconst 0, 1) := by decide +kernel
theorem dX3_fillSet_1 : decode cX3_fillSet 1 = .ok (.istore_n 3, 1) := by decide +kernel
theorem dX3_fillSet_2 : decode cX3_fillSet 2 = .ok (.iload_n 3, 1) := by decide +kernel
theorem dX3_fillSet_3 : decode cX3_fillSet 3 = .ok (.aload_n 1, 1) := by decide +kernel
theorem dX3_fillSet_4 : decode cX3_fillSet 4 = .ok (.getfield 42, 3) := by decide +kernel
theorem dX3_fillSet_7 : decode cX3_fillSet 7 = .ok (.getfield 46, 3) := by decide +kernel
theorem dX3_fillSet_10 : decode cX3_fillSet 10 = .ok (.if_icmp .ge 98, 3) := by decide +kernel
theorem dX3_fillSet_13 : decode cX3_fillSet 13 = .ok (.iload_n 3, 1) := by decide +kernel
theorem dX3_fillSet_14 : decode cX3_fillSet 14 = .ok (.ifCond .eq 18, 3) := by decide +kernel
theorem dX3_fillSet_17 : decode cX3_fillSet 17 = .ok (.aload_n 0, 1) := by decide +kernel
theorem dX3_fillSet_18 : decode cX3_fillSet 18 = .ok (.getfield 18, 3) := by decide +kernel
theorem dX3_fillSet_21 : decode cX3_fillSet 21 = .ok (.iload_n 2, 1) := by decide +kernel
theorem dX3_fillSet_22 : decode cX3_fillSet 22 = .ok (.iconst (-1), 1) := by decide +kernel
theorem dX3_fillSet_23 : decode cX3_fillSet 23 = .ok (.ixor, 1) := by decide +kernel
theorem dX3_fillSet_24 : decode cX3_fillSet 24 = .ok (.iand, 1) := by decide +kernel
theorem dX3_fillSet_25 : decode cX3_fillSet 25 = .ok (.iload_n 3, 1) := by decide +kernel
theorem dX3_fillSet_26 : decode cX3_fillSet 26 = .ok (.invokestatic 69, 3) := by decide +kernel
theorem dX3_fillSet_29 : decode cX3_fillSet 29 = .ok (.ifCond .eq 7, 3) := by decide +kernel
theorem dX3_fillSet_32 : decode cX3_fillSet 32 = .ok (.iconst 1, 1) := by decide +kernel
theorem dX3_fillSet_33 : decode cX3_fillSet 33 = .ok (.goto 4, 3) := by decide +kernel
theorem dX3_fillSet_36 : decode cX3_fillSet 36 = .ok (.iconst 0, 1) := by decide +kernel
theorem dX3_fillSet_37 : decode cX3_fillSet 37 = .ok (.istore 4, 2) := by decide +kernel
theorem dX3_fillSet_39 : decode cX3_fillSet 39 = .ok (.iload 4, 2) := by decide +kernel
theorem dX3_fillSet_41 : decode cX3_fillSet 41 = .ok (.ifCond .eq 28, 3) := by decide +kernel
theorem dX3_fillSet_44 : decode cX3_fillSet 44 = .ok (.iload_n 2, 1) := by decide +kernel
theorem dX3_fillSet_45 : decode cX3_fillSet 45 = .ok (.ifCond .ne 24, 3) := by decide +kernel
theorem dX3_fillSet_48 : decode cX3_fillSet 48 = .ok (.aload_n 0, 1) := by decide +kernel
theorem dX3_fillSet_49 : decode cX3_fillSet 49 = .ok (.getfield 11, 3) := by decide +kernel
theorem dX3_fillSet_52 : decode cX3_fillSet 52 = .ok (.iload_n 3, 1) := by decide +kernel
theorem dX3_fillSet_53 : decode cX3_fillSet 53 = .ok (.aload_n 0, 1) := by decide +kernel
theorem dX3_fillSet_54 : decode cX3_fillSet 54 = .ok (.getfield 15, 3) := by decide +kernel
theorem dX3_fillSet_57 : decode cX3_fillSet 57 = .ok (.iload_n 3, 1) := by decide +kernel
theorem dX3_fillSet_58 : decode cX3_fillSet 58 = .ok (.bipush 9, 2) := by decide +kernel
theorem dX3_fillSet_60 : decode cX3_fillSet 60 = .ok (.imul, 1) := by decide +kernel
theorem dX3_fillSet_61 : decode cX3_fillSet 61 = .ok (.bipush 8, 2) := by decide +kernel
theorem dX3_fillSet_63 : decode cX3_fillSet 63 = .ok (.iadd, 1) := by decide +kernel
theorem dX3_fillSet_64 : decode cX3_fillSet 64 = .ok (.iaload, 1) := by decide +kernel
theorem dX3_fillSet_65 : decode cX3_fillSet 65 = .ok (.iastore, 1) := by decide +kernel
theorem dX3_fillSet_66 : decode cX3_fillSet 66 = .ok (.goto 36, 3) := by decide +kernel
theorem dX3_fillSet_69 : decode cX3_fillSet 69 = .ok (.iload 4, 2) := by decide +kernel
theorem dX3_fillSet_71 : decode cX3_fillSet 71 = .ok (.ifCond .eq 31, 3) := by decide +kernel
theorem dX3_fillSet_74 : decode cX3_fillSet 74 = .ok (.aload_n 0, 1) := by decide +kernel
theorem dX3_fillSet_75 : decode cX3_fillSet 75 = .ok (.aload_n 1, 1) := by decide +kernel
theorem dX3_fillSet_76 : decode cX3_fillSet 76 = .ok (.iload_n 2, 1) := by decide +kernel
theorem dX3_fillSet_77 : decode cX3_fillSet 77 = .ok (.iload_n 3, 1) := by decide +kernel
theorem dX3_fillSet_78 : decode cX3_fillSet 78 = .ok (.invokevirtual 65, 3) := by decide +kernel
theorem dX3_fillSet_81 : decode cX3_fillSet 81 = .ok (.istore 5, 2) := by decide +kernel
theorem dX3_fillSet_83 : decode cX3_fillSet 83 = .ok (.aload_n 0, 1) := by decide +kernel
theorem dX3_fillSet_84 : decode cX3_fillSet 84 = .ok (.getfield 11, 3) := by decide +kernel
theorem dX3_fillSet_87 : decode cX3_fillSet 87 = .ok (.iload_n 2, 1) := by decide +kernel
theorem dX3_fillSet_88 : decode cX3_fillSet 88 = .ok (.bipush 8, 2) := by decide +kernel
theorem dX3_fillSet_90 : decode cX3_fillSet 90 = .ok (.imul, 1) := by decide +kernel
theorem dX3_fillSet_91 : decode cX3_fillSet 91 = .ok (.iload_n 3, 1) := by decide +kernel
theorem dX3_fillSet_92 : decode cX3_fillSet 92 = .ok (.iadd, 1) := by decide +kernel
theorem dX3_fillSet_93 : decode cX3_fillSet 93 = .ok (.aload_n 0, 1) := by decide +kernel
theorem dX3_fillSet_94 : decode cX3_fillSet 94 = .ok (.iload_n 2, 1) := by decide +kernel
theorem dX3_fillSet_95 : decode cX3_fillSet 95 = .ok (.iload_n 3, 1) := by decide +kernel
theorem dX3_fillSet_96 : decode cX3_fillSet 96 = .ok (.iload 5, 2) := by decide +kernel
theorem dX3_fillSet_98 : decode cX3_fillSet 98 = .ok (.invokevirtual 73, 3) := by decide +kernel
theorem dX3_fillSet_101 : decode cX3_fillSet 101 = .ok (.iastore, 1) := by decide +kernel
theorem dX3_fillSet_102 : decode cX3_fillSet 102 = .ok (.iinc 3 1, 3) := by decide +kernel
theorem dX3_fillSet_105 : decode cX3_fillSet 105 = .ok (.goto (-103), 3) := by decide +kernel
theorem dX3_fillSet_108 : decode cX3_fillSet 108 = .ok (.return_, 1) := by decide +kernel
theorem dX3_cheapestNext_0 : decode cX3_cheapestNext 0 = .ok (.iconst 0, 1) := by decide +kernel
theorem dX3_cheapestNext_1 : decode cX3_cheapestNext 1 = .ok (.istore 4, 2) := by decide +kernel
theorem dX3_cheapestNext_3 : decode cX3_cheapestNext 3 = .ok (.ldc 79, 2) := by decide +kernel
theorem dX3_cheapestNext_5 : decode cX3_cheapestNext 5 = .ok (.istore 5, 2) := by decide +kernel
theorem dX3_cheapestNext_7 : decode cX3_cheapestNext 7 = .ok (.iconst 1, 1) := by decide +kernel
theorem dX3_cheapestNext_8 : decode cX3_cheapestNext 8 = .ok (.istore 6, 2) := by decide +kernel
theorem dX3_cheapestNext_10 : decode cX3_cheapestNext 10 = .ok (.iload 6, 2) := by decide +kernel
theorem dX3_cheapestNext_12 : decode cX3_cheapestNext 12 = .ok (.aload_n 1, 1) := by decide +kernel
theorem dX3_cheapestNext_13 : decode cX3_cheapestNext 13 = .ok (.getfield 42, 3) := by decide +kernel
theorem dX3_cheapestNext_16 : decode cX3_cheapestNext 16 = .ok (.getfield 46, 3) := by decide +kernel
theorem dX3_cheapestNext_19 : decode cX3_cheapestNext 19 = .ok (.if_icmp .ge 43, 3) := by decide +kernel
theorem dX3_cheapestNext_22 : decode cX3_cheapestNext 22 = .ok (.iload_n 2, 1) := by decide +kernel
theorem dX3_cheapestNext_23 : decode cX3_cheapestNext 23 = .ok (.iload 6, 2) := by decide +kernel
theorem dX3_cheapestNext_25 : decode cX3_cheapestNext 25 = .ok (.invokestatic 69, 3) := by decide +kernel
theorem dX3_cheapestNext_28 : decode cX3_cheapestNext 28 = .ok (.ifCond .eq 28, 3) := by decide +kernel
theorem dX3_cheapestNext_31 : decode cX3_cheapestNext 31 = .ok (.aload_n 0, 1) := by decide +kernel
theorem dX3_cheapestNext_32 : decode cX3_cheapestNext 32 = .ok (.iload_n 2, 1) := by decide +kernel
theorem dX3_cheapestNext_33 : decode cX3_cheapestNext 33 = .ok (.iload_n 3, 1) := by decide +kernel
theorem dX3_cheapestNext_34 : decode cX3_cheapestNext 34 = .ok (.iload 6, 2) := by decide +kernel
theorem dX3_cheapestNext_36 : decode cX3_cheapestNext 36 = .ok (.invokevirtual 73, 3) := by decide +kernel
theorem dX3_cheapestNext_39 : decode cX3_cheapestNext 39 = .ok (.istore 7, 2) := by decide +kernel
theorem dX3_cheapestNext_41 : decode cX3_cheapestNext 41 = .ok (.iload 7, 2) := by decide +kernel
theorem dX3_cheapestNext_43 : decode cX3_cheapestNext 43 = .ok (.iload 5, 2) := by decide +kernel
theorem dX3_cheapestNext_45 : decode cX3_cheapestNext 45 = .ok (.if_icmp .ge 11, 3) := by decide +kernel
theorem dX3_cheapestNext_48 : decode cX3_cheapestNext 48 = .ok (.iload 6, 2) := by decide +kernel
theorem dX3_cheapestNext_50 : decode cX3_cheapestNext 50 = .ok (.istore 4, 2) := by decide +kernel
theorem dX3_cheapestNext_52 : decode cX3_cheapestNext 52 = .ok (.iload 7, 2) := by decide +kernel
theorem dX3_cheapestNext_54 : decode cX3_cheapestNext 54 = .ok (.istore 5, 2) := by decide +kernel
theorem dX3_cheapestNext_56 : decode cX3_cheapestNext 56 = .ok (.iinc 6 1, 3) := by decide +kernel
theorem dX3_cheapestNext_59 : decode cX3_cheapestNext 59 = .ok (.goto (-49), 3) := by decide +kernel
theorem dX3_cheapestNext_62 : decode cX3_cheapestNext 62 = .ok (.iload 4, 2) := by decide +kernel
theorem dX3_cheapestNext_64 : decode cX3_cheapestNext 64 = .ok (.ireturn, 1) := by decide +kernel
theorem dX3_costThrough_0 : decode cX3_costThrough 0 = .ok (.iload_n 1, 1) := by decide +kernel
theorem dX3_costThrough_1 : decode cX3_costThrough 1 = .ok (.iconst 1, 1) := by decide +kernel
theorem dX3_costThrough_2 : decode cX3_costThrough 2 = .ok (.iload_n 3, 1) := by decide +kernel
theorem dX3_costThrough_3 : decode cX3_costThrough 3 = .ok (.ishl, 1) := by decide +kernel
theorem dX3_costThrough_4 : decode cX3_costThrough 4 = .ok (.iconst (-1), 1) := by decide +kernel
theorem dX3_costThrough_5 : decode cX3_costThrough 5 = .ok (.ixor, 1) := by decide +kernel
theorem dX3_costThrough_6 : decode cX3_costThrough 6 = .ok (.iand, 1) := by decide +kernel
theorem dX3_costThrough_7 : decode cX3_costThrough 7 = .ok (.istore 4, 2) := by decide +kernel
theorem dX3_costThrough_9 : decode cX3_costThrough 9 = .ok (.aload_n 0, 1) := by decide +kernel
theorem dX3_costThrough_10 : decode cX3_costThrough 10 = .ok (.getfield 15, 3) := by decide +kernel
theorem dX3_costThrough_13 : decode cX3_costThrough 13 = .ok (.iload_n 2, 1) := by decide +kernel
theorem dX3_costThrough_14 : decode cX3_costThrough 14 = .ok (.bipush 9, 2) := by decide +kernel
theorem dX3_costThrough_16 : decode cX3_costThrough 16 = .ok (.imul, 1) := by decide +kernel
theorem dX3_costThrough_17 : decode cX3_costThrough 17 = .ok (.iload_n 3, 1) := by decide +kernel
theorem dX3_costThrough_18 : decode cX3_costThrough 18 = .ok (.iadd, 1) := by decide +kernel
theorem dX3_costThrough_19 : decode cX3_costThrough 19 = .ok (.iaload, 1) := by decide +kernel
theorem dX3_costThrough_20 : decode cX3_costThrough 20 = .ok (.aload_n 0, 1) := by decide +kernel
theorem dX3_costThrough_21 : decode cX3_costThrough 21 = .ok (.getfield 11, 3) := by decide +kernel
theorem dX3_costThrough_24 : decode cX3_costThrough 24 = .ok (.iload 4, 2) := by decide +kernel
theorem dX3_costThrough_26 : decode cX3_costThrough 26 = .ok (.bipush 8, 2) := by decide +kernel
theorem dX3_costThrough_28 : decode cX3_costThrough 28 = .ok (.imul, 1) := by decide +kernel
theorem dX3_costThrough_29 : decode cX3_costThrough 29 = .ok (.iload_n 3, 1) := by decide +kernel
theorem dX3_costThrough_30 : decode cX3_costThrough 30 = .ok (.iadd, 1) := by decide +kernel
theorem dX3_costThrough_31 : decode cX3_costThrough 31 = .ok (.iaload, 1) := by decide +kernel
theorem dX3_costThrough_32 : decode cX3_costThrough 32 = .ok (.iadd, 1) := by decide +kernel
theorem dX3_costThrough_33 : decode cX3_costThrough 33 = .ok (.ireturn, 1) := by decide +kernel
theorem dX3_contains_0 : decode cX3_contains 0 = .ok (.iload_n 0, 1) := by decide +kernel
theorem dX3_contains_1 : decode cX3_contains 1 = .ok (.iload_n 1, 1) := by decide +kernel
theorem dX3_contains_2 : decode cX3_contains 2 = .ok (.ishr, 1) := by decide +kernel
theorem dX3_contains_3 : decode cX3_contains 3 = .ok (.iconst 1, 1) := by decide +kernel
theorem dX3_contains_4 : decode cX3_contains 4 = .ok (.iand, 1) := by decide +kernel
theorem dX3_contains_5 : decode cX3_contains 5 = .ok (.ifCond .eq 7, 3) := by decide +kernel
theorem dX3_contains_8 : decode cX3_contains 8 = .ok (.iconst 1, 1) := by decide +kernel
theorem dX3_contains_9 : decode cX3_contains 9 = .ok (.goto 4, 3) := by decide +kernel
theorem dX3_contains_12 : decode cX3_contains 12 = .ok (.iconst 0, 1) := by decide +kernel
theorem dX3_contains_13 : decode cX3_contains 13 = .ok (.ireturn, 1) := by decide +kernel
theorem dX4_startOf_0 : decode cX4_startOf 0 = .ok (.iconst 0, 1) := by decide +kernel
theorem dX4_startOf_1 : decode cX4_startOf 1 = .ok (.istore_n 2, 1) := by decide +kernel
theorem dX4_startOf_2 : decode cX4_startOf 2 = .ok (.iconst 0, 1) := by decide +kernel
theorem dX4_startOf_3 : decode cX4_startOf 3 = .ok (.istore_n 3, 1) := by decide +kernel
theorem dX4_startOf_4 : decode cX4_startOf 4 = .ok (.iload_n 3, 1) := by decide +kernel
theorem dX4_startOf_5 : decode cX4_startOf 5 = .ok (.aload_n 0, 1) := by decide +kernel
theorem dX4_startOf_6 : decode cX4_startOf 6 = .ok (.getfield 9, 3) := by decide +kernel
theorem dX4_startOf_9 : decode cX4_startOf 9 = .ok (.getfield 15, 3) := by decide +kernel
theorem dX4_startOf_12 : decode cX4_startOf 12 = .ok (.if_icmp .ge 39, 3) := by decide +kernel
theorem dX4_startOf_15 : decode cX4_startOf 15 = .ok (.aload_n 0, 1) := by decide +kernel
theorem dX4_startOf_16 : decode cX4_startOf 16 = .ok (.iload_n 3, 1) := by decide +kernel
theorem dX4_startOf_17 : decode cX4_startOf 17 = .ok (.iload_n 2, 1) := by decide +kernel
theorem dX4_startOf_18 : decode cX4_startOf 18 = .ok (.invokestatic 21, 3) := by decide +kernel
theorem dX4_startOf_21 : decode cX4_startOf 21 = .ok (.istore 4, 2) := by decide +kernel
theorem dX4_startOf_23 : decode cX4_startOf 23 = .ok (.aload_n 0, 1) := by decide +kernel
theorem dX4_startOf_24 : decode cX4_startOf 24 = .ok (.getfield 27, 3) := by decide +kernel
theorem dX4_startOf_27 : decode cX4_startOf 27 = .ok (.iload_n 3, 1) := by decide +kernel
theorem dX4_startOf_28 : decode cX4_startOf 28 = .ok (.iaload, 1) := by decide +kernel
theorem dX4_startOf_29 : decode cX4_startOf 29 = .ok (.iload_n 1, 1) := by decide +kernel
theorem dX4_startOf_30 : decode cX4_startOf 30 = .ok (.if_icmp .ne 6, 3) := by decide +kernel
theorem dX4_startOf_33 : decode cX4_startOf 33 = .ok (.iload 4, 2) := by decide +kernel
theorem dX4_startOf_35 : decode cX4_startOf 35 = .ok (.ireturn, 1) := by decide +kernel
theorem dX4_startOf_36 : decode cX4_startOf 36 = .ok (.iload 4, 2) := by decide +kernel
theorem dX4_startOf_38 : decode cX4_startOf 38 = .ok (.aload_n 0, 1) := by decide +kernel
theorem dX4_startOf_39 : decode cX4_startOf 39 = .ok (.iload_n 3, 1) := by decide +kernel
theorem dX4_startOf_40 : decode cX4_startOf 40 = .ok (.invokestatic 31, 3) := by decide +kernel
theorem dX4_startOf_43 : decode cX4_startOf 43 = .ok (.iadd, 1) := by decide +kernel
theorem dX4_startOf_44 : decode cX4_startOf 44 = .ok (.istore_n 2, 1) := by decide +kernel
theorem dX4_startOf_45 : decode cX4_startOf 45 = .ok (.iinc 3 1, 3) := by decide +kernel
theorem dX4_startOf_48 : decode cX4_startOf 48 = .ok (.goto (-44), 3) := by decide +kernel
theorem dX4_startOf_51 : decode cX4_startOf 51 = .ok (.iconst (-1), 1) := by decide +kernel
theorem dX4_startOf_52 : decode cX4_startOf 52 = .ok (.ireturn, 1) := by decide +kernel
theorem dX4_endOfCode_0 : decode cX4_endOfCode 0 = .ok (.iconst 0, 1) := by decide +kernel
theorem dX4_endOfCode_1 : decode cX4_endOfCode 1 = .ok (.istore_n 1, 1) := by decide +kernel
theorem dX4_endOfCode_2 : decode cX4_endOfCode 2 = .ok (.iconst 0, 1) := by decide +kernel
theorem dX4_endOfCode_3 : decode cX4_endOfCode 3 = .ok (.istore_n 2, 1) := by decide +kernel
theorem dX4_endOfCode_4 : decode cX4_endOfCode 4 = .ok (.iload_n 2, 1) := by decide +kernel
theorem dX4_endOfCode_5 : decode cX4_endOfCode 5 = .ok (.aload_n 0, 1) := by decide +kernel
theorem dX4_endOfCode_6 : decode cX4_endOfCode 6 = .ok (.getfield 9, 3) := by decide +kernel
theorem dX4_endOfCode_9 : decode cX4_endOfCode 9 = .ok (.getfield 15, 3) := by decide +kernel
theorem dX4_endOfCode_12 : decode cX4_endOfCode 12 = .ok (.if_icmp .ge 22, 3) := by decide +kernel
theorem dX4_endOfCode_15 : decode cX4_endOfCode 15 = .ok (.aload_n 0, 1) := by decide +kernel
theorem dX4_endOfCode_16 : decode cX4_endOfCode 16 = .ok (.iload_n 2, 1) := by decide +kernel
theorem dX4_endOfCode_17 : decode cX4_endOfCode 17 = .ok (.iload_n 1, 1) := by decide +kernel
theorem dX4_endOfCode_18 : decode cX4_endOfCode 18 = .ok (.invokestatic 21, 3) := by decide +kernel
theorem dX4_endOfCode_21 : decode cX4_endOfCode 21 = .ok (.aload_n 0, 1) := by decide +kernel
theorem dX4_endOfCode_22 : decode cX4_endOfCode 22 = .ok (.iload_n 2, 1) := by decide +kernel
theorem dX4_endOfCode_23 : decode cX4_endOfCode 23 = .ok (.invokestatic 31, 3) := by decide +kernel
theorem dX4_endOfCode_26 : decode cX4_endOfCode 26 = .ok (.iadd, 1) := by decide +kernel
theorem dX4_endOfCode_27 : decode cX4_endOfCode 27 = .ok (.istore_n 1, 1) := by decide +kernel
theorem dX4_endOfCode_28 : decode cX4_endOfCode 28 = .ok (.iinc 2 1, 3) := by decide +kernel
theorem dX4_endOfCode_31 : decode cX4_endOfCode 31 = .ok (.goto (-27), 3) := by decide +kernel
theorem dX4_endOfCode_34 : decode cX4_endOfCode 34 = .ok (.iload_n 1, 1) := by decide +kernel
theorem dX4_endOfCode_35 : decode cX4_endOfCode 35 = .ok (.ireturn, 1) := by decide +kernel
theorem dX4_startAt_0 : decode cX4_startAt 0 = .ok (.iload_n 1, 1) := by decide +kernel
theorem dX4_startAt_1 : decode cX4_startAt 1 = .ok (.aload_n 0, 1) := by decide +kernel
theorem dX4_startAt_2 : decode cX4_startAt 2 = .ok (.getfield 35, 3) := by decide +kernel
theorem dX4_startAt_5 : decode cX4_startAt 5 = .ok (.if_icmp .ne 10, 3) := by decide +kernel
theorem dX4_startAt_8 : decode cX4_startAt 8 = .ok (.iload_n 2, 1) := by decide +kernel
theorem dX4_startAt_9 : decode cX4_startAt 9 = .ok (.bipush 16, 2) := by decide +kernel
theorem dX4_startAt_11 : decode cX4_startAt 11 = .ok (.invokestatic 38, 3) := by decide +kernel
theorem dX4_startAt_14 : decode cX4_startAt 14 = .ok (.ireturn, 1) := by decide +kernel
theorem dX4_startAt_15 : decode cX4_startAt 15 = .ok (.aload_n 0, 1) := by decide +kernel
theorem dX4_startAt_16 : decode cX4_startAt 16 = .ok (.iload_n 1, 1) := by decide +kernel
theorem dX4_startAt_17 : decode cX4_startAt 17 = .ok (.invokestatic 42, 3) := by decide +kernel
theorem dX4_startAt_20 : decode cX4_startAt 20 = .ok (.ifCond .eq 14, 3) := by decide +kernel
theorem dX4_startAt_23 : decode cX4_startAt 23 = .ok (.iload_n 2, 1) := by decide +kernel
theorem dX4_startAt_24 : decode cX4_startAt 24 = .ok (.aload_n 0, 1) := by decide +kernel
theorem dX4_startAt_25 : decode cX4_startAt 25 = .ok (.getfield 46, 3) := by decide +kernel
theorem dX4_startAt_28 : decode cX4_startAt 28 = .ok (.invokestatic 38, 3) := by decide +kernel
theorem dX4_startAt_31 : decode cX4_startAt 31 = .ok (.goto 4, 3) := by decide +kernel
theorem dX4_startAt_34 : decode cX4_startAt 34 = .ok (.iload_n 2, 1) := by decide +kernel
theorem dX4_startAt_35 : decode cX4_startAt 35 = .ok (.ireturn, 1) := by decide +kernel
theorem dX4_bytesAt_0 : decode cX4_bytesAt 0 = .ok (.aload_n 0, 1) := by decide +kernel
theorem dX4_bytesAt_1 : decode cX4_bytesAt 1 = .ok (.getfield 27, 3) := by decide +kernel
theorem dX4_bytesAt_4 : decode cX4_bytesAt 4 = .ok (.iload_n 1, 1) := by decide +kernel
theorem dX4_bytesAt_5 : decode cX4_bytesAt 5 = .ok (.iaload, 1) := by decide +kernel
theorem dX4_bytesAt_6 : decode cX4_bytesAt 6 = .ok (.istore_n 2, 1) := by decide +kernel
theorem dX4_bytesAt_7 : decode cX4_bytesAt 7 = .ok (.aload_n 0, 1) := by decide +kernel
theorem dX4_bytesAt_8 : decode cX4_bytesAt 8 = .ok (.getfield 9, 3) := by decide +kernel
theorem dX4_bytesAt_11 : decode cX4_bytesAt 11 = .ok (.getfield 49, 3) := by decide +kernel
theorem dX4_bytesAt_14 : decode cX4_bytesAt 14 = .ok (.iload_n 2, 1) := by decide +kernel
theorem dX4_bytesAt_15 : decode cX4_bytesAt 15 = .ok (.iaload, 1) := by decide +kernel
theorem dX4_bytesAt_16 : decode cX4_bytesAt 16 = .ok (.aload_n 0, 1) := by decide +kernel
theorem dX4_bytesAt_17 : decode cX4_bytesAt 17 = .ok (.iload_n 2, 1) := by decide +kernel
theorem dX4_bytesAt_18 : decode cX4_bytesAt 18 = .ok (.aload_n 0, 1) := by decide +kernel
theorem dX4_bytesAt_19 : decode cX4_bytesAt 19 = .ok (.iload_n 1, 1) := by decide +kernel
theorem dX4_bytesAt_20 : decode cX4_bytesAt 20 = .ok (.invokevirtual 52, 3) := by decide +kernel
theorem dX4_bytesAt_23 : decode cX4_bytesAt 23 = .ok (.invokevirtual 56, 3) := by decide +kernel
theorem dX4_bytesAt_26 : decode cX4_bytesAt 26 = .ok (.iadd, 1) := by decide +kernel
theorem dX4_bytesAt_27 : decode cX4_bytesAt 27 = .ok (.ireturn, 1) := by decide +kernel
theorem dX4_isLoopHead_0 : decode cX4_isLoopHead 0 = .ok (.iload_n 1, 1) := by decide +kernel
theorem dX4_isLoopHead_1 : decode cX4_isLoopHead 1 = .ok (.istore_n 2, 1) := by decide +kernel
theorem dX4_isLoopHead_2 : decode cX4_isLoopHead 2 = .ok (.iload_n 2, 1) := by decide +kernel
theorem dX4_isLoopHead_3 : decode cX4_isLoopHead 3 = .ok (.aload_n 0, 1) := by decide +kernel
theorem dX4_isLoopHead_4 : decode cX4_isLoopHead 4 = .ok (.getfield 35, 3) := by decide +kernel
theorem dX4_isLoopHead_7 : decode cX4_isLoopHead 7 = .ok (.if_icmp .ge 30, 3) := by decide +kernel
theorem dX4_isLoopHead_10 : decode cX4_isLoopHead 10 = .ok (.aload_n 0, 1) := by decide +kernel
theorem dX4_isLoopHead_11 : decode cX4_isLoopHead 11 = .ok (.aload_n 0, 1) := by decide +kernel
theorem dX4_isLoopHead_12 : decode cX4_isLoopHead 12 = .ok (.getfield 27, 3) := by decide +kernel
theorem dX4_isLoopHead_15 : decode cX4_isLoopHead 15 = .ok (.iload_n 2, 1) := by decide +kernel
theorem dX4_isLoopHead_16 : decode cX4_isLoopHead 16 = .ok (.iaload, 1) := by decide +kernel
theorem dX4_isLoopHead_17 : decode cX4_isLoopHead 17 = .ok (.aload_n 0, 1) := by decide +kernel
theorem dX4_isLoopHead_18 : decode cX4_isLoopHead 18 = .ok (.getfield 27, 3) := by decide +kernel
theorem dX4_isLoopHead_21 : decode cX4_isLoopHead 21 = .ok (.iload_n 1, 1) := by decide +kernel
theorem dX4_isLoopHead_22 : decode cX4_isLoopHead 22 = .ok (.iaload, 1) := by decide +kernel
theorem dX4_isLoopHead_23 : decode cX4_isLoopHead 23 = .ok (.invokevirtual 59, 3) := by decide +kernel
theorem dX4_isLoopHead_26 : decode cX4_isLoopHead 26 = .ok (.ifCond .eq 5, 3) := by decide +kernel
theorem dX4_isLoopHead_29 : decode cX4_isLoopHead 29 = .ok (.iconst 1, 1) := by decide +kernel
theorem dX4_isLoopHead_30 : decode cX4_isLoopHead 30 = .ok (.ireturn, 1) := by decide +kernel
theorem dX4_isLoopHead_31 : decode cX4_isLoopHead 31 = .ok (.iinc 2 1, 3) := by decide +kernel
theorem dX4_isLoopHead_34 : decode cX4_isLoopHead 34 = .ok (.goto (-32), 3) := by decide +kernel
theorem dX4_isLoopHead_37 : decode cX4_isLoopHead 37 = .ok (.iconst 0, 1) := by decide +kernel
theorem dX4_isLoopHead_38 : decode cX4_isLoopHead 38 = .ok (.ireturn, 1) := by decide +kernel
theorem dX4_roundUp_0 : decode cX4_roundUp 0 = .ok (.iload_n 0, 1) := by decide +kernel
theorem dX4_roundUp_1 : decode cX4_roundUp 1 = .ok (.iload_n 1, 1) := by decide +kernel
theorem dX4_roundUp_2 : decode cX4_roundUp 2 = .ok (.iadd, 1) := by decide +kernel
theorem dX4_roundUp_3 : decode cX4_roundUp 3 = .ok (.iconst 1, 1) := by decide +kernel
theorem dX4_roundUp_4 : decode cX4_roundUp 4 = .ok (.isub, 1) := by decide +kernel
theorem dX4_roundUp_5 : decode cX4_roundUp 5 = .ok (.iload_n 1, 1) := by decide +kernel
theorem dX4_roundUp_6 : decode cX4_roundUp 6 = .ok (.ineg, 1) := by decide +kernel
theorem dX4_roundUp_7 : decode cX4_roundUp 7 = .ok (.iand, 1) := by decide +kernel
theorem dX4_roundUp_8 : decode cX4_roundUp 8 = .ok (.ireturn, 1) := by decide +kernel
theorem dX5_isWellFormed_0 : decode cX5_isWellFormed 0 = .ok (.iload_n 0, 1) := by decide +kernel
theorem dX5_isWellFormed_1 : decode cX5_isWellFormed 1 = .ok (.iconst 1, 1) := by decide +kernel
theorem dX5_isWellFormed_2 : decode cX5_isWellFormed 2 = .ok (.if_icmp .lt 28, 3) := by decide +kernel
theorem dX5_isWellFormed_5 : decode cX5_isWellFormed 5 = .ok (.iload_n 0, 1) := by decide +kernel
theorem dX5_isWellFormed_6 : decode cX5_isWellFormed 6 = .ok (.iconst 4, 1) := by decide +kernel
theorem dX5_isWellFormed_7 : decode cX5_isWellFormed 7 = .ok (.if_icmp .gt 23, 3) := by decide +kernel
theorem dX5_isWellFormed_10 : decode cX5_isWellFormed 10 = .ok (.lload_n 1, 1) := by decide +kernel
theorem dX5_isWellFormed_11 : decode cX5_isWellFormed 11 = .ok (.lconst 0, 1) := by decide +kernel
theorem dX5_isWellFormed_12 : decode cX5_isWellFormed 12 = .ok (.lcmp, 1) := by decide +kernel
theorem dX5_isWellFormed_13 : decode cX5_isWellFormed 13 = .ok (.ifCond .lt 17, 3) := by decide +kernel
theorem dX5_isWellFormed_16 : decode cX5_isWellFormed 16 = .ok (.lload_n 1, 1) := by decide +kernel
theorem dX5_isWellFormed_17 : decode cX5_isWellFormed 17 = .ok (.iload_n 0, 1) := by decide +kernel
theorem dX5_isWellFormed_18 : decode cX5_isWellFormed 18 = .ok (.invokestatic 9, 3) := by decide +kernel
theorem dX5_isWellFormed_21 : decode cX5_isWellFormed 21 = .ok (.lconst 0, 1) := by decide +kernel
theorem dX5_isWellFormed_22 : decode cX5_isWellFormed 22 = .ok (.lcmp, 1) := by decide +kernel
theorem dX5_isWellFormed_23 : decode cX5_isWellFormed 23 = .ok (.ifCond .ne 7, 3) := by decide +kernel
theorem dX5_isWellFormed_26 : decode cX5_isWellFormed 26 = .ok (.iconst 1, 1) := by decide +kernel
theorem dX5_isWellFormed_27 : decode cX5_isWellFormed 27 = .ok (.goto 4, 3) := by decide +kernel
theorem dX5_isWellFormed_30 : decode cX5_isWellFormed 30 = .ok (.iconst 0, 1) := by decide +kernel
theorem dX5_isWellFormed_31 : decode cX5_isWellFormed 31 = .ok (.ireturn, 1) := by decide +kernel
theorem dX5_firstFailure_0 : decode cX5_firstFailure 0 = .ok (.iconst 0, 1) := by decide +kernel
theorem dX5_firstFailure_1 : decode cX5_firstFailure 1 = .ok (.istore 4, 2) := by decide +kernel
theorem dX5_firstFailure_3 : decode cX5_firstFailure 3 = .ok (.iload 4, 2) := by decide +kernel
theorem dX5_firstFailure_5 : decode cX5_firstFailure 5 = .ok (.iload_n 1, 1) := by decide +kernel
theorem dX5_firstFailure_6 : decode cX5_firstFailure 6 = .ok (.if_icmp .ge 38, 3) := by decide +kernel
theorem dX5_firstFailure_9 : decode cX5_firstFailure 9 = .ok (.lload_n 2, 1) := by decide +kernel
theorem dX5_firstFailure_10 : decode cX5_firstFailure 10 = .ok (.iload_n 1, 1) := by decide +kernel
theorem dX5_firstFailure_11 : decode cX5_firstFailure 11 = .ok (.iconst 1, 1) := by decide +kernel
theorem dX5_firstFailure_12 : decode cX5_firstFailure 12 = .ok (.isub, 1) := by decide +kernel
theorem dX5_firstFailure_13 : decode cX5_firstFailure 13 = .ok (.iload 4, 2) := by decide +kernel
theorem dX5_firstFailure_15 : decode cX5_firstFailure 15 = .ok (.isub, 1) := by decide +kernel
theorem dX5_firstFailure_16 : decode cX5_firstFailure 16 = .ok (.invokestatic 9, 3) := by decide +kernel
theorem dX5_firstFailure_19 : decode cX5_firstFailure 19 = .ok (.ldc2_w 15, 3) := by decide +kernel
theorem dX5_firstFailure_22 : decode cX5_firstFailure 22 = .ok (.lrem, 1) := by decide +kernel
theorem dX5_firstFailure_23 : decode cX5_firstFailure 23 = .ok (.l2i, 1) := by decide +kernel
theorem dX5_firstFailure_24 : decode cX5_firstFailure 24 = .ok (.istore 5, 2) := by decide +kernel
theorem dX5_firstFailure_26 : decode cX5_firstFailure 26 = .ok (.aload_n 0, 1) := by decide +kernel
theorem dX5_firstFailure_27 : decode cX5_firstFailure 27 = .ok (.iload 5, 2) := by decide +kernel
theorem dX5_firstFailure_29 : decode cX5_firstFailure 29 = .ok (.invokestatic 17, 3) := by decide +kernel
theorem dX5_firstFailure_32 : decode cX5_firstFailure 32 = .ok (.ifCond .ne 6, 3) := by decide +kernel
theorem dX5_firstFailure_35 : decode cX5_firstFailure 35 = .ok (.iload 4, 2) := by decide +kernel
theorem dX5_firstFailure_37 : decode cX5_firstFailure 37 = .ok (.ireturn, 1) := by decide +kernel
theorem dX5_firstFailure_38 : decode cX5_firstFailure 38 = .ok (.iinc 4 1, 3) := by decide +kernel
theorem dX5_firstFailure_41 : decode cX5_firstFailure 41 = .ok (.goto (-38), 3) := by decide +kernel
theorem dX5_firstFailure_44 : decode cX5_firstFailure 44 = .ok (.bipush (-9), 2) := by decide +kernel
theorem dX5_firstFailure_46 : decode cX5_firstFailure 46 = .ok (.ireturn, 1) := by decide +kernel
theorem dX5_withoutLowest_0 : decode cX5_withoutLowest 0 = .ok (.lload_n 0, 1) := by decide +kernel
theorem dX5_withoutLowest_1 : decode cX5_withoutLowest 1 = .ok (.lstore_n 3, 1) := by decide +kernel
theorem dX5_withoutLowest_2 : decode cX5_withoutLowest 2 = .ok (.iconst 0, 1) := by decide +kernel
theorem dX5_withoutLowest_3 : decode cX5_withoutLowest 3 = .ok (.istore 5, 2) := by decide +kernel
theorem dX5_withoutLowest_5 : decode cX5_withoutLowest 5 = .ok (.iload 5, 2) := by decide +kernel
theorem dX5_withoutLowest_7 : decode cX5_withoutLowest 7 = .ok (.iload_n 2, 1) := by decide +kernel
theorem dX5_withoutLowest_8 : decode cX5_withoutLowest 8 = .ok (.if_icmp .ge 15, 3) := by decide +kernel
theorem dX5_withoutLowest_11 : decode cX5_withoutLowest 11 = .ok (.lload_n 3, 1) := by decide +kernel
theorem dX5_withoutLowest_12 : decode cX5_withoutLowest 12 = .ok (.ldc2_w 15, 3) := by decide +kernel
theorem dX5_withoutLowest_15 : decode cX5_withoutLowest 15 = .ok (.ldiv, 1) := by decide +kernel
theorem dX5_withoutLowest_16 : decode cX5_withoutLowest 16 = .ok (.lstore_n 3, 1) := by decide +kernel
theorem dX5_withoutLowest_17 : decode cX5_withoutLowest 17 = .ok (.iinc 5 1, 3) := by decide +kernel
theorem dX5_withoutLowest_20 : decode cX5_withoutLowest 20 = .ok (.goto (-15), 3) := by decide +kernel
theorem dX5_withoutLowest_23 : decode cX5_withoutLowest 23 = .ok (.lload_n 3, 1) := by decide +kernel
theorem dX5_withoutLowest_24 : decode cX5_withoutLowest 24 = .ok (.lreturn, 1) := by decide +kernel
theorem dX5_succeeds_0 : decode cX5_succeeds 0 = .ok (.iload_n 1, 1) := by decide +kernel
theorem dX5_succeeds_1 : decode cX5_succeeds 1 = .ok (.bipush 100, 2) := by decide +kernel
theorem dX5_succeeds_3 : decode cX5_succeeds 3 = .ok (.idiv, 1) := by decide +kernel
theorem dX5_succeeds_4 : decode cX5_succeeds 4 = .ok (.bipush 10, 2) := by decide +kernel
theorem dX5_succeeds_6 : decode cX5_succeeds 6 = .ok (.irem, 1) := by decide +kernel
theorem dX5_succeeds_7 : decode cX5_succeeds 7 = .ok (.istore_n 2, 1) := by decide +kernel
theorem dX5_succeeds_8 : decode cX5_succeeds 8 = .ok (.iload_n 1, 1) := by decide +kernel
theorem dX5_succeeds_9 : decode cX5_succeeds 9 = .ok (.bipush 10, 2) := by decide +kernel
theorem dX5_succeeds_11 : decode cX5_succeeds 11 = .ok (.idiv, 1) := by decide +kernel
theorem dX5_succeeds_12 : decode cX5_succeeds 12 = .ok (.bipush 10, 2) := by decide +kernel
theorem dX5_succeeds_14 : decode cX5_succeeds 14 = .ok (.irem, 1) := by decide +kernel
theorem dX5_succeeds_15 : decode cX5_succeeds 15 = .ok (.istore_n 3, 1) := by decide +kernel
theorem dX5_succeeds_16 : decode cX5_succeeds 16 = .ok (.iload_n 1, 1) := by decide +kernel
theorem dX5_succeeds_17 : decode cX5_succeeds 17 = .ok (.bipush 10, 2) := by decide +kernel
theorem dX5_succeeds_19 : decode cX5_succeeds 19 = .ok (.irem, 1) := by decide +kernel
theorem dX5_succeeds_20 : decode cX5_succeeds 20 = .ok (.istore 4, 2) := by decide +kernel
theorem dX5_succeeds_22 : decode cX5_succeeds 22 = .ok (.iload_n 1, 1) := by decide +kernel
theorem dX5_succeeds_23 : decode cX5_succeeds 23 = .ok (.sipush 1000, 3) := by decide +kernel
theorem dX5_succeeds_26 : decode cX5_succeeds 26 = .ok (.idiv, 1) := by decide +kernel
theorem dX5_succeeds_27 : decode cX5_succeeds 27 = .ok (.tableswitch 214 1 8 #[45, 65, 85, 106, 135, 153, 171, 194], 45) := by decide +kernel
theorem dX5_succeeds_72 : decode cX5_succeeds 72 = .ok (.iload 4, 2) := by decide +kernel
theorem dX5_succeeds_74 : decode cX5_succeeds 74 = .ok (.ifCond .ne 16, 3) := by decide +kernel
theorem dX5_succeeds_77 : decode cX5_succeeds 77 = .ok (.aload_n 0, 1) := by decide +kernel
theorem dX5_succeeds_78 : decode cX5_succeeds 78 = .ok (.iload_n 2, 1) := by decide +kernel
theorem dX5_succeeds_79 : decode cX5_succeeds 79 = .ok (.iload_n 3, 1) := by decide +kernel
theorem dX5_succeeds_80 : decode cX5_succeeds 80 = .ok (.invokestatic 21, 3) := by decide +kernel
theorem dX5_succeeds_83 : decode cX5_succeeds 83 = .ok (.ifCond .eq 7, 3) := by decide +kernel
theorem dX5_succeeds_86 : decode cX5_succeeds 86 = .ok (.iconst 1, 1) := by decide +kernel
theorem dX5_succeeds_87 : decode cX5_succeeds 87 = .ok (.goto 4, 3) := by decide +kernel
theorem dX5_succeeds_90 : decode cX5_succeeds 90 = .ok (.iconst 0, 1) := by decide +kernel
theorem dX5_succeeds_91 : decode cX5_succeeds 91 = .ok (.ireturn, 1) := by decide +kernel
theorem dX5_succeeds_92 : decode cX5_succeeds 92 = .ok (.iload 4, 2) := by decide +kernel
theorem dX5_succeeds_94 : decode cX5_succeeds 94 = .ok (.ifCond .ne 16, 3) := by decide +kernel
theorem dX5_succeeds_97 : decode cX5_succeeds 97 = .ok (.aload_n 0, 1) := by decide +kernel
theorem dX5_succeeds_98 : decode cX5_succeeds 98 = .ok (.iload_n 2, 1) := by decide +kernel
theorem dX5_succeeds_99 : decode cX5_succeeds 99 = .ok (.iload_n 3, 1) := by decide +kernel
theorem dX5_succeeds_100 : decode cX5_succeeds 100 = .ok (.invokestatic 25, 3) := by decide +kernel
theorem dX5_succeeds_103 : decode cX5_succeeds 103 = .ok (.ifCond .eq 7, 3) := by decide +kernel
theorem dX5_succeeds_106 : decode cX5_succeeds 106 = .ok (.iconst 1, 1) := by decide +kernel
theorem dX5_succeeds_107 : decode cX5_succeeds 107 = .ok (.goto 4, 3) := by decide +kernel
theorem dX5_succeeds_110 : decode cX5_succeeds 110 = .ok (.iconst 0, 1) := by decide +kernel
theorem dX5_succeeds_111 : decode cX5_succeeds 111 = .ok (.ireturn, 1) := by decide +kernel
theorem dX5_succeeds_112 : decode cX5_succeeds 112 = .ok (.iload_n 2, 1) := by decide +kernel
theorem dX5_succeeds_113 : decode cX5_succeeds 113 = .ok (.ifCond .ne 18, 3) := by decide +kernel
theorem dX5_succeeds_116 : decode cX5_succeeds 116 = .ok (.aload_n 0, 1) := by decide +kernel
theorem dX5_succeeds_117 : decode cX5_succeeds 117 = .ok (.iload_n 1, 1) := by decide +kernel
theorem dX5_succeeds_118 : decode cX5_succeeds 118 = .ok (.bipush 100, 2) := by decide +kernel
theorem dX5_succeeds_120 : decode cX5_succeeds 120 = .ok (.irem, 1) := by decide +kernel
theorem dX5_succeeds_121 : decode cX5_succeeds 121 = .ok (.invokestatic 28, 3) := by decide +kernel
theorem dX5_succeeds_124 : decode cX5_succeeds 124 = .ok (.ifCond .eq 7, 3) := by decide +kernel
theorem dX5_succeeds_127 : decode cX5_succeeds 127 = .ok (.iconst 1, 1) := by decide +kernel
theorem dX5_succeeds_128 : decode cX5_succeeds 128 = .ok (.goto 4, 3) := by decide +kernel
theorem dX5_succeeds_131 : decode cX5_succeeds 131 = .ok (.iconst 0, 1) := by decide +kernel
theorem dX5_succeeds_132 : decode cX5_succeeds 132 = .ok (.ireturn, 1) := by decide +kernel
theorem dX5_succeeds_133 : decode cX5_succeeds 133 = .ok (.aload_n 0, 1) := by decide +kernel
theorem dX5_succeeds_134 : decode cX5_succeeds 134 = .ok (.getfield 31, 3) := by decide +kernel
theorem dX5_succeeds_137 : decode cX5_succeeds 137 = .ok (.iload_n 2, 1) := by decide +kernel
theorem dX5_succeeds_138 : decode cX5_succeeds 138 = .ok (.invokevirtual 37, 3) := by decide +kernel
theorem dX5_succeeds_141 : decode cX5_succeeds 141 = .ok (.ifCond .eq 19, 3) := by decide +kernel
theorem dX5_succeeds_144 : decode cX5_succeeds 144 = .ok (.aload_n 0, 1) := by decide +kernel
theorem dX5_succeeds_145 : decode cX5_succeeds 145 = .ok (.iload_n 2, 1) := by decide +kernel
theorem dX5_succeeds_146 : decode cX5_succeeds 146 = .ok (.invokestatic 43, 3) := by decide +kernel
theorem dX5_succeeds_149 : decode cX5_succeeds 149 = .ok (.iload_n 1, 1) := by decide +kernel
theorem dX5_succeeds_150 : decode cX5_succeeds 150 = .ok (.bipush 100, 2) := by decide +kernel
theorem dX5_succeeds_152 : decode cX5_succeeds 152 = .ok (.irem, 1) := by decide +kernel
theorem dX5_succeeds_153 : decode cX5_succeeds 153 = .ok (.if_icmp .ne 7, 3) := by decide +kernel
theorem dX5_succeeds_156 : decode cX5_succeeds 156 = .ok (.iconst 1, 1) := by decide +kernel
theorem dX5_succeeds_157 : decode cX5_succeeds 157 = .ok (.goto 4, 3) := by decide +kernel
theorem dX5_succeeds_160 : decode cX5_succeeds 160 = .ok (.iconst 0, 1) := by decide +kernel
theorem dX5_succeeds_161 : decode cX5_succeeds 161 = .ok (.ireturn, 1) := by decide +kernel
theorem dX5_succeeds_162 : decode cX5_succeeds 162 = .ok (.aload_n 0, 1) := by decide +kernel
theorem dX5_succeeds_163 : decode cX5_succeeds 163 = .ok (.invokevirtual 49, 3) := by decide +kernel
theorem dX5_succeeds_166 : decode cX5_succeeds 166 = .ok (.iload_n 1, 1) := by decide +kernel
theorem dX5_succeeds_167 : decode cX5_succeeds 167 = .ok (.sipush 1000, 3) := by decide +kernel
theorem dX5_succeeds_170 : decode cX5_succeeds 170 = .ok (.irem, 1) := by decide +kernel
theorem dX5_succeeds_171 : decode cX5_succeeds 171 = .ok (.if_icmp .ne 7, 3) := by decide +kernel
theorem dX5_succeeds_174 : decode cX5_succeeds 174 = .ok (.iconst 1, 1) := by decide +kernel
theorem dX5_succeeds_175 : decode cX5_succeeds 175 = .ok (.goto 4, 3) := by decide +kernel
theorem dX5_succeeds_178 : decode cX5_succeeds 178 = .ok (.iconst 0, 1) := by decide +kernel
theorem dX5_succeeds_179 : decode cX5_succeeds 179 = .ok (.ireturn, 1) := by decide +kernel
theorem dX5_succeeds_180 : decode cX5_succeeds 180 = .ok (.aload_n 0, 1) := by decide +kernel
theorem dX5_succeeds_181 : decode cX5_succeeds 181 = .ok (.invokestatic 53, 3) := by decide +kernel
theorem dX5_succeeds_184 : decode cX5_succeeds 184 = .ok (.iload_n 1, 1) := by decide +kernel
theorem dX5_succeeds_185 : decode cX5_succeeds 185 = .ok (.sipush 1000, 3) := by decide +kernel
theorem dX5_succeeds_188 : decode cX5_succeeds 188 = .ok (.irem, 1) := by decide +kernel
theorem dX5_succeeds_189 : decode cX5_succeeds 189 = .ok (.if_icmp .ne 7, 3) := by decide +kernel
theorem dX5_succeeds_192 : decode cX5_succeeds 192 = .ok (.iconst 1, 1) := by decide +kernel
theorem dX5_succeeds_193 : decode cX5_succeeds 193 = .ok (.goto 4, 3) := by decide +kernel
theorem dX5_succeeds_196 : decode cX5_succeeds 196 = .ok (.iconst 0, 1) := by decide +kernel
theorem dX5_succeeds_197 : decode cX5_succeeds 197 = .ok (.ireturn, 1) := by decide +kernel
theorem dX5_succeeds_198 : decode cX5_succeeds 198 = .ok (.iload_n 3, 1) := by decide +kernel
theorem dX5_succeeds_199 : decode cX5_succeeds 199 = .ok (.ifCond .ne 20, 3) := by decide +kernel
theorem dX5_succeeds_202 : decode cX5_succeeds 202 = .ok (.iload 4, 2) := by decide +kernel
theorem dX5_succeeds_204 : decode cX5_succeeds 204 = .ok (.ifCond .ne 15, 3) := by decide +kernel
theorem dX5_succeeds_207 : decode cX5_succeeds 207 = .ok (.aload_n 0, 1) := by decide +kernel
theorem dX5_succeeds_208 : decode cX5_succeeds 208 = .ok (.iload_n 2, 1) := by decide +kernel
theorem dX5_succeeds_209 : decode cX5_succeeds 209 = .ok (.invokestatic 57, 3) := by decide +kernel
theorem dX5_succeeds_212 : decode cX5_succeeds 212 = .ok (.ifCond .eq 7, 3) := by decide +kernel
theorem dX5_succeeds_215 : decode cX5_succeeds 215 = .ok (.iconst 1, 1) := by decide +kernel
theorem dX5_succeeds_216 : decode cX5_succeeds 216 = .ok (.goto 4, 3) := by decide +kernel
theorem dX5_succeeds_219 : decode cX5_succeeds 219 = .ok (.iconst 0, 1) := by decide +kernel
theorem dX5_succeeds_220 : decode cX5_succeeds 220 = .ok (.ireturn, 1) := by decide +kernel
theorem dX5_succeeds_221 : decode cX5_succeeds 221 = .ok (.iload 4, 2) := by decide +kernel
theorem dX5_succeeds_223 : decode cX5_succeeds 223 = .ok (.ifCond .ne 16, 3) := by decide +kernel
theorem dX5_succeeds_226 : decode cX5_succeeds 226 = .ok (.aload_n 0, 1) := by decide +kernel
theorem dX5_succeeds_227 : decode cX5_succeeds 227 = .ok (.iload_n 2, 1) := by decide +kernel
theorem dX5_succeeds_228 : decode cX5_succeeds 228 = .ok (.iload_n 3, 1) := by decide +kernel
theorem dX5_succeeds_229 : decode cX5_succeeds 229 = .ok (.invokestatic 60, 3) := by decide +kernel
theorem dX5_succeeds_232 : decode cX5_succeeds 232 = .ok (.ifCond .eq 7, 3) := by decide +kernel
theorem dX5_succeeds_235 : decode cX5_succeeds 235 = .ok (.iconst 1, 1) := by decide +kernel
theorem dX5_succeeds_236 : decode cX5_succeeds 236 = .ok (.goto 4, 3) := by decide +kernel
theorem dX5_succeeds_239 : decode cX5_succeeds 239 = .ok (.iconst 0, 1) := by decide +kernel
theorem dX5_succeeds_240 : decode cX5_succeeds 240 = .ok (.ireturn, 1) := by decide +kernel
theorem dX5_succeeds_241 : decode cX5_succeeds 241 = .ok (.iconst 0, 1) := by decide +kernel
theorem dX5_succeeds_242 : decode cX5_succeeds 242 = .ok (.ireturn, 1) := by decide +kernel
theorem dX5_exchanged_0 : decode cX5_exchanged 0 = .ok (.aload_n 0, 1) := by decide +kernel
theorem dX5_exchanged_1 : decode cX5_exchanged 1 = .ok (.iload_n 1, 1) := by decide +kernel
theorem dX5_exchanged_2 : decode cX5_exchanged 2 = .ok (.iload_n 2, 1) := by decide +kernel
theorem dX5_exchanged_3 : decode cX5_exchanged 3 = .ok (.invokevirtual 63, 3) := by decide +kernel
theorem dX5_exchanged_6 : decode cX5_exchanged 6 = .ok (.ifCond .eq 5, 3) := by decide +kernel
theorem dX5_exchanged_9 : decode cX5_exchanged 9 = .ok (.iconst 0, 1) := by decide +kernel
theorem dX5_exchanged_10 : decode cX5_exchanged 10 = .ok (.ireturn, 1) := by decide +kernel
theorem dX5_exchanged_11 : decode cX5_exchanged 11 = .ok (.aload_n 0, 1) := by decide +kernel
theorem dX5_exchanged_12 : decode cX5_exchanged 12 = .ok (.iload_n 1, 1) := by decide +kernel
theorem dX5_exchanged_13 : decode cX5_exchanged 13 = .ok (.iload_n 2, 1) := by decide +kernel
theorem dX5_exchanged_14 : decode cX5_exchanged 14 = .ok (.invokevirtual 67, 3) := by decide +kernel
theorem dX5_exchanged_17 : decode cX5_exchanged 17 = .ok (.iconst 1, 1) := by decide +kernel
theorem dX5_exchanged_18 : decode cX5_exchanged 18 = .ok (.ireturn, 1) := by decide +kernel
theorem dX5_turned_0 : decode cX5_turned 0 = .ok (.aload_n 0, 1) := by decide +kernel
theorem dX5_turned_1 : decode cX5_turned 1 = .ok (.iload_n 1, 1) := by decide +kernel
theorem dX5_turned_2 : decode cX5_turned 2 = .ok (.iload_n 2, 1) := by decide +kernel
theorem dX5_turned_3 : decode cX5_turned 3 = .ok (.invokevirtual 71, 3) := by decide +kernel
theorem dX5_turned_6 : decode cX5_turned 6 = .ok (.ifCond .eq 5, 3) := by decide +kernel
theorem dX5_turned_9 : decode cX5_turned 9 = .ok (.iconst 0, 1) := by decide +kernel
theorem dX5_turned_10 : decode cX5_turned 10 = .ok (.ireturn, 1) := by decide +kernel
theorem dX5_turned_11 : decode cX5_turned 11 = .ok (.aload_n 0, 1) := by decide +kernel
theorem dX5_turned_12 : decode cX5_turned 12 = .ok (.iload_n 1, 1) := by decide +kernel
theorem dX5_turned_13 : decode cX5_turned 13 = .ok (.iload_n 2, 1) := by decide +kernel
theorem dX5_turned_14 : decode cX5_turned 14 = .ok (.invokevirtual 74, 3) := by decide +kernel
theorem dX5_turned_17 : decode cX5_turned 17 = .ok (.iconst 1, 1) := by decide +kernel
theorem dX5_turned_18 : decode cX5_turned 18 = .ok (.ireturn, 1) := by decide +kernel
theorem dX5_divided_0 : decode cX5_divided 0 = .ok (.iload_n 1, 1) := by decide +kernel
theorem dX5_divided_1 : decode cX5_divided 1 = .ok (.invokestatic 77, 3) := by decide +kernel
theorem dX5_divided_4 : decode cX5_divided 4 = .ok (.ifCond .eq 5, 3) := by decide +kernel
theorem dX5_divided_7 : decode cX5_divided 7 = .ok (.iconst 0, 1) := by decide +kernel
theorem dX5_divided_8 : decode cX5_divided 8 = .ok (.ireturn, 1) := by decide +kernel
theorem dX5_divided_9 : decode cX5_divided 9 = .ok (.aload_n 0, 1) := by decide +kernel
theorem dX5_divided_10 : decode cX5_divided 10 = .ok (.iload_n 1, 1) := by decide +kernel
theorem dX5_divided_11 : decode cX5_divided 11 = .ok (.invokevirtual 81, 3) := by decide +kernel
theorem dX5_divided_14 : decode cX5_divided 14 = .ok (.iconst 1, 1) := by decide +kernel
theorem dX5_divided_15 : decode cX5_divided 15 = .ok (.ireturn, 1) := by decide +kernel
theorem dX5_wentAround_0 : decode cX5_wentAround 0 = .ok (.aload_n 0, 1) := by decide +kernel
theorem dX5_wentAround_1 : decode cX5_wentAround 1 = .ok (.iload_n 1, 1) := by decide +kernel
theorem dX5_wentAround_2 : decode cX5_wentAround 2 = .ok (.invokevirtual 85, 3) := by decide +kernel
theorem dX5_wentAround_5 : decode cX5_wentAround 5 = .ok (.ifCond .eq 5, 3) := by decide +kernel
theorem dX5_wentAround_8 : decode cX5_wentAround 8 = .ok (.iconst 0, 1) := by decide +kernel
theorem dX5_wentAround_9 : decode cX5_wentAround 9 = .ok (.ireturn, 1) := by decide +kernel
theorem dX5_wentAround_10 : decode cX5_wentAround 10 = .ok (.aload_n 0, 1) := by decide +kernel
theorem dX5_wentAround_11 : decode cX5_wentAround 11 = .ok (.iload_n 1, 1) := by decide +kernel
theorem dX5_wentAround_12 : decode cX5_wentAround 12 = .ok (.invokevirtual 88, 3) := by decide +kernel
theorem dX5_wentAround_15 : decode cX5_wentAround 15 = .ok (.pop, 1) := by decide +kernel
theorem dX5_wentAround_16 : decode cX5_wentAround 16 = .ok (.iconst 1, 1) := by decide +kernel
theorem dX5_wentAround_17 : decode cX5_wentAround 17 = .ok (.ireturn, 1) := by decide +kernel
theorem dX5_isFollowedBy_0 : decode cX5_isFollowedBy 0 = .ok (.aload_n 0, 1) := by decide +kernel
theorem dX5_isFollowedBy_1 : decode cX5_isFollowedBy 1 = .ok (.getfield 31, 3) := by decide +kernel
theorem dX5_isFollowedBy_4 : decode cX5_isFollowedBy 4 = .ok (.iload_n 1, 1) := by decide +kernel
theorem dX5_isFollowedBy_5 : decode cX5_isFollowedBy 5 = .ok (.invokevirtual 37, 3) := by decide +kernel
theorem dX5_isFollowedBy_8 : decode cX5_isFollowedBy 8 = .ok (.ifCond .eq 27, 3) := by decide +kernel
theorem dX5_isFollowedBy_11 : decode cX5_isFollowedBy 11 = .ok (.aload_n 0, 1) := by decide +kernel
theorem dX5_isFollowedBy_12 : decode cX5_isFollowedBy 12 = .ok (.getfield 31, 3) := by decide +kernel
theorem dX5_isFollowedBy_15 : decode cX5_isFollowedBy 15 = .ok (.iload_n 2, 1) := by decide +kernel
theorem dX5_isFollowedBy_16 : decode cX5_isFollowedBy 16 = .ok (.invokevirtual 37, 3) := by decide +kernel
theorem dX5_isFollowedBy_19 : decode cX5_isFollowedBy 19 = .ok (.ifCond .eq 16, 3) := by decide +kernel
theorem dX5_isFollowedBy_22 : decode cX5_isFollowedBy 22 = .ok (.aload_n 0, 1) := by decide +kernel
theorem dX5_isFollowedBy_23 : decode cX5_isFollowedBy 23 = .ok (.iload_n 1, 1) := by decide +kernel
theorem dX5_isFollowedBy_24 : decode cX5_isFollowedBy 24 = .ok (.invokevirtual 91, 3) := by decide +kernel
theorem dX5_isFollowedBy_27 : decode cX5_isFollowedBy 27 = .ok (.iload_n 2, 1) := by decide +kernel
theorem dX5_isFollowedBy_28 : decode cX5_isFollowedBy 28 = .ok (.if_icmp .ne 7, 3) := by decide +kernel
theorem dX5_isFollowedBy_31 : decode cX5_isFollowedBy 31 = .ok (.iconst 1, 1) := by decide +kernel
theorem dX5_isFollowedBy_32 : decode cX5_isFollowedBy 32 = .ok (.goto 4, 3) := by decide +kernel
theorem dX5_isFollowedBy_35 : decode cX5_isFollowedBy 35 = .ok (.iconst 0, 1) := by decide +kernel
theorem dX5_isFollowedBy_36 : decode cX5_isFollowedBy 36 = .ok (.ireturn, 1) := by decide +kernel
theorem dX6_init_0 : decode cX6_init 0 = .ok (.aload_n 0, 1) := by decide +kernel
theorem dX6_init_1 : decode cX6_init 1 = .ok (.invokespecial 3, 3) := by decide +kernel
theorem dX6_init_4 : decode cX6_init 4 = .ok (.aload_n 0, 1) := by decide +kernel
theorem dX6_init_5 : decode cX6_init 5 = .ok (.new 9, 3) := by decide +kernel
theorem dX6_init_8 : decode cX6_init 8 = .ok (.dup, 1) := by decide +kernel
theorem dX6_init_9 : decode cX6_init 9 = .ok (.invokespecial 11, 3) := by decide +kernel
theorem dX6_init_12 : decode cX6_init 12 = .ok (.putfield 12, 3) := by decide +kernel
theorem dX6_init_15 : decode cX6_init 15 = .ok (.aload_n 0, 1) := by decide +kernel
theorem dX6_init_16 : decode cX6_init 16 = .ok (.new 18, 3) := by decide +kernel
theorem dX6_init_19 : decode cX6_init 19 = .ok (.dup, 1) := by decide +kernel
theorem dX6_init_20 : decode cX6_init 20 = .ok (.aload_n 0, 1) := by decide +kernel
theorem dX6_init_21 : decode cX6_init 21 = .ok (.getfield 12, 3) := by decide +kernel
theorem dX6_init_24 : decode cX6_init 24 = .ok (.invokespecial 20, 3) := by decide +kernel
theorem dX6_init_27 : decode cX6_init 27 = .ok (.putfield 23, 3) := by decide +kernel
theorem dX6_init_30 : decode cX6_init 30 = .ok (.aload_n 0, 1) := by decide +kernel
theorem dX6_init_31 : decode cX6_init 31 = .ok (.bipush 99, 2) := by decide +kernel
theorem dX6_init_33 : decode cX6_init 33 = .ok (.newarray .int, 2) := by decide +kernel
theorem dX6_init_35 : decode cX6_init 35 = .ok (.putfield 27, 3) := by decide +kernel
theorem dX6_init_38 : decode cX6_init 38 = .ok (.aload_n 0, 1) := by decide +kernel
theorem dX6_init_39 : decode cX6_init 39 = .ok (.iconst 0, 1) := by decide +kernel
theorem dX6_init_40 : decode cX6_init 40 = .ok (.putfield 31, 3) := by decide +kernel
theorem dX6_init_43 : decode cX6_init 43 = .ok (.aload_n 0, 1) := by decide +kernel
theorem dX6_init_44 : decode cX6_init 44 = .ok (.iconst 0, 1) := by decide +kernel
theorem dX6_init_45 : decode cX6_init 45 = .ok (.putfield 35, 3) := by decide +kernel
theorem dX6_init_48 : decode cX6_init 48 = .ok (.return_, 1) := by decide +kernel
theorem dX6_addSign_0 : decode cX6_addSign 0 = .ok (.iload_n 1, 1) := by decide +kernel
theorem dX6_addSign_1 : decode cX6_addSign 1 = .ok (.ifCond .lt 10, 3) := by decide +kernel
theorem dX6_addSign_4 : decode cX6_addSign 4 = .ok (.iload_n 1, 1) := by decide +kernel
theorem dX6_addSign_5 : decode cX6_addSign 5 = .ok (.sipush 255, 3) := by decide +kernel
theorem dX6_addSign_8 : decode cX6_addSign 8 = .ok (.if_icmp .le 6, 3) := by decide +kernel
theorem dX6_addSign_11 : decode cX6_addSign 11 = .ok (.bipush (-2), 2) := by decide +kernel
theorem dX6_addSign_13 : decode cX6_addSign 13 = .ok (.ireturn, 1) := by decide +kernel
theorem dX6_addSign_14 : decode cX6_addSign 14 = .ok (.aload_n 0, 1) := by decide +kernel
theorem dX6_addSign_15 : decode cX6_addSign 15 = .ok (.getfield 31, 3) := by decide +kernel
theorem dX6_addSign_18 : decode cX6_addSign 18 = .ok (.bipush 99, 2) := by decide +kernel
theorem dX6_addSign_20 : decode cX6_addSign 20 = .ok (.if_icmp .lt 6, 3) := by decide +kernel
theorem dX6_addSign_23 : decode cX6_addSign 23 = .ok (.bipush (-4), 2) := by decide +kernel
theorem dX6_addSign_25 : decode cX6_addSign 25 = .ok (.ireturn, 1) := by decide +kernel
theorem dX6_addSign_26 : decode cX6_addSign 26 = .ok (.aload_n 0, 1) := by decide +kernel
theorem dX6_addSign_27 : decode cX6_addSign 27 = .ok (.getfield 27, 3) := by decide +kernel
theorem dX6_addSign_30 : decode cX6_addSign 30 = .ok (.aload_n 0, 1) := by decide +kernel
theorem dX6_addSign_31 : decode cX6_addSign 31 = .ok (.getfield 31, 3) := by decide +kernel
theorem dX6_addSign_34 : decode cX6_addSign 34 = .ok (.iload_n 1, 1) := by decide +kernel
theorem dX6_addSign_35 : decode cX6_addSign 35 = .ok (.iastore, 1) := by decide +kernel
theorem dX6_addSign_36 : decode cX6_addSign 36 = .ok (.aload_n 0, 1) := by decide +kernel
theorem dX6_addSign_37 : decode cX6_addSign 37 = .ok (.dup, 1) := by decide +kernel
theorem dX6_addSign_38 : decode cX6_addSign 38 = .ok (.getfield 31, 3) := by decide +kernel
theorem dX6_addSign_41 : decode cX6_addSign 41 = .ok (.iconst 1, 1) := by decide +kernel
theorem dX6_addSign_42 : decode cX6_addSign 42 = .ok (.iadd, 1) := by decide +kernel
theorem dX6_addSign_43 : decode cX6_addSign 43 = .ok (.putfield 31, 3) := by decide +kernel
theorem dX6_addSign_46 : decode cX6_addSign 46 = .ok (.aload_n 0, 1) := by decide +kernel
theorem dX6_addSign_47 : decode cX6_addSign 47 = .ok (.getfield 31, 3) := by decide +kernel
theorem dX6_addSign_50 : decode cX6_addSign 50 = .ok (.ireturn, 1) := by decide +kernel
theorem dX6_dropSigns_0 : decode cX6_dropSigns 0 = .ok (.aload_n 0, 1) := by decide +kernel
theorem dX6_dropSigns_1 : decode cX6_dropSigns 1 = .ok (.getfield 31, 3) := by decide +kernel
theorem dX6_dropSigns_4 : decode cX6_dropSigns 4 = .ok (.istore_n 1, 1) := by decide +kernel
theorem dX6_dropSigns_5 : decode cX6_dropSigns 5 = .ok (.aload_n 0, 1) := by decide +kernel
theorem dX6_dropSigns_6 : decode cX6_dropSigns 6 = .ok (.iconst 0, 1) := by decide +kernel
theorem dX6_dropSigns_7 : decode cX6_dropSigns 7 = .ok (.putfield 31, 3) := by decide +kernel
theorem dX6_dropSigns_10 : decode cX6_dropSigns 10 = .ok (.iload_n 1, 1) := by decide +kernel
theorem dX6_dropSigns_11 : decode cX6_dropSigns 11 = .ok (.ireturn, 1) := by decide +kernel
theorem dX6_read_0 : decode cX6_read 0 = .ok (.aload_n 0, 1) := by decide +kernel
theorem dX6_read_1 : decode cX6_read 1 = .ok (.iconst 0, 1) := by decide +kernel
theorem dX6_read_2 : decode cX6_read 2 = .ok (.putfield 35, 3) := by decide +kernel
theorem dX6_read_5 : decode cX6_read 5 = .ok (.aload_n 0, 1) := by decide +kernel
theorem dX6_read_6 : decode cX6_read 6 = .ok (.invokevirtual 38, 3) := by decide +kernel
theorem dX6_read_9 : decode cX6_read 9 = .ok (.ifCond .eq 25, 3) := by decide +kernel
theorem dX6_read_12 : decode cX6_read 12 = .ok (.aload_n 0, 1) := by decide +kernel
theorem dX6_read_13 : decode cX6_read 13 = .ok (.invokevirtual 42, 3) := by decide +kernel
theorem dX6_read_16 : decode cX6_read 16 = .ok (.ifCond .eq 18, 3) := by decide +kernel
theorem dX6_read_19 : decode cX6_read 19 = .ok (.aload_n 0, 1) := by decide +kernel
theorem dX6_read_20 : decode cX6_read 20 = .ok (.getfield 35, 3) := by decide +kernel
theorem dX6_read_23 : decode cX6_read 23 = .ok (.aload_n 0, 1) := by decide +kernel
theorem dX6_read_24 : decode cX6_read 24 = .ok (.getfield 31, 3) := by decide +kernel
theorem dX6_read_27 : decode cX6_read 27 = .ok (.if_icmp .ne 7, 3) := by decide +kernel
theorem dX6_read_30 : decode cX6_read 30 = .ok (.iconst 1, 1) := by decide +kernel
theorem dX6_read_31 : decode cX6_read 31 = .ok (.goto 4, 3) := by decide +kernel
theorem dX6_read_34 : decode cX6_read 34 = .ok (.iconst 0, 1) := by decide +kernel
theorem dX6_read_35 : decode cX6_read 35 = .ok (.istore_n 1, 1) := by decide +kernel
theorem dX6_read_36 : decode cX6_read 36 = .ok (.iload_n 1, 1) := by decide +kernel
theorem dX6_read_37 : decode cX6_read 37 = .ok (.ifCond .eq 8, 3) := by decide +kernel
theorem dX6_read_40 : decode cX6_read 40 = .ok (.bipush (-9), 2) := by decide +kernel
theorem dX6_read_42 : decode cX6_read 42 = .ok (.goto 7, 3) := by decide +kernel
theorem dX6_read_45 : decode cX6_read 45 = .ok (.aload_n 0, 1) := by decide +kernel
theorem dX6_read_46 : decode cX6_read 46 = .ok (.getfield 35, 3) := by decide +kernel
theorem dX6_read_49 : decode cX6_read 49 = .ok (.ireturn, 1) := by decide +kernel
theorem dX6_readHead_0 : decode cX6_readHead 0 = .ok (.aload_n 0, 1) := by decide +kernel
theorem dX6_readHead_1 : decode cX6_readHead 1 = .ok (.getfield 35, 3) := by decide +kernel
theorem dX6_readHead_4 : decode cX6_readHead 4 = .ok (.aload_n 0, 1) := by decide +kernel
theorem dX6_readHead_5 : decode cX6_readHead 5 = .ok (.getfield 31, 3) := by decide +kernel
theorem dX6_readHead_8 : decode cX6_readHead 8 = .ok (.if_icmp .ge 17, 3) := by decide +kernel
theorem dX6_readHead_11 : decode cX6_readHead 11 = .ok (.aload_n 0, 1) := by decide +kernel
theorem dX6_readHead_12 : decode cX6_readHead 12 = .ok (.getfield 27, 3) := by decide +kernel
theorem dX6_readHead_15 : decode cX6_readHead 15 = .ok (.aload_n 0, 1) := by decide +kernel
theorem dX6_readHead_16 : decode cX6_readHead 16 = .ok (.getfield 35, 3) := by decide +kernel
theorem dX6_readHead_19 : decode cX6_readHead 19 = .ok (.iaload, 1) := by decide +kernel
theorem dX6_readHead_20 : decode cX6_readHead 20 = .ok (.bipush 66, 2) := by decide +kernel
theorem dX6_readHead_22 : decode cX6_readHead 22 = .ok (.if_icmp .eq 5, 3) := by decide +kernel
theorem dX6_readHead_25 : decode cX6_readHead 25 = .ok (.iconst 0, 1) := by decide +kernel
theorem dX6_readHead_26 : decode cX6_readHead 26 = .ok (.ireturn, 1) := by decide +kernel
theorem dX6_readHead_27 : decode cX6_readHead 27 = .ok (.aload_n 0, 1) := by decide +kernel
theorem dX6_readHead_28 : decode cX6_readHead 28 = .ok (.dup, 1) := by decide +kernel
theorem dX6_readHead_29 : decode cX6_readHead 29 = .ok (.getfield 35, 3) := by decide +kernel
theorem dX6_readHead_32 : decode cX6_readHead 32 = .ok (.iconst 1, 1) := by decide +kernel
theorem dX6_readHead_33 : decode cX6_readHead 33 = .ok (.iadd, 1) := by decide +kernel
theorem dX6_readHead_34 : decode cX6_readHead 34 = .ok (.putfield 35, 3) := by decide +kernel
theorem dX6_readHead_37 : decode cX6_readHead 37 = .ok (.aload_n 0, 1) := by decide +kernel
theorem dX6_readHead_38 : decode cX6_readHead 38 = .ok (.iconst 1, 1) := by decide +kernel
theorem dX6_readHead_39 : decode cX6_readHead 39 = .ok (.bipush 8, 2) := by decide +kernel
theorem dX6_readHead_41 : decode cX6_readHead 41 = .ok (.invokevirtual 45, 3) := by decide +kernel
theorem dX6_readHead_44 : decode cX6_readHead 44 = .ok (.istore_n 1, 1) := by decide +kernel
theorem dX6_readHead_45 : decode cX6_readHead 45 = .ok (.iload_n 1, 1) := by decide +kernel
theorem dX6_readHead_46 : decode cX6_readHead 46 = .ok (.ifCond .ge 5, 3) := by decide +kernel
theorem dX6_readHead_49 : decode cX6_readHead 49 = .ok (.iconst 0, 1) := by decide +kernel
theorem dX6_readHead_50 : decode cX6_readHead 50 = .ok (.ireturn, 1) := by decide +kernel
theorem dX6_readHead_51 : decode cX6_readHead 51 = .ok (.aload_n 0, 1) := by decide +kernel
theorem dX6_readHead_52 : decode cX6_readHead 52 = .ok (.getfield 12, 3) := by decide +kernel
theorem dX6_readHead_55 : decode cX6_readHead 55 = .ok (.iload_n 1, 1) := by decide +kernel
theorem dX6_readHead_56 : decode cX6_readHead 56 = .ok (.putfield 49, 3) := by decide +kernel
theorem dX6_readHead_59 : decode cX6_readHead 59 = .ok (.aload_n 0, 1) := by decide +kernel
theorem dX6_readHead_60 : decode cX6_readHead 60 = .ok (.invokevirtual 52, 3) := by decide +kernel
theorem dX6_readHead_63 : decode cX6_readHead 63 = .ok (.istore_n 2, 1) := by decide +kernel
theorem dX6_readHead_64 : decode cX6_readHead 64 = .ok (.aload_n 0, 1) := by decide +kernel
theorem dX6_readHead_65 : decode cX6_readHead 65 = .ok (.getfield 12, 3) := by decide +kernel
theorem dX6_readHead_68 : decode cX6_readHead 68 = .ok (.iload_n 2, 1) := by decide +kernel
theorem dX6_readHead_69 : decode cX6_readHead 69 = .ok (.putfield 56, 3) := by decide +kernel
theorem dX6_readHead_72 : decode cX6_readHead 72 = .ok (.aload_n 0, 1) := by decide +kernel
theorem dX6_readHead_73 : decode cX6_readHead 73 = .ok (.getfield 23, 3) := by decide +kernel
theorem dX6_readHead_76 : decode cX6_readHead 76 = .ok (.invokevirtual 59, 3) := by decide +kernel
theorem dX6_readHead_79 : decode cX6_readHead 79 = .ok (.iload_n 2, 1) := by decide +kernel
theorem dX6_readHead_80 : decode cX6_readHead 80 = .ok (.ifCond .lt 7, 3) := by decide +kernel
theorem dX6_readHead_83 : decode cX6_readHead 83 = .ok (.iconst 1, 1) := by decide +kernel
theorem dX6_readHead_84 : decode cX6_readHead 84 = .ok (.goto 4, 3) := by decide +kernel
theorem dX6_readHead_87 : decode cX6_readHead 87 = .ok (.iconst 0, 1) := by decide +kernel
theorem dX6_readHead_88 : decode cX6_readHead 88 = .ok (.ireturn, 1) := by decide +kernel
theorem dX6_readBlocks_0 : decode cX6_readBlocks 0 = .ok (.iconst 0, 1) := by decide +kernel
theorem dX6_readBlocks_1 : decode cX6_readBlocks 1 = .ok (.istore_n 1, 1) := by decide +kernel
theorem dX6_readBlocks_2 : decode cX6_readBlocks 2 = .ok (.iload_n 1, 1) := by decide +kernel
theorem dX6_readBlocks_3 : decode cX6_readBlocks 3 = .ok (.aload_n 0, 1) := by decide +kernel
theorem dX6_readBlocks_4 : decode cX6_readBlocks 4 = .ok (.getfield 12, 3) := by decide +kernel
theorem dX6_readBlocks_7 : decode cX6_readBlocks 7 = .ok (.getfield 49, 3) := by decide +kernel
theorem dX6_readBlocks_10 : decode cX6_readBlocks 10 = .ok (.if_icmp .ge 19, 3) := by decide +kernel
theorem dX6_readBlocks_13 : decode cX6_readBlocks 13 = .ok (.aload_n 0, 1) := by decide +kernel
theorem dX6_readBlocks_14 : decode cX6_readBlocks 14 = .ok (.iload_n 1, 1) := by decide +kernel
theorem dX6_readBlocks_15 : decode cX6_readBlocks 15 = .ok (.invokevirtual 62, 3) := by decide +kernel
theorem dX6_readBlocks_18 : decode cX6_readBlocks 18 = .ok (.ifCond .ne 5, 3) := by decide +kernel
theorem dX6_readBlocks_21 : decode cX6_readBlocks 21 = .ok (.iconst 0, 1) := by decide +kernel
theorem dX6_readBlocks_22 : decode cX6_readBlocks 22 = .ok (.ireturn, 1) := by decide +kernel
theorem dX6_readBlocks_23 : decode cX6_readBlocks 23 = .ok (.iinc 1 1, 3) := by decide +kernel
theorem dX6_readBlocks_26 : decode cX6_readBlocks 26 = .ok (.goto (-24), 3) := by decide +kernel
theorem dX6_readBlocks_29 : decode cX6_readBlocks 29 = .ok (.iconst 1, 1) := by decide +kernel
theorem dX6_readBlocks_30 : decode cX6_readBlocks 30 = .ok (.ireturn, 1) := by decide +kernel
theorem dX6_readBlock_0 : decode cX6_readBlock 0 = .ok (.aload_n 0, 1) := by decide +kernel
theorem dX6_readBlock_1 : decode cX6_readBlock 1 = .ok (.iconst 0, 1) := by decide +kernel
theorem dX6_readBlock_2 : decode cX6_readBlock 2 = .ok (.bipush 9, 2) := by decide +kernel
theorem dX6_readBlock_4 : decode cX6_readBlock 4 = .ok (.invokevirtual 45, 3) := by decide +kernel
theorem dX6_readBlock_7 : decode cX6_readBlock 7 = .ok (.istore_n 2, 1) := by decide +kernel
theorem dX6_readBlock_8 : decode cX6_readBlock 8 = .ok (.iload_n 2, 1) := by decide +kernel
theorem dX6_readBlock_9 : decode cX6_readBlock 9 = .ok (.ifCond .ge 5, 3) := by decide +kernel
theorem dX6_readBlock_12 : decode cX6_readBlock 12 = .ok (.iconst 0, 1) := by decide +kernel
theorem dX6_readBlock_13 : decode cX6_readBlock 13 = .ok (.ireturn, 1) := by decide +kernel
theorem dX6_readBlock_14 : decode cX6_readBlock 14 = .ok (.aload_n 0, 1) := by decide +kernel
theorem dX6_readBlock_15 : decode cX6_readBlock 15 = .ok (.getfield 12, 3) := by decide +kernel
theorem dX6_readBlock_18 : decode cX6_readBlock 18 = .ok (.getfield 66, 3) := by decide +kernel
theorem dX6_readBlock_21 : decode cX6_readBlock 21 = .ok (.iload_n 1, 1) := by decide +kernel
theorem dX6_readBlock_22 : decode cX6_readBlock 22 = .ok (.iload_n 2, 1) := by decide +kernel
theorem dX6_readBlock_23 : decode cX6_readBlock 23 = .ok (.iastore, 1) := by decide +kernel
theorem dX6_readBlock_24 : decode cX6_readBlock 24 = .ok (.aload_n 0, 1) := by decide +kernel
theorem dX6_readBlock_25 : decode cX6_readBlock 25 = .ok (.iconst 0, 1) := by decide +kernel
theorem dX6_readBlock_26 : decode cX6_readBlock 26 = .ok (.iconst 2, 1) := by decide +kernel
theorem dX6_readBlock_27 : decode cX6_readBlock 27 = .ok (.aload_n 0, 1) := by decide +kernel
theorem dX6_readBlock_28 : decode cX6_readBlock 28 = .ok (.getfield 12, 3) := by decide +kernel
theorem dX6_readBlock_31 : decode cX6_readBlock 31 = .ok (.getfield 49, 3) := by decide +kernel
theorem dX6_readBlock_34 : decode cX6_readBlock 34 = .ok (.invokestatic 69, 3) := by decide +kernel
theorem dX6_readBlock_37 : decode cX6_readBlock 37 = .ok (.invokevirtual 45, 3) := by decide +kernel
theorem dX6_readBlock_40 : decode cX6_readBlock 40 = .ok (.istore_n 3, 1) := by decide +kernel
theorem dX6_readBlock_41 : decode cX6_readBlock 41 = .ok (.iload_n 3, 1) := by decide +kernel
theorem dX6_readBlock_42 : decode cX6_readBlock 42 = .ok (.ifCond .ge 5, 3) := by decide +kernel
theorem dX6_readBlock_45 : decode cX6_readBlock 45 = .ok (.iconst 0, 1) := by decide +kernel
theorem dX6_readBlock_46 : decode cX6_readBlock 46 = .ok (.ireturn, 1) := by decide +kernel
theorem dX6_readBlock_47 : decode cX6_readBlock 47 = .ok (.aload_n 0, 1) := by decide +kernel
theorem dX6_readBlock_48 : decode cX6_readBlock 48 = .ok (.getfield 23, 3) := by decide +kernel
theorem dX6_readBlock_51 : decode cX6_readBlock 51 = .ok (.getfield 74, 3) := by decide +kernel
theorem dX6_readBlock_54 : decode cX6_readBlock 54 = .ok (.iload_n 1, 1) := by decide +kernel
theorem dX6_readBlock_55 : decode cX6_readBlock 55 = .ok (.iload_n 3, 1) := by decide +kernel
theorem dX6_readBlock_56 : decode cX6_readBlock 56 = .ok (.iastore, 1) := by decide +kernel
theorem dX6_readBlock_57 : decode cX6_readBlock 57 = .ok (.iconst 0, 1) := by decide +kernel
theorem dX6_readBlock_58 : decode cX6_readBlock 58 = .ok (.istore 4, 2) := by decide +kernel
theorem dX6_readBlock_60 : decode cX6_readBlock 60 = .ok (.iload 4, 2) := by decide +kernel
theorem dX6_readBlock_62 : decode cX6_readBlock 62 = .ok (.iload_n 3, 1) := by decide +kernel
theorem dX6_readBlock_63 : decode cX6_readBlock 63 = .ok (.if_icmp .ge 21, 3) := by decide +kernel
theorem dX6_readBlock_66 : decode cX6_readBlock 66 = .ok (.aload_n 0, 1) := by decide +kernel
theorem dX6_readBlock_67 : decode cX6_readBlock 67 = .ok (.iload_n 1, 1) := by decide +kernel
theorem dX6_readBlock_68 : decode cX6_readBlock 68 = .ok (.iload 4, 2) := by decide +kernel
theorem dX6_readBlock_70 : decode cX6_readBlock 70 = .ok (.invokevirtual 77, 3) := by decide +kernel
theorem dX6_readBlock_73 : decode cX6_readBlock 73 = .ok (.ifCond .ne 5, 3) := by decide +kernel
theorem dX6_readBlock_76 : decode cX6_readBlock 76 = .ok (.iconst 0, 1) := by decide +kernel
theorem dX6_readBlock_77 : decode cX6_readBlock 77 = .ok (.ireturn, 1) := by decide +kernel
theorem dX6_readBlock_78 : decode cX6_readBlock 78 = .ok (.iinc 4 1, 3) := by decide +kernel
theorem dX6_readBlock_81 : decode cX6_readBlock 81 = .ok (.goto (-21), 3) := by decide +kernel
theorem dX6_readBlock_84 : decode cX6_readBlock 84 = .ok (.iconst 1, 1) := by decide +kernel
theorem dX6_readBlock_85 : decode cX6_readBlock 85 = .ok (.ireturn, 1) := by decide +kernel
theorem dX6_readEdge_0 : decode cX6_readEdge 0 = .ok (.aload_n 0, 1) := by decide +kernel
theorem dX6_readEdge_1 : decode cX6_readEdge 1 = .ok (.iconst 0, 1) := by decide +kernel
theorem dX6_readEdge_2 : decode cX6_readEdge 2 = .ok (.aload_n 0, 1) := by decide +kernel
theorem dX6_readEdge_3 : decode cX6_readEdge 3 = .ok (.getfield 12, 3) := by decide +kernel
theorem dX6_readEdge_6 : decode cX6_readEdge 6 = .ok (.getfield 49, 3) := by decide +kernel
theorem dX6_readEdge_9 : decode cX6_readEdge 9 = .ok (.iconst 1, 1) := by decide +kernel
theorem dX6_readEdge_10 : decode cX6_readEdge 10 = .ok (.isub, 1) := by decide +kernel
theorem dX6_readEdge_11 : decode cX6_readEdge 11 = .ok (.invokevirtual 81, 3) := by decide +kernel
theorem dX6_readEdge_14 : decode cX6_readEdge 14 = .ok (.istore_n 3, 1) := by decide +kernel
theorem dX6_readEdge_15 : decode cX6_readEdge 15 = .ok (.iload_n 3, 1) := by decide +kernel
theorem dX6_readEdge_16 : decode cX6_readEdge 16 = .ok (.ifCond .lt 21, 3) := by decide +kernel
theorem dX6_readEdge_19 : decode cX6_readEdge 19 = .ok (.iload_n 2, 1) := by decide +kernel
theorem dX6_readEdge_20 : decode cX6_readEdge 20 = .ok (.iconst 1, 1) := by decide +kernel
theorem dX6_readEdge_21 : decode cX6_readEdge 21 = .ok (.if_icmp .ne 18, 3) := by decide +kernel
theorem dX6_readEdge_24 : decode cX6_readEdge 24 = .ok (.iload_n 3, 1) := by decide +kernel
theorem dX6_readEdge_25 : decode cX6_readEdge 25 = .ok (.aload_n 0, 1) := by decide +kernel
theorem dX6_readEdge_26 : decode cX6_readEdge 26 = .ok (.getfield 23, 3) := by decide +kernel
theorem dX6_readEdge_29 : decode cX6_readEdge 29 = .ok (.iload_n 1, 1) := by decide +kernel
theorem dX6_readEdge_30 : decode cX6_readEdge 30 = .ok (.iconst 0, 1) := by decide +kernel
theorem dX6_readEdge_31 : decode cX6_readEdge 31 = .ok (.invokevirtual 84, 3) := by decide +kernel
theorem dX6_readEdge_34 : decode cX6_readEdge 34 = .ok (.if_icmp .ne 5, 3) := by decide +kernel
theorem dX6_readEdge_37 : decode cX6_readEdge 37 = .ok (.iconst 0, 1) := by decide +kernel
theorem dX6_readEdge_38 : decode cX6_readEdge 38 = .ok (.ireturn, 1) := by decide +kernel
theorem dX6_readEdge_39 : decode cX6_readEdge 39 = .ok (.aload_n 0, 1) := by decide +kernel
theorem dX6_readEdge_40 : decode cX6_readEdge 40 = .ok (.dup, 1) := by decide +kernel
theorem dX6_readEdge_41 : decode cX6_readEdge 41 = .ok (.getfield 35, 3) := by decide +kernel
theorem dX6_readEdge_44 : decode cX6_readEdge 44 = .ok (.iconst 1, 1) := by decide +kernel
theorem dX6_readEdge_45 : decode cX6_readEdge 45 = .ok (.iadd, 1) := by decide +kernel
theorem dX6_readEdge_46 : decode cX6_readEdge 46 = .ok (.putfield 35, 3) := by decide +kernel
theorem dX6_readEdge_49 : decode cX6_readEdge 49 = .ok (.aload_n 0, 1) := by decide +kernel
theorem dX6_readEdge_50 : decode cX6_readEdge 50 = .ok (.invokevirtual 52, 3) := by decide +kernel
theorem dX6_readEdge_53 : decode cX6_readEdge 53 = .ok (.istore 4, 2) := by decide +kernel
theorem dX6_readEdge_55 : decode cX6_readEdge 55 = .ok (.aload_n 0, 1) := by decide +kernel
theorem dX6_readEdge_56 : decode cX6_readEdge 56 = .ok (.getfield 23, 3) := by decide +kernel
theorem dX6_readEdge_59 : decode cX6_readEdge 59 = .ok (.iload_n 1, 1) := by decide +kernel
theorem dX6_readEdge_60 : decode cX6_readEdge 60 = .ok (.iload_n 2, 1) := by decide +kernel
theorem dX6_readEdge_61 : decode cX6_readEdge 61 = .ok (.iload_n 3, 1) := by decide +kernel
theorem dX6_readEdge_62 : decode cX6_readEdge 62 = .ok (.invokevirtual 87, 3) := by decide +kernel
theorem dX6_readEdge_65 : decode cX6_readEdge 65 = .ok (.aload_n 0, 1) := by decide +kernel
theorem dX6_readEdge_66 : decode cX6_readEdge 66 = .ok (.getfield 23, 3) := by decide +kernel
theorem dX6_readEdge_69 : decode cX6_readEdge 69 = .ok (.iload_n 1, 1) := by decide +kernel
theorem dX6_readEdge_70 : decode cX6_readEdge 70 = .ok (.iload_n 2, 1) := by decide +kernel
theorem dX6_readEdge_71 : decode cX6_readEdge 71 = .ok (.iload 4, 2) := by decide +kernel
theorem dX6_readEdge_73 : decode cX6_readEdge 73 = .ok (.invokevirtual 91, 3) := by decide +kernel
theorem dX6_readEdge_76 : decode cX6_readEdge 76 = .ok (.iload 4, 2) := by decide +kernel
theorem dX6_readEdge_78 : decode cX6_readEdge 78 = .ok (.ifCond .lt 7, 3) := by decide +kernel
theorem dX6_readEdge_81 : decode cX6_readEdge 81 = .ok (.iconst 1, 1) := by decide +kernel
theorem dX6_readEdge_82 : decode cX6_readEdge 82 = .ok (.goto 4, 3) := by decide +kernel
theorem dX6_readEdge_85 : decode cX6_readEdge 85 = .ok (.iconst 0, 1) := by decide +kernel
theorem dX6_readEdge_86 : decode cX6_readEdge 86 = .ok (.ireturn, 1) := by decide +kernel
theorem dX6_readCount_0 : decode cX6_readCount 0 = .ok (.aload_n 0, 1) := by decide +kernel
theorem dX6_readCount_1 : decode cX6_readCount 1 = .ok (.iconst 0, 1) := by decide +kernel
theorem dX6_readCount_2 : decode cX6_readCount 2 = .ok (.bipush 9, 2) := by decide +kernel
theorem dX6_readCount_4 : decode cX6_readCount 4 = .ok (.invokevirtual 45, 3) := by decide +kernel
theorem dX6_readCount_7 : decode cX6_readCount 7 = .ok (.istore_n 1, 1) := by decide +kernel
theorem dX6_readCount_8 : decode cX6_readCount 8 = .ok (.iload_n 1, 1) := by decide +kernel
theorem dX6_readCount_9 : decode cX6_readCount 9 = .ok (.ifCond .ge 5, 3) := by decide +kernel
theorem dX6_readCount_12 : decode cX6_readCount 12 = .ok (.iconst (-1), 1) := by decide +kernel
theorem dX6_readCount_13 : decode cX6_readCount 13 = .ok (.ireturn, 1) := by decide +kernel
theorem dX6_readCount_14 : decode cX6_readCount 14 = .ok (.aload_n 0, 1) := by decide +kernel
theorem dX6_readCount_15 : decode cX6_readCount 15 = .ok (.iconst 0, 1) := by decide +kernel
theorem dX6_readCount_16 : decode cX6_readCount 16 = .ok (.bipush 9, 2) := by decide +kernel
theorem dX6_readCount_18 : decode cX6_readCount 18 = .ok (.invokevirtual 45, 3) := by decide +kernel
theorem dX6_readCount_21 : decode cX6_readCount 21 = .ok (.istore_n 2, 1) := by decide +kernel
theorem dX6_readCount_22 : decode cX6_readCount 22 = .ok (.iload_n 2, 1) := by decide +kernel
theorem dX6_readCount_23 : decode cX6_readCount 23 = .ok (.ifCond .ge 7, 3) := by decide +kernel
theorem dX6_readCount_26 : decode cX6_readCount 26 = .ok (.iconst (-1), 1) := by decide +kernel
theorem dX6_readCount_27 : decode cX6_readCount 27 = .ok (.goto 9, 3) := by decide +kernel
theorem dX6_readCount_30 : decode cX6_readCount 30 = .ok (.bipush 10, 2) := by decide +kernel
theorem dX6_readCount_32 : decode cX6_readCount 32 = .ok (.iload_n 1, 1) := by decide +kernel
theorem dX6_readCount_33 : decode cX6_readCount 33 = .ok (.imul, 1) := by decide +kernel
theorem dX6_readCount_34 : decode cX6_readCount 34 = .ok (.iload_n 2, 1) := by decide +kernel
theorem dX6_readCount_35 : decode cX6_readCount 35 = .ok (.iadd, 1) := by decide +kernel
theorem dX6_readCount_36 : decode cX6_readCount 36 = .ok (.ireturn, 1) := by decide +kernel
theorem dX6_readDigit_0 : decode cX6_readDigit 0 = .ok (.aload_n 0, 1) := by decide +kernel
theorem dX6_readDigit_1 : decode cX6_readDigit 1 = .ok (.iload_n 1, 1) := by decide +kernel
theorem dX6_readDigit_2 : decode cX6_readDigit 2 = .ok (.iload_n 2, 1) := by decide +kernel
theorem dX6_readDigit_3 : decode cX6_readDigit 3 = .ok (.invokevirtual 81, 3) := by decide +kernel
theorem dX6_readDigit_6 : decode cX6_readDigit 6 = .ok (.istore_n 3, 1) := by decide +kernel
theorem dX6_readDigit_7 : decode cX6_readDigit 7 = .ok (.iload_n 3, 1) := by decide +kernel
theorem dX6_readDigit_8 : decode cX6_readDigit 8 = .ok (.ifCond .lt 13, 3) := by decide +kernel
theorem dX6_readDigit_11 : decode cX6_readDigit 11 = .ok (.aload_n 0, 1) := by decide +kernel
theorem dX6_readDigit_12 : decode cX6_readDigit 12 = .ok (.dup, 1) := by decide +kernel
theorem dX6_readDigit_13 : decode cX6_readDigit 13 = .ok (.getfield 35, 3) := by decide +kernel
theorem dX6_readDigit_16 : decode cX6_readDigit 16 = .ok (.iconst 1, 1) := by decide +kernel
theorem dX6_readDigit_17 : decode cX6_readDigit 17 = .ok (.iadd, 1) := by decide +kernel
theorem dX6_readDigit_18 : decode cX6_readDigit 18 = .ok (.putfield 35, 3) := by decide +kernel
theorem dX6_readDigit_21 : decode cX6_readDigit 21 = .ok (.iload_n 3, 1) := by decide +kernel
theorem dX6_readDigit_22 : decode cX6_readDigit 22 = .ok (.ireturn, 1) := by decide +kernel
theorem dX6_digitHere_0 : decode cX6_digitHere 0 = .ok (.aload_n 0, 1) := by decide +kernel
theorem dX6_digitHere_1 : decode cX6_digitHere 1 = .ok (.getfield 35, 3) := by decide +kernel
theorem dX6_digitHere_4 : decode cX6_digitHere 4 = .ok (.aload_n 0, 1) := by decide +kernel
theorem dX6_digitHere_5 : decode cX6_digitHere 5 = .ok (.getfield 31, 3) := by decide +kernel
theorem dX6_digitHere_8 : decode cX6_digitHere 8 = .ok (.if_icmp .lt 5, 3) := by decide +kernel
theorem dX6_digitHere_11 : decode cX6_digitHere 11 = .ok (.iconst (-1), 1) := by decide +kernel
theorem dX6_digitHere_12 : decode cX6_digitHere 12 = .ok (.ireturn, 1) := by decide +kernel
theorem dX6_digitHere_13 : decode cX6_digitHere 13 = .ok (.aload_n 0, 1) := by decide +kernel
theorem dX6_digitHere_14 : decode cX6_digitHere 14 = .ok (.getfield 27, 3) := by decide +kernel
theorem dX6_digitHere_17 : decode cX6_digitHere 17 = .ok (.aload_n 0, 1) := by decide +kernel
theorem dX6_digitHere_18 : decode cX6_digitHere 18 = .ok (.getfield 35, 3) := by decide +kernel
theorem dX6_digitHere_21 : decode cX6_digitHere 21 = .ok (.iaload, 1) := by decide +kernel
theorem dX6_digitHere_22 : decode cX6_digitHere 22 = .ok (.bipush 48, 2) := by decide +kernel
theorem dX6_digitHere_24 : decode cX6_digitHere 24 = .ok (.isub, 1) := by decide +kernel
theorem dX6_digitHere_25 : decode cX6_digitHere 25 = .ok (.istore_n 3, 1) := by decide +kernel
theorem dX6_digitHere_26 : decode cX6_digitHere 26 = .ok (.iload_n 3, 1) := by decide +kernel
theorem dX6_digitHere_27 : decode cX6_digitHere 27 = .ok (.iload_n 1, 1) := by decide +kernel
theorem dX6_digitHere_28 : decode cX6_digitHere 28 = .ok (.if_icmp .lt 12, 3) := by decide +kernel
theorem dX6_digitHere_31 : decode cX6_digitHere 31 = .ok (.iload_n 3, 1) := by decide +kernel
theorem dX6_digitHere_32 : decode cX6_digitHere 32 = .ok (.iload_n 2, 1) := by decide +kernel
theorem dX6_digitHere_33 : decode cX6_digitHere 33 = .ok (.if_icmp .gt 7, 3) := by decide +kernel
theorem dX6_digitHere_36 : decode cX6_digitHere 36 = .ok (.iload_n 3, 1) := by decide +kernel
theorem dX6_digitHere_37 : decode cX6_digitHere 37 = .ok (.goto 4, 3) := by decide +kernel
theorem dX6_digitHere_40 : decode cX6_digitHere 40 = .ok (.iconst (-1), 1) := by decide +kernel
theorem dX6_digitHere_41 : decode cX6_digitHere 41 = .ok (.ireturn, 1) := by decide +kernel
theorem dX8_costOf_0 : decode cX8_costOf 0 = .ok (.lload_n 1, 1) := by decide +kernel
theorem dX8_costOf_1 : decode cX8_costOf 1 = .ok (.lstore 4, 2) := by decide +kernel
theorem dX8_costOf_3 : decode cX8_costOf 3 = .ok (.iconst 0, 1) := by decide +kernel
theorem dX8_costOf_4 : decode cX8_costOf 4 = .ok (.istore 6, 2) := by decide +kernel
theorem dX8_costOf_6 : decode cX8_costOf 6 = .ok (.iconst 0, 1) := by decide +kernel
theorem dX8_costOf_7 : decode cX8_costOf 7 = .ok (.istore 7, 2) := by decide +kernel
theorem dX8_costOf_9 : decode cX8_costOf 9 = .ok (.iconst 0, 1) := by decide +kernel
theorem dX8_costOf_10 : decode cX8_costOf 10 = .ok (.istore 8, 2) := by decide +kernel
theorem dX8_costOf_12 : decode cX8_costOf 12 = .ok (.iload 8, 2) := by decide +kernel
theorem dX8_costOf_14 : decode cX8_costOf 14 = .ok (.iload_n 3, 1) := by decide +kernel
theorem dX8_costOf_15 : decode cX8_costOf 15 = .ok (.if_icmp .ge 80, 3) := by decide +kernel
theorem dX8_costOf_18 : decode cX8_costOf 18 = .ok (.lload 4, 2) := by decide +kernel
theorem dX8_costOf_20 : decode cX8_costOf 20 = .ok (.ldc2_w 9, 3) := by decide +kernel
theorem dX8_costOf_23 : decode cX8_costOf 23 = .ok (.lmul, 1) := by decide +kernel
theorem dX8_costOf_24 : decode cX8_costOf 24 = .ok (.ldc2_w 11, 3) := by decide +kernel
theorem dX8_costOf_27 : decode cX8_costOf 27 = .ok (.ladd, 1) := by decide +kernel
theorem dX8_costOf_28 : decode cX8_costOf 28 = .ok (.lstore 4, 2) := by decide +kernel
theorem dX8_costOf_30 : decode cX8_costOf 30 = .ok (.aload_n 0, 1) := by decide +kernel
theorem dX8_costOf_31 : decode cX8_costOf 31 = .ok (.getfield 13, 3) := by decide +kernel
theorem dX8_costOf_34 : decode cX8_costOf 34 = .ok (.iload 6, 2) := by decide +kernel
theorem dX8_costOf_36 : decode cX8_costOf 36 = .ok (.iaload, 1) := by decide +kernel
theorem dX8_costOf_37 : decode cX8_costOf 37 = .ok (.ifCond .ne 9, 3) := by decide +kernel
theorem dX8_costOf_40 : decode cX8_costOf 40 = .ok (.iconst 0, 1) := by decide +kernel
theorem dX8_costOf_41 : decode cX8_costOf 41 = .ok (.istore 6, 2) := by decide +kernel
theorem dX8_costOf_43 : decode cX8_costOf 43 = .ok (.goto 46, 3) := by decide +kernel
theorem dX8_costOf_46 : decode cX8_costOf 46 = .ok (.aload_n 0, 1) := by decide +kernel
theorem dX8_costOf_47 : decode cX8_costOf 47 = .ok (.iload 6, 2) := by decide +kernel
theorem dX8_costOf_49 : decode cX8_costOf 49 = .ok (.lload 4, 2) := by decide +kernel
theorem dX8_costOf_51 : decode cX8_costOf 51 = .ok (.bipush 33, 2) := by decide +kernel
theorem dX8_costOf_53 : decode cX8_costOf 53 = .ok (.lushr, 1) := by decide +kernel
theorem dX8_costOf_54 : decode cX8_costOf 54 = .ok (.l2i, 1) := by decide +kernel
theorem dX8_costOf_55 : decode cX8_costOf 55 = .ok (.invokestatic 19, 3) := by decide +kernel
theorem dX8_costOf_58 : decode cX8_costOf 58 = .ok (.istore 9, 2) := by decide +kernel
theorem dX8_costOf_60 : decode cX8_costOf 60 = .ok (.iload 7, 2) := by decide +kernel
theorem dX8_costOf_62 : decode cX8_costOf 62 = .ok (.aload_n 0, 1) := by decide +kernel
theorem dX8_costOf_63 : decode cX8_costOf 63 = .ok (.iload 6, 2) := by decide +kernel
theorem dX8_costOf_65 : decode cX8_costOf 65 = .ok (.iload 9, 2) := by decide +kernel
theorem dX8_costOf_67 : decode cX8_costOf 67 = .ok (.aload_n 0, 1) := by decide +kernel
theorem dX8_costOf_68 : decode cX8_costOf 68 = .ok (.iload 6, 2) := by decide +kernel
theorem dX8_costOf_70 : decode cX8_costOf 70 = .ok (.invokevirtual 23, 3) := by decide +kernel
theorem dX8_costOf_73 : decode cX8_costOf 73 = .ok (.invokevirtual 27, 3) := by decide +kernel
theorem dX8_costOf_76 : decode cX8_costOf 76 = .ok (.iadd, 1) := by decide +kernel
theorem dX8_costOf_77 : decode cX8_costOf 77 = .ok (.istore 7, 2) := by decide +kernel
theorem dX8_costOf_79 : decode cX8_costOf 79 = .ok (.aload_n 0, 1) := by decide +kernel
theorem dX8_costOf_80 : decode cX8_costOf 80 = .ok (.iload 6, 2) := by decide +kernel
theorem dX8_costOf_82 : decode cX8_costOf 82 = .ok (.iload 9, 2) := by decide +kernel
theorem dX8_costOf_84 : decode cX8_costOf 84 = .ok (.invokevirtual 31, 3) := by decide +kernel
theorem dX8_costOf_87 : decode cX8_costOf 87 = .ok (.istore 6, 2) := by decide +kernel
theorem dX8_costOf_89 : decode cX8_costOf 89 = .ok (.iinc 8 1, 3) := by decide +kernel
theorem dX8_costOf_92 : decode cX8_costOf 92 = .ok (.goto (-80), 3) := by decide +kernel
theorem dX8_costOf_95 : decode cX8_costOf 95 = .ok (.iload 7, 2) := by decide +kernel
theorem dX8_costOf_97 : decode cX8_costOf 97 = .ok (.ireturn, 1) := by decide +kernel
theorem dX8_slotTaken_0 : decode cX8_slotTaken 0 = .ok (.aload_n 0, 1) := by decide +kernel
theorem dX8_slotTaken_1 : decode cX8_slotTaken 1 = .ok (.getfield 13, 3) := by decide +kernel
theorem dX8_slotTaken_4 : decode cX8_slotTaken 4 = .ok (.iload_n 1, 1) := by decide +kernel
theorem dX8_slotTaken_5 : decode cX8_slotTaken 5 = .ok (.iaload, 1) := by decide +kernel
theorem dX8_slotTaken_6 : decode cX8_slotTaken 6 = .ok (.iconst 1, 1) := by decide +kernel
theorem dX8_slotTaken_7 : decode cX8_slotTaken 7 = .ok (.if_icmp .ne 5, 3) := by decide +kernel
theorem dX8_slotTaken_10 : decode cX8_slotTaken 10 = .ok (.iconst 0, 1) := by decide +kernel
theorem dX8_slotTaken_11 : decode cX8_slotTaken 11 = .ok (.ireturn, 1) := by decide +kernel
theorem dX8_slotTaken_12 : decode cX8_slotTaken 12 = .ok (.aload_n 0, 1) := by decide +kernel
theorem dX8_slotTaken_13 : decode cX8_slotTaken 13 = .ok (.iload_n 1, 1) := by decide +kernel
theorem dX8_slotTaken_14 : decode cX8_slotTaken 14 = .ok (.iconst 0, 1) := by decide +kernel
theorem dX8_slotTaken_15 : decode cX8_slotTaken 15 = .ok (.invokevirtual 35, 3) := by decide +kernel
theorem dX8_slotTaken_18 : decode cX8_slotTaken 18 = .ok (.aload_n 0, 1) := by decide +kernel
theorem dX8_slotTaken_19 : decode cX8_slotTaken 19 = .ok (.iload_n 1, 1) := by decide +kernel
theorem dX8_slotTaken_20 : decode cX8_slotTaken 20 = .ok (.iconst 1, 1) := by decide +kernel
theorem dX8_slotTaken_21 : decode cX8_slotTaken 21 = .ok (.invokevirtual 35, 3) := by decide +kernel
theorem dX8_slotTaken_24 : decode cX8_slotTaken 24 = .ok (.iadd, 1) := by decide +kernel
theorem dX8_slotTaken_25 : decode cX8_slotTaken 25 = .ok (.istore_n 3, 1) := by decide +kernel
theorem dX8_slotTaken_26 : decode cX8_slotTaken 26 = .ok (.iload_n 3, 1) := by decide +kernel
theorem dX8_slotTaken_27 : decode cX8_slotTaken 27 = .ok (.ifCond .eq 15, 3) := by decide +kernel
theorem dX8_slotTaken_30 : decode cX8_slotTaken 30 = .ok (.iload_n 2, 1) := by decide +kernel
theorem dX8_slotTaken_31 : decode cX8_slotTaken 31 = .ok (.iload_n 3, 1) := by decide +kernel
theorem dX8_slotTaken_32 : decode cX8_slotTaken 32 = .ok (.irem, 1) := by decide +kernel
theorem dX8_slotTaken_33 : decode cX8_slotTaken 33 = .ok (.aload_n 0, 1) := by decide +kernel
theorem dX8_slotTaken_34 : decode cX8_slotTaken 34 = .ok (.iload_n 1, 1) := by decide +kernel
theorem dX8_slotTaken_35 : decode cX8_slotTaken 35 = .ok (.iconst 0, 1) := by decide +kernel
theorem dX8_slotTaken_36 : decode cX8_slotTaken 36 = .ok (.invokevirtual 35, 3) := by decide +kernel
theorem dX8_slotTaken_39 : decode cX8_slotTaken 39 = .ok (.if_icmp .ge 7, 3) := by decide +kernel
theorem dX8_slotTaken_42 : decode cX8_slotTaken 42 = .ok (.iconst 0, 1) := by decide +kernel
theorem dX8_slotTaken_43 : decode cX8_slotTaken 43 = .ok (.goto 4, 3) := by decide +kernel
theorem dX8_slotTaken_46 : decode cX8_slotTaken 46 = .ok (.iconst 1, 1) := by decide +kernel
theorem dX8_slotTaken_47 : decode cX8_slotTaken 47 = .ok (.ireturn, 1) := by decide +kernel
end
section
theorem dX7_init_0 : decode cX7_init 0 = .ok (.aload_n 0, 1) := by decide +kernel
theorem dX7_init_1 : decode cX7_init 1 = .ok (.invokespecial 3, 3) := by decide +kernel
theorem dX7_init_4 : decode cX7_init 4 = .ok (.aload_n 0, 1) := by decide +kernel
theorem dX7_init_5 : decode cX7_init 5 = .ok (.bipush 8, 2) := by decide +kernel
theorem dX7_init_7 : decode cX7_init 7 = .ok (.newarray .int, 2) := by decide +kernel
theorem dX7_init_9 : decode cX7_init 9 = .ok (.putfield 9, 3) := by decide +kernel
theorem dX7_init_12 : decode cX7_init 12 = .ok (.aload_n 0, 1) := by decide +kernel
theorem dX7_init_13 : decode cX7_init 13 = .ok (.bipush 16, 2) := by decide +kernel
theorem dX7_init_15 : decode cX7_init 15 = .ok (.newarray .int, 2) := by decide +kernel
theorem dX7_init_17 : decode cX7_init 17 = .ok (.putfield 15, 3) := by decide +kernel
theorem dX7_init_20 : decode cX7_init 20 = .ok (.aload_n 0, 1) := by decide +kernel
theorem dX7_init_21 : decode cX7_init 21 = .ok (.bipush 16, 2) := by decide +kernel
theorem dX7_init_23 : decode cX7_init 23 = .ok (.newarray .int, 2) := by decide +kernel
theorem dX7_init_25 : decode cX7_init 25 = .ok (.putfield 18, 3) := by decide +kernel
theorem dX7_init_28 : decode cX7_init 28 = .ok (.aload_n 0, 1) := by decide +kernel
theorem dX7_init_29 : decode cX7_init 29 = .ok (.bipush 8, 2) := by decide +kernel
theorem dX7_init_31 : decode cX7_init 31 = .ok (.newarray .int, 2) := by decide +kernel
theorem dX7_init_33 : decode cX7_init 33 = .ok (.putfield 21, 3) := by decide +kernel
theorem dX7_init_36 : decode cX7_init 36 = .ok (.aload_n 0, 1) := by decide +kernel
theorem dX7_init_37 : decode cX7_init 37 = .ok (.iconst 1, 1) := by decide +kernel
theorem dX7_init_38 : decode cX7_init 38 = .ok (.putfield 24, 3) := by decide +kernel
theorem dX7_init_41 : decode cX7_init 41 = .ok (.aload_n 0, 1) := by decide +kernel
theorem dX7_init_42 : decode cX7_init 42 = .ok (.iconst 1, 1) := by decide +kernel
theorem dX7_init_43 : decode cX7_init 43 = .ok (.putfield 28, 3) := by decide +kernel
theorem dX7_init_46 : decode cX7_init 46 = .ok (.aload_n 0, 1) := by decide +kernel
theorem dX7_init_47 : decode cX7_init 47 = .ok (.aload_n 1, 1) := by decide +kernel
theorem dX7_init_48 : decode cX7_init 48 = .ok (.putfield 31, 3) := by decide +kernel
theorem dX7_init_51 : decode cX7_init 51 = .ok (.return_, 1) := by decide +kernel
theorem dX7_copyFrom_0 : decode cX7_copyFrom 0 = .ok (.aload_n 1, 1) := by decide +kernel
theorem dX7_copyFrom_1 : decode cX7_copyFrom 1 = .ok (.getfield 9, 3) := by decide +kernel
theorem dX7_copyFrom_4 : decode cX7_copyFrom 4 = .ok (.iconst 0, 1) := by decide +kernel
theorem dX7_copyFrom_5 : decode cX7_copyFrom 5 = .ok (.aload_n 0, 1) := by decide +kernel
theorem dX7_copyFrom_6 : decode cX7_copyFrom 6 = .ok (.getfield 9, 3) := by decide +kernel
theorem dX7_copyFrom_9 : decode cX7_copyFrom 9 = .ok (.iconst 0, 1) := by decide +kernel
theorem dX7_copyFrom_10 : decode cX7_copyFrom 10 = .ok (.bipush 8, 2) := by decide +kernel
theorem dX7_copyFrom_12 : decode cX7_copyFrom 12 = .ok (.invokestatic 35, 3) := by decide +kernel
theorem dX7_copyFrom_15 : decode cX7_copyFrom 15 = .ok (.aload_n 1, 1) := by decide +kernel
theorem dX7_copyFrom_16 : decode cX7_copyFrom 16 = .ok (.getfield 15, 3) := by decide +kernel
theorem dX7_copyFrom_19 : decode cX7_copyFrom 19 = .ok (.iconst 0, 1) := by decide +kernel
theorem dX7_copyFrom_20 : decode cX7_copyFrom 20 = .ok (.aload_n 0, 1) := by decide +kernel
theorem dX7_copyFrom_21 : decode cX7_copyFrom 21 = .ok (.getfield 15, 3) := by decide +kernel
theorem dX7_copyFrom_24 : decode cX7_copyFrom 24 = .ok (.iconst 0, 1) := by decide +kernel
theorem dX7_copyFrom_25 : decode cX7_copyFrom 25 = .ok (.bipush 16, 2) := by decide +kernel
theorem dX7_copyFrom_27 : decode cX7_copyFrom 27 = .ok (.invokestatic 35, 3) := by decide +kernel
theorem dX7_copyFrom_30 : decode cX7_copyFrom 30 = .ok (.aload_n 1, 1) := by decide +kernel
theorem dX7_copyFrom_31 : decode cX7_copyFrom 31 = .ok (.getfield 18, 3) := by decide +kernel
theorem dX7_copyFrom_34 : decode cX7_copyFrom 34 = .ok (.iconst 0, 1) := by decide +kernel
theorem dX7_copyFrom_35 : decode cX7_copyFrom 35 = .ok (.aload_n 0, 1) := by decide +kernel
theorem dX7_copyFrom_36 : decode cX7_copyFrom 36 = .ok (.getfield 18, 3) := by decide +kernel
theorem dX7_copyFrom_39 : decode cX7_copyFrom 39 = .ok (.iconst 0, 1) := by decide +kernel
theorem dX7_copyFrom_40 : decode cX7_copyFrom 40 = .ok (.bipush 16, 2) := by decide +kernel
theorem dX7_copyFrom_42 : decode cX7_copyFrom 42 = .ok (.invokestatic 35, 3) := by decide +kernel
theorem dX7_copyFrom_45 : decode cX7_copyFrom 45 = .ok (.aload_n 1, 1) := by decide +kernel
theorem dX7_copyFrom_46 : decode cX7_copyFrom 46 = .ok (.getfield 21, 3) := by decide +kernel
theorem dX7_copyFrom_49 : decode cX7_copyFrom 49 = .ok (.iconst 0, 1) := by decide +kernel
theorem dX7_copyFrom_50 : decode cX7_copyFrom 50 = .ok (.aload_n 0, 1) := by decide +kernel
theorem dX7_copyFrom_51 : decode cX7_copyFrom 51 = .ok (.getfield 21, 3) := by decide +kernel
theorem dX7_copyFrom_54 : decode cX7_copyFrom 54 = .ok (.iconst 0, 1) := by decide +kernel
theorem dX7_copyFrom_55 : decode cX7_copyFrom 55 = .ok (.bipush 8, 2) := by decide +kernel
theorem dX7_copyFrom_57 : decode cX7_copyFrom 57 = .ok (.invokestatic 35, 3) := by decide +kernel
theorem dX7_copyFrom_60 : decode cX7_copyFrom 60 = .ok (.aload_n 0, 1) := by decide +kernel
theorem dX7_copyFrom_61 : decode cX7_copyFrom 61 = .ok (.aload_n 1, 1) := by decide +kernel
theorem dX7_copyFrom_62 : decode cX7_copyFrom 62 = .ok (.getfield 24, 3) := by decide +kernel
theorem dX7_copyFrom_65 : decode cX7_copyFrom 65 = .ok (.putfield 24, 3) := by decide +kernel
theorem dX7_copyFrom_68 : decode cX7_copyFrom 68 = .ok (.aload_n 0, 1) := by decide +kernel
theorem dX7_copyFrom_69 : decode cX7_copyFrom 69 = .ok (.aload_n 1, 1) := by decide +kernel
theorem dX7_copyFrom_70 : decode cX7_copyFrom 70 = .ok (.getfield 28, 3) := by decide +kernel
theorem dX7_copyFrom_73 : decode cX7_copyFrom 73 = .ok (.putfield 28, 3) := by decide +kernel
theorem dX7_copyFrom_76 : decode cX7_copyFrom 76 = .ok (.return_, 1) := by decide +kernel
theorem dX7_layOutByNumber_0 : decode cX7_layOutByNumber 0 = .ok (.iconst 0, 1) := by decide +kernel
theorem dX7_layOutByNumber_1 : decode cX7_layOutByNumber 1 = .ok (.istore_n 1, 1) := by decide +kernel
theorem dX7_layOutByNumber_2 : decode cX7_layOutByNumber 2 = .ok (.iload_n 1, 1) := by decide +kernel
theorem dX7_layOutByNumber_3 : decode cX7_layOutByNumber 3 = .ok (.bipush 8, 2) := by decide +kernel
theorem dX7_layOutByNumber_5 : decode cX7_layOutByNumber 5 = .ok (.if_icmp .ge 16, 3) := by decide +kernel
theorem dX7_layOutByNumber_8 : decode cX7_layOutByNumber 8 = .ok (.aload_n 0, 1) := by decide +kernel
theorem dX7_layOutByNumber_9 : decode cX7_layOutByNumber 9 = .ok (.getfield 21, 3) := by decide +kernel
theorem dX7_layOutByNumber_12 : decode cX7_layOutByNumber 12 = .ok (.iload_n 1, 1) := by decide +kernel
theorem dX7_layOutByNumber_13 : decode cX7_layOutByNumber 13 = .ok (.iload_n 1, 1) := by decide +kernel
theorem dX7_layOutByNumber_14 : decode cX7_layOutByNumber 14 = .ok (.iastore, 1) := by decide +kernel
theorem dX7_layOutByNumber_15 : decode cX7_layOutByNumber 15 = .ok (.iinc 1 1, 3) := by decide +kernel
theorem dX7_layOutByNumber_18 : decode cX7_layOutByNumber 18 = .ok (.goto (-16), 3) := by decide +kernel
theorem dX7_layOutByNumber_21 : decode cX7_layOutByNumber 21 = .ok (.aload_n 0, 1) := by decide +kernel
theorem dX7_layOutByNumber_22 : decode cX7_layOutByNumber 22 = .ok (.aload_n 0, 1) := by decide +kernel
theorem dX7_layOutByNumber_23 : decode cX7_layOutByNumber 23 = .ok (.getfield 31, 3) := by decide +kernel
theorem dX7_layOutByNumber_26 : decode cX7_layOutByNumber 26 = .ok (.getfield 41, 3) := by decide +kernel
theorem dX7_layOutByNumber_29 : decode cX7_layOutByNumber 29 = .ok (.putfield 24, 3) := by decide +kernel
theorem dX7_layOutByNumber_32 : decode cX7_layOutByNumber 32 = .ok (.aload_n 0, 1) := by decide +kernel
theorem dX7_layOutByNumber_33 : decode cX7_layOutByNumber 33 = .ok (.iconst 1, 1) := by decide +kernel
theorem dX7_layOutByNumber_34 : decode cX7_layOutByNumber 34 = .ok (.putfield 28, 3) := by decide +kernel
theorem dX7_layOutByNumber_37 : decode cX7_layOutByNumber 37 = .ok (.return_, 1) := by decide +kernel
theorem dX7_hasEdge_0 : decode cX7_hasEdge 0 = .ok (.aload_n 0, 1) := by decide +kernel
theorem dX7_hasEdge_1 : decode cX7_hasEdge 1 = .ok (.getfield 31, 3) := by decide +kernel
theorem dX7_hasEdge_4 : decode cX7_hasEdge 4 = .ok (.iload_n 1, 1) := by decide +kernel
theorem dX7_hasEdge_5 : decode cX7_hasEdge 5 = .ok (.invokevirtual 46, 3) := by decide +kernel
theorem dX7_hasEdge_8 : decode cX7_hasEdge 8 = .ok (.ifCond .eq 21, 3) := by decide +kernel
theorem dX7_hasEdge_11 : decode cX7_hasEdge 11 = .ok (.iload_n 2, 1) := by decide +kernel
theorem dX7_hasEdge_12 : decode cX7_hasEdge 12 = .ok (.ifCond .lt 17, 3) := by decide +kernel
theorem dX7_hasEdge_15 : decode cX7_hasEdge 15 = .ok (.iload_n 2, 1) := by decide +kernel
theorem dX7_hasEdge_16 : decode cX7_hasEdge 16 = .ok (.aload_n 0, 1) := by decide +kernel
theorem dX7_hasEdge_17 : decode cX7_hasEdge 17 = .ok (.getfield 9, 3) := by decide +kernel
theorem dX7_hasEdge_20 : decode cX7_hasEdge 20 = .ok (.iload_n 1, 1) := by decide +kernel
theorem dX7_hasEdge_21 : decode cX7_hasEdge 21 = .ok (.iaload, 1) := by decide +kernel
theorem dX7_hasEdge_22 : decode cX7_hasEdge 22 = .ok (.if_icmp .ge 7, 3) := by decide +kernel
theorem dX7_hasEdge_25 : decode cX7_hasEdge 25 = .ok (.iconst 1, 1) := by decide +kernel
theorem dX7_hasEdge_26 : decode cX7_hasEdge 26 = .ok (.goto 4, 3) := by decide +kernel
theorem dX7_hasEdge_29 : decode cX7_hasEdge 29 = .ok (.iconst 0, 1) := by decide +kernel
theorem dX7_hasEdge_30 : decode cX7_hasEdge 30 = .ok (.ireturn, 1) := by decide +kernel
theorem dX7_target_0 : decode cX7_target 0 = .ok (.aload_n 0, 1) := by decide +kernel
theorem dX7_target_1 : decode cX7_target 1 = .ok (.getfield 15, 3) := by decide +kernel
theorem dX7_target_4 : decode cX7_target 4 = .ok (.iconst 2, 1) := by decide +kernel
theorem dX7_target_5 : decode cX7_target 5 = .ok (.iload_n 1, 1) := by decide +kernel
theorem dX7_target_6 : decode cX7_target 6 = .ok (.imul, 1) := by decide +kernel
theorem dX7_target_7 : decode cX7_target 7 = .ok (.iload_n 2, 1) := by decide +kernel
theorem dX7_target_8 : decode cX7_target 8 = .ok (.iadd, 1) := by decide +kernel
theorem dX7_target_9 : decode cX7_target 9 = .ok (.iaload, 1) := by decide +kernel
theorem dX7_target_10 : decode cX7_target 10 = .ok (.ireturn, 1) := by decide +kernel
theorem dX7_count_0 : decode cX7_count 0 = .ok (.aload_n 0, 1) := by decide +kernel
theorem dX7_count_1 : decode cX7_count 1 = .ok (.getfield 18, 3) := by decide +kernel
theorem dX7_count_4 : decode cX7_count 4 = .ok (.iconst 2, 1) := by decide +kernel
theorem dX7_count_5 : decode cX7_count 5 = .ok (.iload_n 1, 1) := by decide +kernel
theorem dX7_count_6 : decode cX7_count 6 = .ok (.imul, 1) := by decide +kernel
theorem dX7_count_7 : decode cX7_count 7 = .ok (.iload_n 2, 1) := by decide +kernel
theorem dX7_count_8 : decode cX7_count 8 = .ok (.iadd, 1) := by decide +kernel
theorem dX7_count_9 : decode cX7_count 9 = .ok (.iaload, 1) := by decide +kernel
theorem dX7_count_10 : decode cX7_count 10 = .ok (.ireturn, 1) := by decide +kernel
theorem dX7_putTarget_0 : decode cX7_putTarget 0 = .ok (.aload_n 0, 1) := by decide +kernel
theorem dX7_putTarget_1 : decode cX7_putTarget 1 = .ok (.getfield 15, 3) := by decide +kernel
theorem dX7_putTarget_4 : decode cX7_putTarget 4 = .ok (.iconst 2, 1) := by decide +kernel
theorem dX7_putTarget_5 : decode cX7_putTarget 5 = .ok (.iload_n 1, 1) := by decide +kernel
theorem dX7_putTarget_6 : decode cX7_putTarget 6 = .ok (.imul, 1) := by decide +kernel
theorem dX7_putTarget_7 : decode cX7_putTarget 7 = .ok (.iload_n 2, 1) := by decide +kernel
theorem dX7_putTarget_8 : decode cX7_putTarget 8 = .ok (.iadd, 1) := by decide +kernel
theorem dX7_putTarget_9 : decode cX7_putTarget 9 = .ok (.iload_n 3, 1) := by decide +kernel
theorem dX7_putTarget_10 : decode cX7_putTarget 10 = .ok (.iastore, 1) := by decide +kernel
theorem dX7_putTarget_11 : decode cX7_putTarget 11 = .ok (.return_, 1) := by decide +kernel
theorem dX7_putCount_0 : decode cX7_putCount 0 = .ok (.aload_n 0, 1) := by decide +kernel
theorem dX7_putCount_1 : decode cX7_putCount 1 = .ok (.getfield 18, 3) := by decide +kernel
theorem dX7_putCount_4 : decode cX7_putCount 4 = .ok (.iconst 2, 1) := by decide +kernel
theorem dX7_putCount_5 : decode cX7_putCount 5 = .ok (.iload_n 1, 1) := by decide +kernel
theorem dX7_putCount_6 : decode cX7_putCount 6 = .ok (.imul, 1) := by decide +kernel
theorem dX7_putCount_7 : decode cX7_putCount 7 = .ok (.iload_n 2, 1) := by decide +kernel
theorem dX7_putCount_8 : decode cX7_putCount 8 = .ok (.iadd, 1) := by decide +kernel
theorem dX7_putCount_9 : decode cX7_putCount 9 = .ok (.iload_n 3, 1) := by decide +kernel
theorem dX7_putCount_10 : decode cX7_putCount 10 = .ok (.iastore, 1) := by decide +kernel
theorem dX7_putCount_11 : decode cX7_putCount 11 = .ok (.return_, 1) := by decide +kernel
theorem dX7_leadsTo_0 : decode cX7_leadsTo 0 = .ok (.iconst 0, 1) := by decide +kernel
theorem dX7_leadsTo_1 : decode cX7_leadsTo 1 = .ok (.istore_n 3, 1) := by decide +kernel
theorem dX7_leadsTo_2 : decode cX7_leadsTo 2 = .ok (.iload_n 3, 1) := by decide +kernel
theorem dX7_leadsTo_3 : decode cX7_leadsTo 3 = .ok (.aload_n 0, 1) := by decide +kernel
theorem dX7_leadsTo_4 : decode cX7_leadsTo 4 = .ok (.getfield 9, 3) := by decide +kernel
theorem dX7_leadsTo_7 : decode cX7_leadsTo 7 = .ok (.iload_n 1, 1) := by decide +kernel
theorem dX7_leadsTo_8 : decode cX7_leadsTo 8 = .ok (.iaload, 1) := by decide +kernel
theorem dX7_leadsTo_9 : decode cX7_leadsTo 9 = .ok (.if_icmp .ge 25, 3) := by decide +kernel
theorem dX7_leadsTo_12 : decode cX7_leadsTo 12 = .ok (.aload_n 0, 1) := by decide +kernel
theorem dX7_leadsTo_13 : decode cX7_leadsTo 13 = .ok (.getfield 15, 3) := by decide +kernel
theorem dX7_leadsTo_16 : decode cX7_leadsTo 16 = .ok (.iconst 2, 1) := by decide +kernel
theorem dX7_leadsTo_17 : decode cX7_leadsTo 17 = .ok (.iload_n 1, 1) := by decide +kernel
theorem dX7_leadsTo_18 : decode cX7_leadsTo 18 = .ok (.imul, 1) := by decide +kernel
theorem dX7_leadsTo_19 : decode cX7_leadsTo 19 = .ok (.iload_n 3, 1) := by decide +kernel
theorem dX7_leadsTo_20 : decode cX7_leadsTo 20 = .ok (.iadd, 1) := by decide +kernel
theorem dX7_leadsTo_21 : decode cX7_leadsTo 21 = .ok (.iaload, 1) := by decide +kernel
theorem dX7_leadsTo_22 : decode cX7_leadsTo 22 = .ok (.iload_n 2, 1) := by decide +kernel
theorem dX7_leadsTo_23 : decode cX7_leadsTo 23 = .ok (.if_icmp .ne 5, 3) := by decide +kernel
theorem dX7_leadsTo_26 : decode cX7_leadsTo 26 = .ok (.iconst 1, 1) := by decide +kernel
theorem dX7_leadsTo_27 : decode cX7_leadsTo 27 = .ok (.ireturn, 1) := by decide +kernel
theorem dX7_leadsTo_28 : decode cX7_leadsTo 28 = .ok (.iinc 3 1, 3) := by decide +kernel
theorem dX7_leadsTo_31 : decode cX7_leadsTo 31 = .ok (.goto (-29), 3) := by decide +kernel
theorem dX7_leadsTo_34 : decode cX7_leadsTo 34 = .ok (.iconst 0, 1) := by decide +kernel
theorem dX7_leadsTo_35 : decode cX7_leadsTo 35 = .ok (.ireturn, 1) := by decide +kernel
theorem dX7_runsOf_0 : decode cX7_runsOf 0 = .ok (.iload_n 1, 1) := by decide +kernel
theorem dX7_runsOf_1 : decode cX7_runsOf 1 = .ok (.ifCond .ne 13, 3) := by decide +kernel
theorem dX7_runsOf_4 : decode cX7_runsOf 4 = .ok (.aload_n 0, 1) := by decide +kernel
theorem dX7_runsOf_5 : decode cX7_runsOf 5 = .ok (.getfield 31, 3) := by decide +kernel
theorem dX7_runsOf_8 : decode cX7_runsOf 8 = .ok (.getfield 50, 3) := by decide +kernel
theorem dX7_runsOf_11 : decode cX7_runsOf 11 = .ok (.goto 4, 3) := by decide +kernel
theorem dX7_runsOf_14 : decode cX7_runsOf 14 = .ok (.iconst 0, 1) := by decide +kernel
theorem dX7_runsOf_15 : decode cX7_runsOf 15 = .ok (.istore_n 2, 1) := by decide +kernel
theorem dX7_runsOf_16 : decode cX7_runsOf 16 = .ok (.iconst 0, 1) := by decide +kernel
theorem dX7_runsOf_17 : decode cX7_runsOf 17 = .ok (.istore_n 3, 1) := by decide +kernel
theorem dX7_runsOf_18 : decode cX7_runsOf 18 = .ok (.iload_n 3, 1) := by decide +kernel
theorem dX7_runsOf_19 : decode cX7_runsOf 19 = .ok (.aload_n 0, 1) := by decide +kernel
theorem dX7_runsOf_20 : decode cX7_runsOf 20 = .ok (.getfield 31, 3) := by decide +kernel
theorem dX7_runsOf_23 : decode cX7_runsOf 23 = .ok (.getfield 41, 3) := by decide +kernel
theorem dX7_runsOf_26 : decode cX7_runsOf 26 = .ok (.if_icmp .ge 50, 3) := by decide +kernel
theorem dX7_runsOf_29 : decode cX7_runsOf 29 = .ok (.iconst 0, 1) := by decide +kernel
theorem dX7_runsOf_30 : decode cX7_runsOf 30 = .ok (.istore 4, 2) := by decide +kernel
theorem dX7_runsOf_32 : decode cX7_runsOf 32 = .ok (.iload 4, 2) := by decide +kernel
theorem dX7_runsOf_34 : decode cX7_runsOf 34 = .ok (.aload_n 0, 1) := by decide +kernel
theorem dX7_runsOf_35 : decode cX7_runsOf 35 = .ok (.getfield 9, 3) := by decide +kernel
theorem dX7_runsOf_38 : decode cX7_runsOf 38 = .ok (.iload_n 3, 1) := by decide +kernel
theorem dX7_runsOf_39 : decode cX7_runsOf 39 = .ok (.iaload, 1) := by decide +kernel
theorem dX7_runsOf_40 : decode cX7_runsOf 40 = .ok (.if_icmp .ge 30, 3) := by decide +kernel
theorem dX7_runsOf_43 : decode cX7_runsOf 43 = .ok (.aload_n 0, 1) := by decide +kernel
theorem dX7_runsOf_44 : decode cX7_runsOf 44 = .ok (.iload_n 3, 1) := by decide +kernel
theorem dX7_runsOf_45 : decode cX7_runsOf 45 = .ok (.iload 4, 2) := by decide +kernel
theorem dX7_runsOf_47 : decode cX7_runsOf 47 = .ok (.invokevirtual 53, 3) := by decide +kernel
theorem dX7_runsOf_50 : decode cX7_runsOf 50 = .ok (.iload_n 1, 1) := by decide +kernel
theorem dX7_runsOf_51 : decode cX7_runsOf 51 = .ok (.if_icmp .ne 13, 3) := by decide +kernel
theorem dX7_runsOf_54 : decode cX7_runsOf 54 = .ok (.iload_n 2, 1) := by decide +kernel
theorem dX7_runsOf_55 : decode cX7_runsOf 55 = .ok (.aload_n 0, 1) := by decide +kernel
theorem dX7_runsOf_56 : decode cX7_runsOf 56 = .ok (.iload_n 3, 1) := by decide +kernel
theorem dX7_runsOf_57 : decode cX7_runsOf 57 = .ok (.iload 4, 2) := by decide +kernel
theorem dX7_runsOf_59 : decode cX7_runsOf 59 = .ok (.invokevirtual 57, 3) := by decide +kernel
theorem dX7_runsOf_62 : decode cX7_runsOf 62 = .ok (.iadd, 1) := by decide +kernel
theorem dX7_runsOf_63 : decode cX7_runsOf 63 = .ok (.istore_n 2, 1) := by decide +kernel
theorem dX7_runsOf_64 : decode cX7_runsOf 64 = .ok (.iinc 4 1, 3) := by decide +kernel
theorem dX7_runsOf_67 : decode cX7_runsOf 67 = .ok (.goto (-35), 3) := by decide +kernel
theorem dX7_runsOf_70 : decode cX7_runsOf 70 = .ok (.iinc 3 1, 3) := by decide +kernel
theorem dX7_runsOf_73 : decode cX7_runsOf 73 = .ok (.goto (-55), 3) := by decide +kernel
theorem dX7_runsOf_76 : decode cX7_runsOf 76 = .ok (.iload_n 2, 1) := by decide +kernel
theorem dX7_runsOf_77 : decode cX7_runsOf 77 = .ok (.ireturn, 1) := by decide +kernel
theorem dX7_followerAt_0 : decode cX7_followerAt 0 = .ok (.iload_n 1, 1) := by decide +kernel
theorem dX7_followerAt_1 : decode cX7_followerAt 1 = .ok (.iconst 1, 1) := by decide +kernel
theorem dX7_followerAt_2 : decode cX7_followerAt 2 = .ok (.iadd, 1) := by decide +kernel
theorem dX7_followerAt_3 : decode cX7_followerAt 3 = .ok (.istore_n 2, 1) := by decide +kernel
theorem dX7_followerAt_4 : decode cX7_followerAt 4 = .ok (.iload_n 2, 1) := by decide +kernel
theorem dX7_followerAt_5 : decode cX7_followerAt 5 = .ok (.aload_n 0, 1) := by decide +kernel
theorem dX7_followerAt_6 : decode cX7_followerAt 6 = .ok (.getfield 24, 3) := by decide +kernel
theorem dX7_followerAt_9 : decode cX7_followerAt 9 = .ok (.if_icmp .eq 14, 3) := by decide +kernel
theorem dX7_followerAt_12 : decode cX7_followerAt 12 = .ok (.iload_n 2, 1) := by decide +kernel
theorem dX7_followerAt_13 : decode cX7_followerAt 13 = .ok (.aload_n 0, 1) := by decide +kernel
theorem dX7_followerAt_14 : decode cX7_followerAt 14 = .ok (.getfield 31, 3) := by decide +kernel
theorem dX7_followerAt_17 : decode cX7_followerAt 17 = .ok (.getfield 41, 3) := by decide +kernel
theorem dX7_followerAt_20 : decode cX7_followerAt 20 = .ok (.if_icmp .lt 7, 3) := by decide +kernel
theorem dX7_followerAt_23 : decode cX7_followerAt 23 = .ok (.iconst (-1), 1) := by decide +kernel
theorem dX7_followerAt_24 : decode cX7_followerAt 24 = .ok (.goto 9, 3) := by decide +kernel
theorem dX7_followerAt_27 : decode cX7_followerAt 27 = .ok (.aload_n 0, 1) := by decide +kernel
theorem dX7_followerAt_28 : decode cX7_followerAt 28 = .ok (.getfield 21, 3) := by decide +kernel
theorem dX7_followerAt_31 : decode cX7_followerAt 31 = .ok (.iload_n 2, 1) := by decide +kernel
theorem dX7_followerAt_32 : decode cX7_followerAt 32 = .ok (.iaload, 1) := by decide +kernel
theorem dX7_followerAt_33 : decode cX7_followerAt 33 = .ok (.ireturn, 1) := by decide +kernel
theorem dX7_followerOf_0 : decode cX7_followerOf 0 = .ok (.iconst 0, 1) := by decide +kernel
theorem dX7_followerOf_1 : decode cX7_followerOf 1 = .ok (.istore_n 2, 1) := by decide +kernel
theorem dX7_followerOf_2 : decode cX7_followerOf 2 = .ok (.iload_n 2, 1) := by decide +kernel
theorem dX7_followerOf_3 : decode cX7_followerOf 3 = .ok (.aload_n 0, 1) := by decide +kernel
theorem dX7_followerOf_4 : decode cX7_followerOf 4 = .ok (.getfield 31, 3) := by decide +kernel
theorem dX7_followerOf_7 : decode cX7_followerOf 7 = .ok (.getfield 41, 3) := by decide +kernel
theorem dX7_followerOf_10 : decode cX7_followerOf 10 = .ok (.if_icmp .ge 25, 3) := by decide +kernel
theorem dX7_followerOf_13 : decode cX7_followerOf 13 = .ok (.aload_n 0, 1) := by decide +kernel
theorem dX7_followerOf_14 : decode cX7_followerOf 14 = .ok (.getfield 21, 3) := by decide +kernel
theorem dX7_followerOf_17 : decode cX7_followerOf 17 = .ok (.iload_n 2, 1) := by decide +kernel
theorem dX7_followerOf_18 : decode cX7_followerOf 18 = .ok (.iaload, 1) := by decide +kernel
theorem dX7_followerOf_19 : decode cX7_followerOf 19 = .ok (.iload_n 1, 1) := by decide +kernel
theorem dX7_followerOf_20 : decode cX7_followerOf 20 = .ok (.if_icmp .ne 9, 3) := by decide +kernel
theorem dX7_followerOf_23 : decode cX7_followerOf 23 = .ok (.aload_n 0, 1) := by decide +kernel
theorem dX7_followerOf_24 : decode cX7_followerOf 24 = .ok (.iload_n 2, 1) := by decide +kernel
theorem dX7_followerOf_25 : decode cX7_followerOf 25 = .ok (.invokevirtual 60, 3) := by decide +kernel
theorem dX7_followerOf_28 : decode cX7_followerOf 28 = .ok (.ireturn, 1) := by decide +kernel
theorem dX7_followerOf_29 : decode cX7_followerOf 29 = .ok (.iinc 2 1, 3) := by decide +kernel
theorem dX7_followerOf_32 : decode cX7_followerOf 32 = .ok (.goto (-30), 3) := by decide +kernel
theorem dX7_followerOf_35 : decode cX7_followerOf 35 = .ok (.iconst (-1), 1) := by decide +kernel
theorem dX7_followerOf_36 : decode cX7_followerOf 36 = .ok (.ireturn, 1) := by decide +kernel
theorem dX7_branchBytesBefore_0 : decode cX7_branchBytesBefore 0 = .ok (.iconst 0, 1) := by decide +kernel
theorem dX7_branchBytesBefore_1 : decode cX7_branchBytesBefore 1 = .ok (.istore_n 3, 1) := by decide +kernel
theorem dX7_branchBytesBefore_2 : decode cX7_branchBytesBefore 2 = .ok (.iconst 0, 1) := by decide +kernel
theorem dX7_branchBytesBefore_3 : decode cX7_branchBytesBefore 3 = .ok (.istore 4, 2) := by decide +kernel
theorem dX7_branchBytesBefore_5 : decode cX7_branchBytesBefore 5 = .ok (.iload 4, 2) := by decide +kernel
theorem dX7_branchBytesBefore_7 : decode cX7_branchBytesBefore 7 = .ok (.aload_n 0, 1) := by decide +kernel
theorem dX7_branchBytesBefore_8 : decode cX7_branchBytesBefore 8 = .ok (.getfield 9, 3) := by decide +kernel
theorem dX7_branchBytesBefore_11 : decode cX7_branchBytesBefore 11 = .ok (.iload_n 1, 1) := by decide +kernel
theorem dX7_branchBytesBefore_12 : decode cX7_branchBytesBefore 12 = .ok (.iaload, 1) := by decide +kernel
theorem dX7_branchBytesBefore_13 : decode cX7_branchBytesBefore 13 = .ok (.if_icmp .ge 23, 3) := by decide +kernel
theorem dX7_branchBytesBefore_16 : decode cX7_branchBytesBefore 16 = .ok (.aload_n 0, 1) := by decide +kernel
theorem dX7_branchBytesBefore_17 : decode cX7_branchBytesBefore 17 = .ok (.iload_n 1, 1) := by decide +kernel
theorem dX7_branchBytesBefore_18 : decode cX7_branchBytesBefore 18 = .ok (.iload 4, 2) := by decide +kernel
theorem dX7_branchBytesBefore_20 : decode cX7_branchBytesBefore 20 = .ok (.invokevirtual 53, 3) := by decide +kernel
theorem dX7_branchBytesBefore_23 : decode cX7_branchBytesBefore 23 = .ok (.iload_n 2, 1) := by decide +kernel
theorem dX7_branchBytesBefore_24 : decode cX7_branchBytesBefore 24 = .ok (.if_icmp .eq 6, 3) := by decide +kernel
theorem dX7_branchBytesBefore_27 : decode cX7_branchBytesBefore 27 = .ok (.iinc 3 2, 3) := by decide +kernel
theorem dX7_branchBytesBefore_30 : decode cX7_branchBytesBefore 30 = .ok (.iinc 4 1, 3) := by decide +kernel
theorem dX7_branchBytesBefore_33 : decode cX7_branchBytesBefore 33 = .ok (.goto (-28), 3) := by decide +kernel
theorem dX7_branchBytesBefore_36 : decode cX7_branchBytesBefore 36 = .ok (.iload_n 3, 1) := by decide +kernel
theorem dX7_branchBytesBefore_37 : decode cX7_branchBytesBefore 37 = .ok (.ireturn, 1) := by decide +kernel
theorem dX7_passCost_0 : decode cX7_passCost 0 = .ok (.aload_n 0, 1) := by decide +kernel
theorem dX7_passCost_1 : decode cX7_passCost 1 = .ok (.iload_n 1, 1) := by decide +kernel
theorem dX7_passCost_2 : decode cX7_passCost 2 = .ok (.iload_n 2, 1) := by decide +kernel
theorem dX7_passCost_3 : decode cX7_passCost 3 = .ok (.invokevirtual 53, 3) := by decide +kernel
theorem dX7_passCost_6 : decode cX7_passCost 6 = .ok (.iload_n 3, 1) := by decide +kernel
theorem dX7_passCost_7 : decode cX7_passCost 7 = .ok (.if_icmp .ne 5, 3) := by decide +kernel
theorem dX7_passCost_10 : decode cX7_passCost 10 = .ok (.iconst 0, 1) := by decide +kernel
theorem dX7_passCost_11 : decode cX7_passCost 11 = .ok (.ireturn, 1) := by decide +kernel
theorem dX7_passCost_12 : decode cX7_passCost 12 = .ok (.aload_n 0, 1) := by decide +kernel
theorem dX7_passCost_13 : decode cX7_passCost 13 = .ok (.getfield 9, 3) := by decide +kernel
theorem dX7_passCost_16 : decode cX7_passCost 16 = .ok (.iload_n 1, 1) := by decide +kernel
theorem dX7_passCost_17 : decode cX7_passCost 17 = .ok (.iaload, 1) := by decide +kernel
theorem dX7_passCost_18 : decode cX7_passCost 18 = .ok (.iconst 1, 1) := by decide +kernel
theorem dX7_passCost_19 : decode cX7_passCost 19 = .ok (.if_icmp .ne 5, 3) := by decide +kernel
theorem dX7_passCost_22 : decode cX7_passCost 22 = .ok (.iconst 2, 1) := by decide +kernel
theorem dX7_passCost_23 : decode cX7_passCost 23 = .ok (.ireturn, 1) := by decide +kernel
theorem dX7_passCost_24 : decode cX7_passCost 24 = .ok (.aload_n 0, 1) := by decide +kernel
theorem dX7_passCost_25 : decode cX7_passCost 25 = .ok (.iload_n 1, 1) := by decide +kernel
theorem dX7_passCost_26 : decode cX7_passCost 26 = .ok (.iconst 1, 1) := by decide +kernel
theorem dX7_passCost_27 : decode cX7_passCost 27 = .ok (.iload_n 2, 1) := by decide +kernel
theorem dX7_passCost_28 : decode cX7_passCost 28 = .ok (.isub, 1) := by decide +kernel
theorem dX7_passCost_29 : decode cX7_passCost 29 = .ok (.invokevirtual 53, 3) := by decide +kernel
theorem dX7_passCost_32 : decode cX7_passCost 32 = .ok (.iload_n 3, 1) := by decide +kernel
theorem dX7_passCost_33 : decode cX7_passCost 33 = .ok (.if_icmp .ne 5, 3) := by decide +kernel
theorem dX7_passCost_36 : decode cX7_passCost 36 = .ok (.iconst 3, 1) := by decide +kernel
theorem dX7_passCost_37 : decode cX7_passCost 37 = .ok (.ireturn, 1) := by decide +kernel
theorem dX7_passCost_38 : decode cX7_passCost 38 = .ok (.aload_n 0, 1) := by decide +kernel
theorem dX7_passCost_39 : decode cX7_passCost 39 = .ok (.iload_n 1, 1) := by decide +kernel
theorem dX7_passCost_40 : decode cX7_passCost 40 = .ok (.iconst 1, 1) := by decide +kernel
theorem dX7_passCost_41 : decode cX7_passCost 41 = .ok (.invokevirtual 57, 3) := by decide +kernel
theorem dX7_passCost_44 : decode cX7_passCost 44 = .ok (.aload_n 0, 1) := by decide +kernel
theorem dX7_passCost_45 : decode cX7_passCost 45 = .ok (.iload_n 1, 1) := by decide +kernel
theorem dX7_passCost_46 : decode cX7_passCost 46 = .ok (.iconst 0, 1) := by decide +kernel
theorem dX7_passCost_47 : decode cX7_passCost 47 = .ok (.invokevirtual 57, 3) := by decide +kernel
theorem dX7_passCost_50 : decode cX7_passCost 50 = .ok (.if_icmp .le 7, 3) := by decide +kernel
theorem dX7_passCost_53 : decode cX7_passCost 53 = .ok (.iconst 1, 1) := by decide +kernel
theorem dX7_passCost_54 : decode cX7_passCost 54 = .ok (.goto 4, 3) := by decide +kernel
theorem dX7_passCost_57 : decode cX7_passCost 57 = .ok (.iconst 0, 1) := by decide +kernel
theorem dX7_passCost_58 : decode cX7_passCost 58 = .ok (.istore 4, 2) := by decide +kernel
theorem dX7_passCost_60 : decode cX7_passCost 60 = .ok (.iload_n 2, 1) := by decide +kernel
theorem dX7_passCost_61 : decode cX7_passCost 61 = .ok (.iload 4, 2) := by decide +kernel
theorem dX7_passCost_63 : decode cX7_passCost 63 = .ok (.if_icmp .ne 7, 3) := by decide +kernel
theorem dX7_passCost_66 : decode cX7_passCost 66 = .ok (.iconst 3, 1) := by decide +kernel
theorem dX7_passCost_67 : decode cX7_passCost 67 = .ok (.goto 4, 3) := by decide +kernel
theorem dX7_passCost_70 : decode cX7_passCost 70 = .ok (.iconst 2, 1) := by decide +kernel
theorem dX7_passCost_71 : decode cX7_passCost 71 = .ok (.ireturn, 1) := by decide +kernel
theorem dX7_shareOfCost_0 : decode cX7_shareOfCost 0 = .ok (.iconst 0, 1) := by decide +kernel
theorem dX7_shareOfCost_1 : decode cX7_shareOfCost 1 = .ok (.istore_n 3, 1) := by decide +kernel
theorem dX7_shareOfCost_2 : decode cX7_shareOfCost 2 = .ok (.iconst 0, 1) := by decide +kernel
theorem dX7_shareOfCost_3 : decode cX7_shareOfCost 3 = .ok (.istore 4, 2) := by decide +kernel
theorem dX7_shareOfCost_5 : decode cX7_shareOfCost 5 = .ok (.iload 4, 2) := by decide +kernel
theorem dX7_shareOfCost_7 : decode cX7_shareOfCost 7 = .ok (.aload_n 0, 1) := by decide +kernel
theorem dX7_shareOfCost_8 : decode cX7_shareOfCost 8 = .ok (.getfield 9, 3) := by decide +kernel
theorem dX7_shareOfCost_11 : decode cX7_shareOfCost 11 = .ok (.iload_n 1, 1) := by decide +kernel
theorem dX7_shareOfCost_12 : decode cX7_shareOfCost 12 = .ok (.iaload, 1) := by decide +kernel
theorem dX7_shareOfCost_13 : decode cX7_shareOfCost 13 = .ok (.if_icmp .ge 28, 3) := by decide +kernel
theorem dX7_shareOfCost_16 : decode cX7_shareOfCost 16 = .ok (.iload_n 3, 1) := by decide +kernel
theorem dX7_shareOfCost_17 : decode cX7_shareOfCost 17 = .ok (.aload_n 0, 1) := by decide +kernel
theorem dX7_shareOfCost_18 : decode cX7_shareOfCost 18 = .ok (.iload_n 1, 1) := by decide +kernel
theorem dX7_shareOfCost_19 : decode cX7_shareOfCost 19 = .ok (.iload 4, 2) := by decide +kernel
theorem dX7_shareOfCost_21 : decode cX7_shareOfCost 21 = .ok (.invokevirtual 57, 3) := by decide +kernel
theorem dX7_shareOfCost_24 : decode cX7_shareOfCost 24 = .ok (.aload_n 0, 1) := by decide +kernel
theorem dX7_shareOfCost_25 : decode cX7_shareOfCost 25 = .ok (.iload_n 1, 1) := by decide +kernel
theorem dX7_shareOfCost_26 : decode cX7_shareOfCost 26 = .ok (.iload 4, 2) := by decide +kernel
theorem dX7_shareOfCost_28 : decode cX7_shareOfCost 28 = .ok (.iload_n 2, 1) := by decide +kernel
theorem dX7_shareOfCost_29 : decode cX7_shareOfCost 29 = .ok (.invokevirtual 64, 3) := by decide +kernel
theorem dX7_shareOfCost_32 : decode cX7_shareOfCost 32 = .ok (.imul, 1) := by decide +kernel
theorem dX7_shareOfCost_33 : decode cX7_shareOfCost 33 = .ok (.iadd, 1) := by decide +kernel
theorem dX7_shareOfCost_34 : decode cX7_shareOfCost 34 = .ok (.istore_n 3, 1) := by decide +kernel
theorem dX7_shareOfCost_35 : decode cX7_shareOfCost 35 = .ok (.iinc 4 1, 3) := by decide +kernel
theorem dX7_shareOfCost_38 : decode cX7_shareOfCost 38 = .ok (.goto (-33), 3) := by decide +kernel
theorem dX7_shareOfCost_41 : decode cX7_shareOfCost 41 = .ok (.iload_n 3, 1) := by decide +kernel
theorem dX7_shareOfCost_42 : decode cX7_shareOfCost 42 = .ok (.ireturn, 1) := by decide +kernel
theorem dX7_totalCost_0 : decode cX7_totalCost 0 = .ok (.iconst 0, 1) := by decide +kernel
theorem dX7_totalCost_1 : decode cX7_totalCost 1 = .ok (.istore_n 1, 1) := by decide +kernel
theorem dX7_totalCost_2 : decode cX7_totalCost 2 = .ok (.iconst 0, 1) := by decide +kernel
theorem dX7_totalCost_3 : decode cX7_totalCost 3 = .ok (.istore_n 2, 1) := by decide +kernel
theorem dX7_totalCost_4 : decode cX7_totalCost 4 = .ok (.iload_n 2, 1) := by decide +kernel
theorem dX7_totalCost_5 : decode cX7_totalCost 5 = .ok (.aload_n 0, 1) := by decide +kernel
theorem dX7_totalCost_6 : decode cX7_totalCost 6 = .ok (.getfield 31, 3) := by decide +kernel
theorem dX7_totalCost_9 : decode cX7_totalCost 9 = .ok (.getfield 41, 3) := by decide +kernel
theorem dX7_totalCost_12 : decode cX7_totalCost 12 = .ok (.if_icmp .ge 27, 3) := by decide +kernel
theorem dX7_totalCost_15 : decode cX7_totalCost 15 = .ok (.iload_n 1, 1) := by decide +kernel
theorem dX7_totalCost_16 : decode cX7_totalCost 16 = .ok (.aload_n 0, 1) := by decide +kernel
theorem dX7_totalCost_17 : decode cX7_totalCost 17 = .ok (.aload_n 0, 1) := by decide +kernel
theorem dX7_totalCost_18 : decode cX7_totalCost 18 = .ok (.getfield 21, 3) := by decide +kernel
theorem dX7_totalCost_21 : decode cX7_totalCost 21 = .ok (.iload_n 2, 1) := by decide +kernel
theorem dX7_totalCost_22 : decode cX7_totalCost 22 = .ok (.iaload, 1) := by decide +kernel
theorem dX7_totalCost_23 : decode cX7_totalCost 23 = .ok (.aload_n 0, 1) := by decide +kernel
theorem dX7_totalCost_24 : decode cX7_totalCost 24 = .ok (.iload_n 2, 1) := by decide +kernel
theorem dX7_totalCost_25 : decode cX7_totalCost 25 = .ok (.invokevirtual 60, 3) := by decide +kernel
theorem dX7_totalCost_28 : decode cX7_totalCost 28 = .ok (.invokevirtual 68, 3) := by decide +kernel
theorem dX7_totalCost_31 : decode cX7_totalCost 31 = .ok (.iadd, 1) := by decide +kernel
theorem dX7_totalCost_32 : decode cX7_totalCost 32 = .ok (.istore_n 1, 1) := by decide +kernel
theorem dX7_totalCost_33 : decode cX7_totalCost 33 = .ok (.iinc 2 1, 3) := by decide +kernel
theorem dX7_totalCost_36 : decode cX7_totalCost 36 = .ok (.goto (-32), 3) := by decide +kernel
theorem dX7_totalCost_39 : decode cX7_totalCost 39 = .ok (.iload_n 1, 1) := by decide +kernel
theorem dX7_totalCost_40 : decode cX7_totalCost 40 = .ok (.ireturn, 1) := by decide +kernel
theorem dX7_refusalToExchange_0 : decode cX7_refusalToExchange 0 = .ok (.aload_n 0, 1) := by decide +kernel
theorem dX7_refusalToExchange_1 : decode cX7_refusalToExchange 1 = .ok (.getfield 31, 3) := by decide +kernel
theorem dX7_refusalToExchange_4 : decode cX7_refusalToExchange 4 = .ok (.iload_n 1, 1) := by decide +kernel
theorem dX7_refusalToExchange_5 : decode cX7_refusalToExchange 5 = .ok (.invokevirtual 71, 3) := by decide +kernel
theorem dX7_refusalToExchange_8 : decode cX7_refusalToExchange 8 = .ok (.ifCond .eq 14, 3) := by decide +kernel
theorem dX7_refusalToExchange_11 : decode cX7_refusalToExchange 11 = .ok (.aload_n 0, 1) := by decide +kernel
theorem dX7_refusalToExchange_12 : decode cX7_refusalToExchange 12 = .ok (.getfield 31, 3) := by decide +kernel
theorem dX7_refusalToExchange_15 : decode cX7_refusalToExchange 15 = .ok (.iload_n 2, 1) := by decide +kernel
theorem dX7_refusalToExchange_16 : decode cX7_refusalToExchange 16 = .ok (.invokevirtual 71, 3) := by decide +kernel
theorem dX7_refusalToExchange_19 : decode cX7_refusalToExchange 19 = .ok (.ifCond .ne 5, 3) := by decide +kernel
theorem dX7_refusalToExchange_22 : decode cX7_refusalToExchange 22 = .ok (.iconst (-1), 1) := by decide +kernel
theorem dX7_refusalToExchange_23 : decode cX7_refusalToExchange 23 = .ok (.ireturn, 1) := by decide +kernel
theorem dX7_refusalToExchange_24 : decode cX7_refusalToExchange 24 = .ok (.iload_n 1, 1) := by decide +kernel
theorem dX7_refusalToExchange_25 : decode cX7_refusalToExchange 25 = .ok (.ifCond .eq 7, 3) := by decide +kernel
theorem dX7_refusalToExchange_28 : decode cX7_refusalToExchange 28 = .ok (.iload_n 2, 1) := by decide +kernel
theorem dX7_refusalToExchange_29 : decode cX7_refusalToExchange 29 = .ok (.ifCond .ne 8, 3) := by decide +kernel
theorem dX7_refusalToExchange_32 : decode cX7_refusalToExchange 32 = .ok (.bipush (-3), 2) := by decide +kernel
theorem dX7_refusalToExchange_34 : decode cX7_refusalToExchange 34 = .ok (.goto 4, 3) := by decide +kernel
theorem dX7_refusalToExchange_37 : decode cX7_refusalToExchange 37 = .ok (.iconst 0, 1) := by decide +kernel
theorem dX7_refusalToExchange_38 : decode cX7_refusalToExchange 38 = .ok (.ireturn, 1) := by decide +kernel
theorem dX7_exchange_0 : decode cX7_exchange 0 = .ok (.aload_n 0, 1) := by decide +kernel
theorem dX7_exchange_1 : decode cX7_exchange 1 = .ok (.getfield 21, 3) := by decide +kernel
theorem dX7_exchange_4 : decode cX7_exchange 4 = .ok (.iload_n 1, 1) := by decide +kernel
theorem dX7_exchange_5 : decode cX7_exchange 5 = .ok (.iaload, 1) := by decide +kernel
theorem dX7_exchange_6 : decode cX7_exchange 6 = .ok (.istore_n 3, 1) := by decide +kernel
theorem dX7_exchange_7 : decode cX7_exchange 7 = .ok (.aload_n 0, 1) := by decide +kernel
theorem dX7_exchange_8 : decode cX7_exchange 8 = .ok (.getfield 21, 3) := by decide +kernel
theorem dX7_exchange_11 : decode cX7_exchange 11 = .ok (.iload_n 1, 1) := by decide +kernel
theorem dX7_exchange_12 : decode cX7_exchange 12 = .ok (.aload_n 0, 1) := by decide +kernel
theorem dX7_exchange_13 : decode cX7_exchange 13 = .ok (.getfield 21, 3) := by decide +kernel
theorem dX7_exchange_16 : decode cX7_exchange 16 = .ok (.iload_n 2, 1) := by decide +kernel
theorem dX7_exchange_17 : decode cX7_exchange 17 = .ok (.iaload, 1) := by decide +kernel
theorem dX7_exchange_18 : decode cX7_exchange 18 = .ok (.iastore, 1) := by decide +kernel
theorem dX7_exchange_19 : decode cX7_exchange 19 = .ok (.aload_n 0, 1) := by decide +kernel
theorem dX7_exchange_20 : decode cX7_exchange 20 = .ok (.getfield 21, 3) := by decide +kernel
theorem dX7_exchange_23 : decode cX7_exchange 23 = .ok (.iload_n 2, 1) := by decide +kernel
theorem dX7_exchange_24 : decode cX7_exchange 24 = .ok (.iload_n 3, 1) := by decide +kernel
theorem dX7_exchange_25 : decode cX7_exchange 25 = .ok (.iastore, 1) := by decide +kernel
theorem dX7_exchange_26 : decode cX7_exchange 26 = .ok (.return_, 1) := by decide +kernel
theorem dX7_refusalToTurn_0 : decode cX7_refusalToTurn 0 = .ok (.aload_n 0, 1) := by decide +kernel
theorem dX7_refusalToTurn_1 : decode cX7_refusalToTurn 1 = .ok (.getfield 31, 3) := by decide +kernel
theorem dX7_refusalToTurn_4 : decode cX7_refusalToTurn 4 = .ok (.iload_n 1, 1) := by decide +kernel
theorem dX7_refusalToTurn_5 : decode cX7_refusalToTurn 5 = .ok (.invokevirtual 71, 3) := by decide +kernel
theorem dX7_refusalToTurn_8 : decode cX7_refusalToTurn 8 = .ok (.ifCond .eq 14, 3) := by decide +kernel
theorem dX7_refusalToTurn_11 : decode cX7_refusalToTurn 11 = .ok (.aload_n 0, 1) := by decide +kernel
theorem dX7_refusalToTurn_12 : decode cX7_refusalToTurn 12 = .ok (.getfield 31, 3) := by decide +kernel
theorem dX7_refusalToTurn_15 : decode cX7_refusalToTurn 15 = .ok (.iload_n 2, 1) := by decide +kernel
theorem dX7_refusalToTurn_16 : decode cX7_refusalToTurn 16 = .ok (.invokevirtual 71, 3) := by decide +kernel
theorem dX7_refusalToTurn_19 : decode cX7_refusalToTurn 19 = .ok (.ifCond .ne 5, 3) := by decide +kernel
theorem dX7_refusalToTurn_22 : decode cX7_refusalToTurn 22 = .ok (.iconst (-1), 1) := by decide +kernel
theorem dX7_refusalToTurn_23 : decode cX7_refusalToTurn 23 = .ok (.ireturn, 1) := by decide +kernel
theorem dX7_refusalToTurn_24 : decode cX7_refusalToTurn 24 = .ok (.iload_n 1, 1) := by decide +kernel
theorem dX7_refusalToTurn_25 : decode cX7_refusalToTurn 25 = .ok (.ifCond .eq 16, 3) := by decide +kernel
theorem dX7_refusalToTurn_28 : decode cX7_refusalToTurn 28 = .ok (.iload_n 1, 1) := by decide +kernel
theorem dX7_refusalToTurn_29 : decode cX7_refusalToTurn 29 = .ok (.iload_n 2, 1) := by decide +kernel
theorem dX7_refusalToTurn_30 : decode cX7_refusalToTurn 30 = .ok (.if_icmp .gt 11, 3) := by decide +kernel
theorem dX7_refusalToTurn_33 : decode cX7_refusalToTurn 33 = .ok (.iload_n 2, 1) := by decide +kernel
theorem dX7_refusalToTurn_34 : decode cX7_refusalToTurn 34 = .ok (.aload_n 0, 1) := by decide +kernel
theorem dX7_refusalToTurn_35 : decode cX7_refusalToTurn 35 = .ok (.getfield 24, 3) := by decide +kernel
theorem dX7_refusalToTurn_38 : decode cX7_refusalToTurn 38 = .ok (.if_icmp .lt 8, 3) := by decide +kernel
theorem dX7_refusalToTurn_41 : decode cX7_refusalToTurn 41 = .ok (.bipush (-3), 2) := by decide +kernel
theorem dX7_refusalToTurn_43 : decode cX7_refusalToTurn 43 = .ok (.goto 4, 3) := by decide +kernel
theorem dX7_refusalToTurn_46 : decode cX7_refusalToTurn 46 = .ok (.iconst 0, 1) := by decide +kernel
theorem dX7_refusalToTurn_47 : decode cX7_refusalToTurn 47 = .ok (.ireturn, 1) := by decide +kernel
theorem dX7_turn_0 : decode cX7_turn 0 = .ok (.aload_n 0, 1) := by decide +kernel
theorem dX7_turn_1 : decode cX7_turn 1 = .ok (.getfield 21, 3) := by decide +kernel
theorem dX7_turn_4 : decode cX7_turn 4 = .ok (.iload_n 1, 1) := by decide +kernel
theorem dX7_turn_5 : decode cX7_turn 5 = .ok (.iaload, 1) := by decide +kernel
theorem dX7_turn_6 : decode cX7_turn 6 = .ok (.istore_n 3, 1) := by decide +kernel
theorem dX7_turn_7 : decode cX7_turn 7 = .ok (.iload_n 1, 1) := by decide +kernel
theorem dX7_turn_8 : decode cX7_turn 8 = .ok (.istore 4, 2) := by decide +kernel
theorem dX7_turn_10 : decode cX7_turn 10 = .ok (.iload 4, 2) := by decide +kernel
theorem dX7_turn_12 : decode cX7_turn 12 = .ok (.iload_n 2, 1) := by decide +kernel
theorem dX7_turn_13 : decode cX7_turn 13 = .ok (.if_icmp .ge 25, 3) := by decide +kernel
theorem dX7_turn_16 : decode cX7_turn 16 = .ok (.aload_n 0, 1) := by decide +kernel
theorem dX7_turn_17 : decode cX7_turn 17 = .ok (.getfield 21, 3) := by decide +kernel
theorem dX7_turn_20 : decode cX7_turn 20 = .ok (.iload 4, 2) := by decide +kernel
theorem dX7_turn_22 : decode cX7_turn 22 = .ok (.aload_n 0, 1) := by decide +kernel
theorem dX7_turn_23 : decode cX7_turn 23 = .ok (.getfield 21, 3) := by decide +kernel
theorem dX7_turn_26 : decode cX7_turn 26 = .ok (.iload 4, 2) := by decide +kernel
theorem dX7_turn_28 : decode cX7_turn 28 = .ok (.iconst 1, 1) := by decide +kernel
theorem dX7_turn_29 : decode cX7_turn 29 = .ok (.iadd, 1) := by decide +kernel
theorem dX7_turn_30 : decode cX7_turn 30 = .ok (.iaload, 1) := by decide +kernel
theorem dX7_turn_31 : decode cX7_turn 31 = .ok (.iastore, 1) := by decide +kernel
theorem dX7_turn_32 : decode cX7_turn 32 = .ok (.iinc 4 1, 3) := by decide +kernel
theorem dX7_turn_35 : decode cX7_turn 35 = .ok (.goto (-25), 3) := by decide +kernel
theorem dX7_turn_38 : decode cX7_turn 38 = .ok (.aload_n 0, 1) := by decide +kernel
theorem dX7_turn_39 : decode cX7_turn 39 = .ok (.getfield 21, 3) := by decide +kernel
theorem dX7_turn_42 : decode cX7_turn 42 = .ok (.iload_n 2, 1) := by decide +kernel
theorem dX7_turn_43 : decode cX7_turn 43 = .ok (.iload_n 3, 1) := by decide +kernel
theorem dX7_turn_44 : decode cX7_turn 44 = .ok (.iastore, 1) := by decide +kernel
theorem dX7_turn_45 : decode cX7_turn 45 = .ok (.return_, 1) := by decide +kernel
theorem dX7_refusalToDivide_0 : decode cX7_refusalToDivide 0 = .ok (.iload_n 0, 1) := by decide +kernel
theorem dX7_refusalToDivide_1 : decode cX7_refusalToDivide 1 = .ok (.iconst 1, 1) := by decide +kernel
theorem dX7_refusalToDivide_2 : decode cX7_refusalToDivide 2 = .ok (.if_icmp .lt 9, 3) := by decide +kernel
theorem dX7_refusalToDivide_5 : decode cX7_refusalToDivide 5 = .ok (.iload_n 0, 1) := by decide +kernel
theorem dX7_refusalToDivide_6 : decode cX7_refusalToDivide 6 = .ok (.bipush 99, 2) := by decide +kernel
theorem dX7_refusalToDivide_8 : decode cX7_refusalToDivide 8 = .ok (.if_icmp .le 8, 3) := by decide +kernel
theorem dX7_refusalToDivide_11 : decode cX7_refusalToDivide 11 = .ok (.bipush (-2), 2) := by decide +kernel
theorem dX7_refusalToDivide_13 : decode cX7_refusalToDivide 13 = .ok (.goto 4, 3) := by decide +kernel
theorem dX7_refusalToDivide_16 : decode cX7_refusalToDivide 16 = .ok (.iconst 0, 1) := by decide +kernel
theorem dX7_refusalToDivide_17 : decode cX7_refusalToDivide 17 = .ok (.ireturn, 1) := by decide +kernel
theorem dX7_divide_0 : decode cX7_divide 0 = .ok (.iconst 0, 1) := by decide +kernel
theorem dX7_divide_1 : decode cX7_divide 1 = .ok (.istore_n 2, 1) := by decide +kernel
theorem dX7_divide_2 : decode cX7_divide 2 = .ok (.iconst 0, 1) := by decide +kernel
theorem dX7_divide_3 : decode cX7_divide 3 = .ok (.istore_n 3, 1) := by decide +kernel
theorem dX7_divide_4 : decode cX7_divide 4 = .ok (.iload_n 3, 1) := by decide +kernel
theorem dX7_divide_5 : decode cX7_divide 5 = .ok (.aload_n 0, 1) := by decide +kernel
theorem dX7_divide_6 : decode cX7_divide 6 = .ok (.getfield 31, 3) := by decide +kernel
theorem dX7_divide_9 : decode cX7_divide 9 = .ok (.getfield 41, 3) := by decide +kernel
theorem dX7_divide_12 : decode cX7_divide 12 = .ok (.if_icmp .ge 74, 3) := by decide +kernel
theorem dX7_divide_15 : decode cX7_divide 15 = .ok (.aload_n 0, 1) := by decide +kernel
theorem dX7_divide_16 : decode cX7_divide 16 = .ok (.getfield 21, 3) := by decide +kernel
theorem dX7_divide_19 : decode cX7_divide 19 = .ok (.iload_n 3, 1) := by decide +kernel
theorem dX7_divide_20 : decode cX7_divide 20 = .ok (.iaload, 1) := by decide +kernel
theorem dX7_divide_21 : decode cX7_divide 21 = .ok (.istore 4, 2) := by decide +kernel
theorem dX7_divide_23 : decode cX7_divide 23 = .ok (.iload 4, 2) := by decide +kernel
theorem dX7_divide_25 : decode cX7_divide 25 = .ok (.ifCond .eq 13, 3) := by decide +kernel
theorem dX7_divide_28 : decode cX7_divide 28 = .ok (.aload_n 0, 1) := by decide +kernel
theorem dX7_divide_29 : decode cX7_divide 29 = .ok (.iload 4, 2) := by decide +kernel
theorem dX7_divide_31 : decode cX7_divide 31 = .ok (.invokevirtual 74, 3) := by decide +kernel
theorem dX7_divide_34 : decode cX7_divide 34 = .ok (.iload_n 1, 1) := by decide +kernel
theorem dX7_divide_35 : decode cX7_divide 35 = .ok (.if_icmp .lt 45, 3) := by decide +kernel
theorem dX7_divide_38 : decode cX7_divide 38 = .ok (.iload_n 3, 1) := by decide +kernel
theorem dX7_divide_39 : decode cX7_divide 39 = .ok (.istore 5, 2) := by decide +kernel
theorem dX7_divide_41 : decode cX7_divide 41 = .ok (.iload 5, 2) := by decide +kernel
theorem dX7_divide_43 : decode cX7_divide 43 = .ok (.iload_n 2, 1) := by decide +kernel
theorem dX7_divide_44 : decode cX7_divide 44 = .ok (.if_icmp .le 25, 3) := by decide +kernel
theorem dX7_divide_47 : decode cX7_divide 47 = .ok (.aload_n 0, 1) := by decide +kernel
theorem dX7_divide_48 : decode cX7_divide 48 = .ok (.getfield 21, 3) := by decide +kernel
theorem dX7_divide_51 : decode cX7_divide 51 = .ok (.iload 5, 2) := by decide +kernel
theorem dX7_divide_53 : decode cX7_divide 53 = .ok (.aload_n 0, 1) := by decide +kernel
theorem dX7_divide_54 : decode cX7_divide 54 = .ok (.getfield 21, 3) := by decide +kernel
theorem dX7_divide_57 : decode cX7_divide 57 = .ok (.iload 5, 2) := by decide +kernel
theorem dX7_divide_59 : decode cX7_divide 59 = .ok (.iconst 1, 1) := by decide +kernel
theorem dX7_divide_60 : decode cX7_divide 60 = .ok (.isub, 1) := by decide +kernel
theorem dX7_divide_61 : decode cX7_divide 61 = .ok (.iaload, 1) := by decide +kernel
theorem dX7_divide_62 : decode cX7_divide 62 = .ok (.iastore, 1) := by decide +kernel
theorem dX7_divide_63 : decode cX7_divide 63 = .ok (.iinc 5 (-1), 3) := by decide +kernel
theorem dX7_divide_66 : decode cX7_divide 66 = .ok (.goto (-25), 3) := by decide +kernel
theorem dX7_divide_69 : decode cX7_divide 69 = .ok (.aload_n 0, 1) := by decide +kernel
theorem dX7_divide_70 : decode cX7_divide 70 = .ok (.getfield 21, 3) := by decide +kernel
theorem dX7_divide_73 : decode cX7_divide 73 = .ok (.iload_n 2, 1) := by decide +kernel
theorem dX7_divide_74 : decode cX7_divide 74 = .ok (.iload 4, 2) := by decide +kernel
theorem dX7_divide_76 : decode cX7_divide 76 = .ok (.iastore, 1) := by decide +kernel
theorem dX7_divide_77 : decode cX7_divide 77 = .ok (.iinc 2 1, 3) := by decide +kernel
theorem dX7_divide_80 : decode cX7_divide 80 = .ok (.iinc 3 1, 3) := by decide +kernel
theorem dX7_divide_83 : decode cX7_divide 83 = .ok (.goto (-79), 3) := by decide +kernel
theorem dX7_divide_86 : decode cX7_divide 86 = .ok (.aload_n 0, 1) := by decide +kernel
theorem dX7_divide_87 : decode cX7_divide 87 = .ok (.iload_n 2, 1) := by decide +kernel
theorem dX7_divide_88 : decode cX7_divide 88 = .ok (.putfield 24, 3) := by decide +kernel
theorem dX7_divide_91 : decode cX7_divide 91 = .ok (.return_, 1) := by decide +kernel
theorem dX7_refusalToGoAround_0 : decode cX7_refusalToGoAround 0 = .ok (.aload_n 0, 1) := by decide +kernel
theorem dX7_refusalToGoAround_1 : decode cX7_refusalToGoAround 1 = .ok (.getfield 31, 3) := by decide +kernel
theorem dX7_refusalToGoAround_4 : decode cX7_refusalToGoAround 4 = .ok (.iload_n 1, 1) := by decide +kernel
theorem dX7_refusalToGoAround_5 : decode cX7_refusalToGoAround 5 = .ok (.invokevirtual 46, 3) := by decide +kernel
theorem dX7_refusalToGoAround_8 : decode cX7_refusalToGoAround 8 = .ok (.ifCond .ne 5, 3) := by decide +kernel
theorem dX7_refusalToGoAround_11 : decode cX7_refusalToGoAround 11 = .ok (.iconst (-1), 1) := by decide +kernel
theorem dX7_refusalToGoAround_12 : decode cX7_refusalToGoAround 12 = .ok (.ireturn, 1) := by decide +kernel
theorem dX7_refusalToGoAround_13 : decode cX7_refusalToGoAround 13 = .ok (.iload_n 1, 1) := by decide +kernel
theorem dX7_refusalToGoAround_14 : decode cX7_refusalToGoAround 14 = .ok (.ifCond .eq 39, 3) := by decide +kernel
theorem dX7_refusalToGoAround_17 : decode cX7_refusalToGoAround 17 = .ok (.aload_n 0, 1) := by decide +kernel
theorem dX7_refusalToGoAround_18 : decode cX7_refusalToGoAround 18 = .ok (.getfield 31, 3) := by decide +kernel
theorem dX7_refusalToGoAround_21 : decode cX7_refusalToGoAround 21 = .ok (.getfield 77, 3) := by decide +kernel
theorem dX7_refusalToGoAround_24 : decode cX7_refusalToGoAround 24 = .ok (.iload_n 1, 1) := by decide +kernel
theorem dX7_refusalToGoAround_25 : decode cX7_refusalToGoAround 25 = .ok (.iaload, 1) := by decide +kernel
theorem dX7_refusalToGoAround_26 : decode cX7_refusalToGoAround 26 = .ok (.ifCond .ne 27, 3) := by decide +kernel
theorem dX7_refusalToGoAround_29 : decode cX7_refusalToGoAround 29 = .ok (.aload_n 0, 1) := by decide +kernel
theorem dX7_refusalToGoAround_30 : decode cX7_refusalToGoAround 30 = .ok (.getfield 9, 3) := by decide +kernel
theorem dX7_refusalToGoAround_33 : decode cX7_refusalToGoAround 33 = .ok (.iload_n 1, 1) := by decide +kernel
theorem dX7_refusalToGoAround_34 : decode cX7_refusalToGoAround 34 = .ok (.iaload, 1) := by decide +kernel
theorem dX7_refusalToGoAround_35 : decode cX7_refusalToGoAround 35 = .ok (.iconst 1, 1) := by decide +kernel
theorem dX7_refusalToGoAround_36 : decode cX7_refusalToGoAround 36 = .ok (.if_icmp .ne 17, 3) := by decide +kernel
theorem dX7_refusalToGoAround_39 : decode cX7_refusalToGoAround 39 = .ok (.aload_n 0, 1) := by decide +kernel
theorem dX7_refusalToGoAround_40 : decode cX7_refusalToGoAround 40 = .ok (.iload_n 1, 1) := by decide +kernel
theorem dX7_refusalToGoAround_41 : decode cX7_refusalToGoAround 41 = .ok (.iconst 0, 1) := by decide +kernel
theorem dX7_refusalToGoAround_42 : decode cX7_refusalToGoAround 42 = .ok (.invokevirtual 53, 3) := by decide +kernel
theorem dX7_refusalToGoAround_45 : decode cX7_refusalToGoAround 45 = .ok (.iload_n 1, 1) := by decide +kernel
theorem dX7_refusalToGoAround_46 : decode cX7_refusalToGoAround 46 = .ok (.if_icmp .eq 7, 3) := by decide +kernel
theorem dX7_refusalToGoAround_49 : decode cX7_refusalToGoAround 49 = .ok (.iconst 1, 1) := by decide +kernel
theorem dX7_refusalToGoAround_50 : decode cX7_refusalToGoAround 50 = .ok (.goto 4, 3) := by decide +kernel
theorem dX7_refusalToGoAround_53 : decode cX7_refusalToGoAround 53 = .ok (.iconst 0, 1) := by decide +kernel
theorem dX7_refusalToGoAround_54 : decode cX7_refusalToGoAround 54 = .ok (.istore_n 2, 1) := by decide +kernel
theorem dX7_refusalToGoAround_55 : decode cX7_refusalToGoAround 55 = .ok (.iload_n 2, 1) := by decide +kernel
theorem dX7_refusalToGoAround_56 : decode cX7_refusalToGoAround 56 = .ok (.ifCond .eq 7, 3) := by decide +kernel
theorem dX7_refusalToGoAround_59 : decode cX7_refusalToGoAround 59 = .ok (.iconst 0, 1) := by decide +kernel
theorem dX7_refusalToGoAround_60 : decode cX7_refusalToGoAround 60 = .ok (.goto 5, 3) := by decide +kernel
theorem dX7_refusalToGoAround_63 : decode cX7_refusalToGoAround 63 = .ok (.bipush (-3), 2) := by decide +kernel
theorem dX7_refusalToGoAround_65 : decode cX7_refusalToGoAround 65 = .ok (.ireturn, 1) := by decide +kernel
theorem dX7_goAround_0 : decode cX7_goAround 0 = .ok (.iconst 0, 1) := by decide +kernel
theorem dX7_goAround_1 : decode cX7_goAround 1 = .ok (.istore_n 2, 1) := by decide +kernel
theorem dX7_goAround_2 : decode cX7_goAround 2 = .ok (.iconst 0, 1) := by decide +kernel
theorem dX7_goAround_3 : decode cX7_goAround 3 = .ok (.istore_n 3, 1) := by decide +kernel
theorem dX7_goAround_4 : decode cX7_goAround 4 = .ok (.iload_n 3, 1) := by decide +kernel
theorem dX7_goAround_5 : decode cX7_goAround 5 = .ok (.aload_n 0, 1) := by decide +kernel
theorem dX7_goAround_6 : decode cX7_goAround 6 = .ok (.getfield 31, 3) := by decide +kernel
theorem dX7_goAround_9 : decode cX7_goAround 9 = .ok (.getfield 41, 3) := by decide +kernel
theorem dX7_goAround_12 : decode cX7_goAround 12 = .ok (.if_icmp .ge 61, 3) := by decide +kernel
theorem dX7_goAround_15 : decode cX7_goAround 15 = .ok (.iconst 0, 1) := by decide +kernel
theorem dX7_goAround_16 : decode cX7_goAround 16 = .ok (.istore 4, 2) := by decide +kernel
theorem dX7_goAround_18 : decode cX7_goAround 18 = .ok (.iload 4, 2) := by decide +kernel
theorem dX7_goAround_20 : decode cX7_goAround 20 = .ok (.aload_n 0, 1) := by decide +kernel
theorem dX7_goAround_21 : decode cX7_goAround 21 = .ok (.getfield 9, 3) := by decide +kernel
theorem dX7_goAround_24 : decode cX7_goAround 24 = .ok (.iload_n 3, 1) := by decide +kernel
theorem dX7_goAround_25 : decode cX7_goAround 25 = .ok (.iaload, 1) := by decide +kernel
theorem dX7_goAround_26 : decode cX7_goAround 26 = .ok (.if_icmp .ge 36, 3) := by decide +kernel
theorem dX7_goAround_29 : decode cX7_goAround 29 = .ok (.aload_n 0, 1) := by decide +kernel
theorem dX7_goAround_30 : decode cX7_goAround 30 = .ok (.iload_n 3, 1) := by decide +kernel
theorem dX7_goAround_31 : decode cX7_goAround 31 = .ok (.iload 4, 2) := by decide +kernel
theorem dX7_goAround_33 : decode cX7_goAround 33 = .ok (.invokevirtual 53, 3) := by decide +kernel
theorem dX7_goAround_36 : decode cX7_goAround 36 = .ok (.iload_n 1, 1) := by decide +kernel
theorem dX7_goAround_37 : decode cX7_goAround 37 = .ok (.if_icmp .ne 19, 3) := by decide +kernel
theorem dX7_goAround_40 : decode cX7_goAround 40 = .ok (.aload_n 0, 1) := by decide +kernel
theorem dX7_goAround_41 : decode cX7_goAround 41 = .ok (.iload_n 3, 1) := by decide +kernel
theorem dX7_goAround_42 : decode cX7_goAround 42 = .ok (.iload 4, 2) := by decide +kernel
theorem dX7_goAround_44 : decode cX7_goAround 44 = .ok (.aload_n 0, 1) := by decide +kernel
theorem dX7_goAround_45 : decode cX7_goAround 45 = .ok (.iload_n 1, 1) := by decide +kernel
theorem dX7_goAround_46 : decode cX7_goAround 46 = .ok (.iconst 0, 1) := by decide +kernel
theorem dX7_goAround_47 : decode cX7_goAround 47 = .ok (.invokevirtual 53, 3) := by decide +kernel
theorem dX7_goAround_50 : decode cX7_goAround 50 = .ok (.invokevirtual 80, 3) := by decide +kernel
theorem dX7_goAround_53 : decode cX7_goAround 53 = .ok (.iinc 2 1, 3) := by decide +kernel
theorem dX7_goAround_56 : decode cX7_goAround 56 = .ok (.iinc 4 1, 3) := by decide +kernel
theorem dX7_goAround_59 : decode cX7_goAround 59 = .ok (.goto (-41), 3) := by decide +kernel
theorem dX7_goAround_62 : decode cX7_goAround 62 = .ok (.aload_n 0, 1) := by decide +kernel
theorem dX7_goAround_63 : decode cX7_goAround 63 = .ok (.iload_n 3, 1) := by decide +kernel
theorem dX7_goAround_64 : decode cX7_goAround 64 = .ok (.invokevirtual 84, 3) := by decide +kernel
theorem dX7_goAround_67 : decode cX7_goAround 67 = .ok (.iinc 3 1, 3) := by decide +kernel
theorem dX7_goAround_70 : decode cX7_goAround 70 = .ok (.goto (-66), 3) := by decide +kernel
theorem dX7_goAround_73 : decode cX7_goAround 73 = .ok (.aload_n 0, 1) := by decide +kernel
theorem dX7_goAround_74 : decode cX7_goAround 74 = .ok (.iload_n 1, 1) := by decide +kernel
theorem dX7_goAround_75 : decode cX7_goAround 75 = .ok (.iconst 0, 1) := by decide +kernel
theorem dX7_goAround_76 : decode cX7_goAround 76 = .ok (.iconst 0, 1) := by decide +kernel
theorem dX7_goAround_77 : decode cX7_goAround 77 = .ok (.invokevirtual 88, 3) := by decide +kernel
theorem dX7_goAround_80 : decode cX7_goAround 80 = .ok (.iload_n 2, 1) := by decide +kernel
theorem dX7_goAround_81 : decode cX7_goAround 81 = .ok (.ireturn, 1) := by decide +kernel
theorem dX7_joinEqualEdges_0 : decode cX7_joinEqualEdges 0 = .ok (.aload_n 0, 1) := by decide +kernel
theorem dX7_joinEqualEdges_1 : decode cX7_joinEqualEdges 1 = .ok (.getfield 9, 3) := by decide +kernel
theorem dX7_joinEqualEdges_4 : decode cX7_joinEqualEdges 4 = .ok (.iload_n 1, 1) := by decide +kernel
theorem dX7_joinEqualEdges_5 : decode cX7_joinEqualEdges 5 = .ok (.iaload, 1) := by decide +kernel
theorem dX7_joinEqualEdges_6 : decode cX7_joinEqualEdges 6 = .ok (.iconst 2, 1) := by decide +kernel
theorem dX7_joinEqualEdges_7 : decode cX7_joinEqualEdges 7 = .ok (.if_icmp .ne 49, 3) := by decide +kernel
theorem dX7_joinEqualEdges_10 : decode cX7_joinEqualEdges 10 = .ok (.aload_n 0, 1) := by decide +kernel
theorem dX7_joinEqualEdges_11 : decode cX7_joinEqualEdges 11 = .ok (.iload_n 1, 1) := by decide +kernel
theorem dX7_joinEqualEdges_12 : decode cX7_joinEqualEdges 12 = .ok (.iconst 0, 1) := by decide +kernel
theorem dX7_joinEqualEdges_13 : decode cX7_joinEqualEdges 13 = .ok (.invokevirtual 53, 3) := by decide +kernel
theorem dX7_joinEqualEdges_16 : decode cX7_joinEqualEdges 16 = .ok (.aload_n 0, 1) := by decide +kernel
theorem dX7_joinEqualEdges_17 : decode cX7_joinEqualEdges 17 = .ok (.iload_n 1, 1) := by decide +kernel
theorem dX7_joinEqualEdges_18 : decode cX7_joinEqualEdges 18 = .ok (.iconst 1, 1) := by decide +kernel
theorem dX7_joinEqualEdges_19 : decode cX7_joinEqualEdges 19 = .ok (.invokevirtual 53, 3) := by decide +kernel
theorem dX7_joinEqualEdges_22 : decode cX7_joinEqualEdges 22 = .ok (.if_icmp .ne 34, 3) := by decide +kernel
theorem dX7_joinEqualEdges_25 : decode cX7_joinEqualEdges 25 = .ok (.aload_n 0, 1) := by decide +kernel
theorem dX7_joinEqualEdges_26 : decode cX7_joinEqualEdges 26 = .ok (.iload_n 1, 1) := by decide +kernel
theorem dX7_joinEqualEdges_27 : decode cX7_joinEqualEdges 27 = .ok (.iconst 0, 1) := by decide +kernel
theorem dX7_joinEqualEdges_28 : decode cX7_joinEqualEdges 28 = .ok (.bipush 99, 2) := by decide +kernel
theorem dX7_joinEqualEdges_30 : decode cX7_joinEqualEdges 30 = .ok (.aload_n 0, 1) := by decide +kernel
theorem dX7_joinEqualEdges_31 : decode cX7_joinEqualEdges 31 = .ok (.iload_n 1, 1) := by decide +kernel
theorem dX7_joinEqualEdges_32 : decode cX7_joinEqualEdges 32 = .ok (.iconst 0, 1) := by decide +kernel
theorem dX7_joinEqualEdges_33 : decode cX7_joinEqualEdges 33 = .ok (.invokevirtual 57, 3) := by decide +kernel
theorem dX7_joinEqualEdges_36 : decode cX7_joinEqualEdges 36 = .ok (.aload_n 0, 1) := by decide +kernel
theorem dX7_joinEqualEdges_37 : decode cX7_joinEqualEdges 37 = .ok (.iload_n 1, 1) := by decide +kernel
theorem dX7_joinEqualEdges_38 : decode cX7_joinEqualEdges 38 = .ok (.iconst 1, 1) := by decide +kernel
theorem dX7_joinEqualEdges_39 : decode cX7_joinEqualEdges 39 = .ok (.invokevirtual 57, 3) := by decide +kernel
theorem dX7_joinEqualEdges_42 : decode cX7_joinEqualEdges 42 = .ok (.iadd, 1) := by decide +kernel
theorem dX7_joinEqualEdges_43 : decode cX7_joinEqualEdges 43 = .ok (.invokestatic 91, 3) := by decide +kernel
theorem dX7_joinEqualEdges_46 : decode cX7_joinEqualEdges 46 = .ok (.invokevirtual 88, 3) := by decide +kernel
theorem dX7_joinEqualEdges_49 : decode cX7_joinEqualEdges 49 = .ok (.aload_n 0, 1) := by decide +kernel
theorem dX7_joinEqualEdges_50 : decode cX7_joinEqualEdges 50 = .ok (.getfield 9, 3) := by decide +kernel
theorem dX7_joinEqualEdges_53 : decode cX7_joinEqualEdges 53 = .ok (.iload_n 1, 1) := by decide +kernel
theorem dX7_joinEqualEdges_54 : decode cX7_joinEqualEdges 54 = .ok (.iconst 1, 1) := by decide +kernel
theorem dX7_joinEqualEdges_55 : decode cX7_joinEqualEdges 55 = .ok (.iastore, 1) := by decide +kernel
theorem dX7_joinEqualEdges_56 : decode cX7_joinEqualEdges 56 = .ok (.return_, 1) := by decide +kernel
theorem dX9_init_0 : decode cX9_init 0 = .ok (.aload_n 0, 1) := by decide +kernel
theorem dX9_init_1 : decode cX9_init 1 = .ok (.invokespecial 3, 3) := by decide +kernel
theorem dX9_init_4 : decode cX9_init 4 = .ok (.aload_n 0, 1) := by decide +kernel
theorem dX9_init_5 : decode cX9_init 5 = .ok (.new 9, 3) := by decide +kernel
theorem dX9_init_8 : decode cX9_init 8 = .ok (.dup, 1) := by decide +kernel
theorem dX9_init_9 : decode cX9_init 9 = .ok (.invokespecial 11, 3) := by decide +kernel
theorem dX9_init_12 : decode cX9_init 12 = .ok (.putfield 12, 3) := by decide +kernel
theorem dX9_init_15 : decode cX9_init 15 = .ok (.aload_n 0, 1) := by decide +kernel
theorem dX9_init_16 : decode cX9_init 16 = .ok (.new 16, 3) := by decide +kernel
theorem dX9_init_19 : decode cX9_init 19 = .ok (.dup, 1) := by decide +kernel
theorem dX9_init_20 : decode cX9_init 20 = .ok (.aload_n 0, 1) := by decide +kernel
theorem dX9_init_21 : decode cX9_init 21 = .ok (.getfield 12, 3) := by decide +kernel
theorem dX9_init_24 : decode cX9_init 24 = .ok (.invokespecial 18, 3) := by decide +kernel
theorem dX9_init_27 : decode cX9_init 27 = .ok (.putfield 21, 3) := by decide +kernel
theorem dX9_init_30 : decode cX9_init 30 = .ok (.aload_n 0, 1) := by decide +kernel
theorem dX9_init_31 : decode cX9_init 31 = .ok (.new 16, 3) := by decide +kernel
theorem dX9_init_34 : decode cX9_init 34 = .ok (.dup, 1) := by decide +kernel
theorem dX9_init_35 : decode cX9_init 35 = .ok (.aload_n 0, 1) := by decide +kernel
theorem dX9_init_36 : decode cX9_init 36 = .ok (.getfield 12, 3) := by decide +kernel
theorem dX9_init_39 : decode cX9_init 39 = .ok (.invokespecial 18, 3) := by decide +kernel
theorem dX9_init_42 : decode cX9_init 42 = .ok (.putfield 25, 3) := by decide +kernel
theorem dX9_init_45 : decode cX9_init 45 = .ok (.aload_n 0, 1) := by decide +kernel
theorem dX9_init_46 : decode cX9_init 46 = .ok (.iconst 2, 1) := by decide +kernel
theorem dX9_init_47 : decode cX9_init 47 = .ok (.anewarray 16, 3) := by decide +kernel
theorem dX9_init_50 : decode cX9_init 50 = .ok (.putfield 28, 3) := by decide +kernel
theorem dX9_init_53 : decode cX9_init 53 = .ok (.iconst 0, 1) := by decide +kernel
theorem dX9_init_54 : decode cX9_init 54 = .ok (.istore_n 1, 1) := by decide +kernel
theorem dX9_init_55 : decode cX9_init 55 = .ok (.iload_n 1, 1) := by decide +kernel
theorem dX9_init_56 : decode cX9_init 56 = .ok (.iconst 2, 1) := by decide +kernel
theorem dX9_init_57 : decode cX9_init 57 = .ok (.if_icmp .ge 26, 3) := by decide +kernel
theorem dX9_init_60 : decode cX9_init 60 = .ok (.aload_n 0, 1) := by decide +kernel
theorem dX9_init_61 : decode cX9_init 61 = .ok (.getfield 28, 3) := by decide +kernel
theorem dX9_init_64 : decode cX9_init 64 = .ok (.iload_n 1, 1) := by decide +kernel
theorem dX9_init_65 : decode cX9_init 65 = .ok (.new 16, 3) := by decide +kernel
theorem dX9_init_68 : decode cX9_init 68 = .ok (.dup, 1) := by decide +kernel
theorem dX9_init_69 : decode cX9_init 69 = .ok (.aload_n 0, 1) := by decide +kernel
theorem dX9_init_70 : decode cX9_init 70 = .ok (.getfield 12, 3) := by decide +kernel
theorem dX9_init_73 : decode cX9_init 73 = .ok (.invokespecial 18, 3) := by decide +kernel
theorem dX9_init_76 : decode cX9_init 76 = .ok (.aastore, 1) := by decide +kernel
theorem dX9_init_77 : decode cX9_init 77 = .ok (.iinc 1 1, 3) := by decide +kernel
theorem dX9_init_80 : decode cX9_init 80 = .ok (.goto (-25), 3) := by decide +kernel
theorem dX9_init_83 : decode cX9_init 83 = .ok (.aload_n 0, 1) := by decide +kernel
theorem dX9_init_84 : decode cX9_init 84 = .ok (.iconst 2, 1) := by decide +kernel
theorem dX9_init_85 : decode cX9_init 85 = .ok (.newarray .boolean, 2) := by decide +kernel
theorem dX9_init_87 : decode cX9_init 87 = .ok (.putfield 32, 3) := by decide +kernel
theorem dX9_init_90 : decode cX9_init 90 = .ok (.aload_n 0, 1) := by decide +kernel
theorem dX9_init_91 : decode cX9_init 91 = .ok (.new 36, 3) := by decide +kernel
theorem dX9_init_94 : decode cX9_init 94 = .ok (.dup, 1) := by decide +kernel
theorem dX9_init_95 : decode cX9_init 95 = .ok (.aload_n 0, 1) := by decide +kernel
theorem dX9_init_96 : decode cX9_init 96 = .ok (.getfield 12, 3) := by decide +kernel
theorem dX9_init_99 : decode cX9_init 99 = .ok (.invokespecial 38, 3) := by decide +kernel
theorem dX9_init_102 : decode cX9_init 102 = .ok (.putfield 39, 3) := by decide +kernel
theorem dX9_init_105 : decode cX9_init 105 = .ok (.aload_n 0, 1) := by decide +kernel
theorem dX9_init_106 : decode cX9_init 106 = .ok (.new 43, 3) := by decide +kernel
theorem dX9_init_109 : decode cX9_init 109 = .ok (.dup, 1) := by decide +kernel
theorem dX9_init_110 : decode cX9_init 110 = .ok (.invokespecial 45, 3) := by decide +kernel
theorem dX9_init_113 : decode cX9_init 113 = .ok (.putfield 46, 3) := by decide +kernel
theorem dX9_init_116 : decode cX9_init 116 = .ok (.aload_n 0, 1) := by decide +kernel
theorem dX9_init_117 : decode cX9_init 117 = .ok (.new 50, 3) := by decide +kernel
theorem dX9_init_120 : decode cX9_init 120 = .ok (.dup, 1) := by decide +kernel
theorem dX9_init_121 : decode cX9_init 121 = .ok (.invokespecial 52, 3) := by decide +kernel
theorem dX9_init_124 : decode cX9_init 124 = .ok (.putfield 53, 3) := by decide +kernel
theorem dX9_init_127 : decode cX9_init 127 = .ok (.aload_n 0, 1) := by decide +kernel
theorem dX9_init_128 : decode cX9_init 128 = .ok (.new 57, 3) := by decide +kernel
theorem dX9_init_131 : decode cX9_init 131 = .ok (.dup, 1) := by decide +kernel
theorem dX9_init_132 : decode cX9_init 132 = .ok (.invokespecial 59, 3) := by decide +kernel
theorem dX9_init_135 : decode cX9_init 135 = .ok (.putfield 60, 3) := by decide +kernel
theorem dX9_init_138 : decode cX9_init 138 = .ok (.return_, 1) := by decide +kernel
theorem dX9_append_0 : decode cX9_append 0 = .ok (.aload_n 0, 1) := by decide +kernel
theorem dX9_append_1 : decode cX9_append 1 = .ok (.getfield 46, 3) := by decide +kernel
theorem dX9_append_4 : decode cX9_append 4 = .ok (.iload_n 1, 1) := by decide +kernel
theorem dX9_append_5 : decode cX9_append 5 = .ok (.invokevirtual 64, 3) := by decide +kernel
theorem dX9_append_8 : decode cX9_append 8 = .ok (.ireturn, 1) := by decide +kernel
theorem dX9_clearText_0 : decode cX9_clearText 0 = .ok (.aload_n 0, 1) := by decide +kernel
theorem dX9_clearText_1 : decode cX9_clearText 1 = .ok (.getfield 46, 3) := by decide +kernel
theorem dX9_clearText_4 : decode cX9_clearText 4 = .ok (.invokevirtual 68, 3) := by decide +kernel
theorem dX9_clearText_7 : decode cX9_clearText 7 = .ok (.ireturn, 1) := by decide +kernel
theorem dX9_errorPosition_0 : decode cX9_errorPosition 0 = .ok (.aload_n 0, 1) := by decide +kernel
theorem dX9_errorPosition_1 : decode cX9_errorPosition 1 = .ok (.getfield 46, 3) := by decide +kernel
theorem dX9_errorPosition_4 : decode cX9_errorPosition 4 = .ok (.invokevirtual 72, 3) := by decide +kernel
theorem dX9_errorPosition_7 : decode cX9_errorPosition 7 = .ok (.ireturn, 1) := by decide +kernel
theorem dX9_load_0 : decode cX9_load 0 = .ok (.aload_n 0, 1) := by decide +kernel
theorem dX9_load_1 : decode cX9_load 1 = .ok (.getfield 46, 3) := by decide +kernel
theorem dX9_load_4 : decode cX9_load 4 = .ok (.invokevirtual 72, 3) := by decide +kernel
theorem dX9_load_7 : decode cX9_load 7 = .ok (.bipush (-9), 2) := by decide +kernel
theorem dX9_load_9 : decode cX9_load 9 = .ok (.if_icmp .eq 6, 3) := by decide +kernel
theorem dX9_load_12 : decode cX9_load 12 = .ok (.bipush (-3), 2) := by decide +kernel
theorem dX9_load_14 : decode cX9_load 14 = .ok (.ireturn, 1) := by decide +kernel
theorem dX9_load_15 : decode cX9_load 15 = .ok (.aload_n 0, 1) := by decide +kernel
theorem dX9_load_16 : decode cX9_load 16 = .ok (.getfield 12, 3) := by decide +kernel
theorem dX9_load_19 : decode cX9_load 19 = .ok (.aload_n 0, 1) := by decide +kernel
theorem dX9_load_20 : decode cX9_load 20 = .ok (.getfield 46, 3) := by decide +kernel
theorem dX9_load_23 : decode cX9_load 23 = .ok (.getfield 75, 3) := by decide +kernel
theorem dX9_load_26 : decode cX9_load 26 = .ok (.invokevirtual 78, 3) := by decide +kernel
theorem dX9_load_29 : decode cX9_load 29 = .ok (.aload_n 0, 1) := by decide +kernel
theorem dX9_load_30 : decode cX9_load 30 = .ok (.getfield 21, 3) := by decide +kernel
theorem dX9_load_33 : decode cX9_load 33 = .ok (.aload_n 0, 1) := by decide +kernel
theorem dX9_load_34 : decode cX9_load 34 = .ok (.getfield 46, 3) := by decide +kernel
theorem dX9_load_37 : decode cX9_load 37 = .ok (.getfield 81, 3) := by decide +kernel
theorem dX9_load_40 : decode cX9_load 40 = .ok (.invokevirtual 84, 3) := by decide +kernel
theorem dX9_load_43 : decode cX9_load 43 = .ok (.aload_n 0, 1) := by decide +kernel
theorem dX9_load_44 : decode cX9_load 44 = .ok (.getfield 39, 3) := by decide +kernel
theorem dX9_load_47 : decode cX9_load 47 = .ok (.invokevirtual 87, 3) := by decide +kernel
theorem dX9_load_50 : decode cX9_load 50 = .ok (.iconst 0, 1) := by decide +kernel
theorem dX9_load_51 : decode cX9_load 51 = .ok (.istore_n 1, 1) := by decide +kernel
theorem dX9_load_52 : decode cX9_load 52 = .ok (.iload_n 1, 1) := by decide +kernel
theorem dX9_load_53 : decode cX9_load 53 = .ok (.iconst 2, 1) := by decide +kernel
theorem dX9_load_54 : decode cX9_load 54 = .ok (.if_icmp .ge 16, 3) := by decide +kernel
theorem dX9_load_57 : decode cX9_load 57 = .ok (.aload_n 0, 1) := by decide +kernel
theorem dX9_load_58 : decode cX9_load 58 = .ok (.getfield 32, 3) := by decide +kernel
theorem dX9_load_61 : decode cX9_load 61 = .ok (.iload_n 1, 1) := by decide +kernel
theorem dX9_load_62 : decode cX9_load 62 = .ok (.iconst 0, 1) := by decide +kernel
theorem dX9_load_63 : decode cX9_load 63 = .ok (.bastore, 1) := by decide +kernel
theorem dX9_load_64 : decode cX9_load 64 = .ok (.iinc 1 1, 3) := by decide +kernel
theorem dX9_load_67 : decode cX9_load 67 = .ok (.goto (-15), 3) := by decide +kernel
theorem dX9_load_70 : decode cX9_load 70 = .ok (.aload_n 0, 1) := by decide +kernel
theorem dX9_load_71 : decode cX9_load 71 = .ok (.getfield 12, 3) := by decide +kernel
theorem dX9_load_74 : decode cX9_load 74 = .ok (.getfield 90, 3) := by decide +kernel
theorem dX9_load_77 : decode cX9_load 77 = .ok (.ireturn, 1) := by decide +kernel
theorem dX9_blockCount_0 : decode cX9_blockCount 0 = .ok (.aload_n 0, 1) := by decide +kernel
theorem dX9_blockCount_1 : decode cX9_blockCount 1 = .ok (.getfield 12, 3) := by decide +kernel
theorem dX9_blockCount_4 : decode cX9_blockCount 4 = .ok (.getfield 90, 3) := by decide +kernel
theorem dX9_blockCount_7 : decode cX9_blockCount 7 = .ok (.ireturn, 1) := by decide +kernel
theorem dX9_size_0 : decode cX9_size 0 = .ok (.aload_n 0, 1) := by decide +kernel
theorem dX9_size_1 : decode cX9_size 1 = .ok (.getfield 12, 3) := by decide +kernel
theorem dX9_size_4 : decode cX9_size 4 = .ok (.iload_n 1, 1) := by decide +kernel
theorem dX9_size_5 : decode cX9_size 5 = .ok (.invokevirtual 94, 3) := by decide +kernel
theorem dX9_size_8 : decode cX9_size 8 = .ok (.ifCond .eq 15, 3) := by decide +kernel
theorem dX9_size_11 : decode cX9_size 11 = .ok (.aload_n 0, 1) := by decide +kernel
theorem dX9_size_12 : decode cX9_size 12 = .ok (.getfield 12, 3) := by decide +kernel
theorem dX9_size_15 : decode cX9_size 15 = .ok (.getfield 98, 3) := by decide +kernel
theorem dX9_size_18 : decode cX9_size 18 = .ok (.iload_n 1, 1) := by decide +kernel
theorem dX9_size_19 : decode cX9_size 19 = .ok (.iaload, 1) := by decide +kernel
theorem dX9_size_20 : decode cX9_size 20 = .ok (.goto 4, 3) := by decide +kernel
theorem dX9_size_23 : decode cX9_size 23 = .ok (.iconst (-1), 1) := by decide +kernel
theorem dX9_size_24 : decode cX9_size 24 = .ok (.ireturn, 1) := by decide +kernel
theorem dX9_successor_0 : decode cX9_successor 0 = .ok (.aload_n 0, 1) := by decide +kernel
theorem dX9_successor_1 : decode cX9_successor 1 = .ok (.getfield 21, 3) := by decide +kernel
theorem dX9_successor_4 : decode cX9_successor 4 = .ok (.iload_n 1, 1) := by decide +kernel
theorem dX9_successor_5 : decode cX9_successor 5 = .ok (.iload_n 2, 1) := by decide +kernel
theorem dX9_successor_6 : decode cX9_successor 6 = .ok (.invokevirtual 102, 3) := by decide +kernel
theorem dX9_successor_9 : decode cX9_successor 9 = .ok (.ifCond .eq 15, 3) := by decide +kernel
theorem dX9_successor_12 : decode cX9_successor 12 = .ok (.aload_n 0, 1) := by decide +kernel
theorem dX9_successor_13 : decode cX9_successor 13 = .ok (.getfield 21, 3) := by decide +kernel
theorem dX9_successor_16 : decode cX9_successor 16 = .ok (.iload_n 1, 1) := by decide +kernel
theorem dX9_successor_17 : decode cX9_successor 17 = .ok (.iload_n 2, 1) := by decide +kernel
theorem dX9_successor_18 : decode cX9_successor 18 = .ok (.invokevirtual 106, 3) := by decide +kernel
theorem dX9_successor_21 : decode cX9_successor 21 = .ok (.goto 4, 3) := by decide +kernel
theorem dX9_successor_24 : decode cX9_successor 24 = .ok (.iconst (-1), 1) := by decide +kernel
theorem dX9_successor_25 : decode cX9_successor 25 = .ok (.ireturn, 1) := by decide +kernel
theorem dX9_edgeCount_0 : decode cX9_edgeCount 0 = .ok (.aload_n 0, 1) := by decide +kernel
theorem dX9_edgeCount_1 : decode cX9_edgeCount 1 = .ok (.getfield 21, 3) := by decide +kernel
theorem dX9_edgeCount_4 : decode cX9_edgeCount 4 = .ok (.iload_n 1, 1) := by decide +kernel
theorem dX9_edgeCount_5 : decode cX9_edgeCount 5 = .ok (.iload_n 2, 1) := by decide +kernel
theorem dX9_edgeCount_6 : decode cX9_edgeCount 6 = .ok (.invokevirtual 102, 3) := by decide +kernel
theorem dX9_edgeCount_9 : decode cX9_edgeCount 9 = .ok (.ifCond .eq 15, 3) := by decide +kernel
theorem dX9_edgeCount_12 : decode cX9_edgeCount 12 = .ok (.aload_n 0, 1) := by decide +kernel
theorem dX9_edgeCount_13 : decode cX9_edgeCount 13 = .ok (.getfield 21, 3) := by decide +kernel
theorem dX9_edgeCount_16 : decode cX9_edgeCount 16 = .ok (.iload_n 1, 1) := by decide +kernel
theorem dX9_edgeCount_17 : decode cX9_edgeCount 17 = .ok (.iload_n 2, 1) := by decide +kernel
theorem dX9_edgeCount_18 : decode cX9_edgeCount 18 = .ok (.invokevirtual 110, 3) := by decide +kernel
theorem dX9_edgeCount_21 : decode cX9_edgeCount 21 = .ok (.goto 4, 3) := by decide +kernel
theorem dX9_edgeCount_24 : decode cX9_edgeCount 24 = .ok (.iconst (-1), 1) := by decide +kernel
theorem dX9_edgeCount_25 : decode cX9_edgeCount 25 = .ok (.ireturn, 1) := by decide +kernel
theorem dX9_executions_0 : decode cX9_executions 0 = .ok (.aload_n 0, 1) := by decide +kernel
theorem dX9_executions_1 : decode cX9_executions 1 = .ok (.getfield 12, 3) := by decide +kernel
theorem dX9_executions_4 : decode cX9_executions 4 = .ok (.iload_n 1, 1) := by decide +kernel
theorem dX9_executions_5 : decode cX9_executions 5 = .ok (.invokevirtual 94, 3) := by decide +kernel
theorem dX9_executions_8 : decode cX9_executions 8 = .ok (.ifCond .eq 14, 3) := by decide +kernel
theorem dX9_executions_11 : decode cX9_executions 11 = .ok (.aload_n 0, 1) := by decide +kernel
theorem dX9_executions_12 : decode cX9_executions 12 = .ok (.getfield 21, 3) := by decide +kernel
theorem dX9_executions_15 : decode cX9_executions 15 = .ok (.iload_n 1, 1) := by decide +kernel
theorem dX9_executions_16 : decode cX9_executions 16 = .ok (.invokevirtual 113, 3) := by decide +kernel
theorem dX9_executions_19 : decode cX9_executions 19 = .ok (.goto 4, 3) := by decide +kernel
theorem dX9_executions_22 : decode cX9_executions 22 = .ok (.iconst (-1), 1) := by decide +kernel
theorem dX9_executions_23 : decode cX9_executions 23 = .ok (.ireturn, 1) := by decide +kernel
theorem dX9_blockAt_0 : decode cX9_blockAt 0 = .ok (.aload_n 0, 1) := by decide +kernel
theorem dX9_blockAt_1 : decode cX9_blockAt 1 = .ok (.getfield 12, 3) := by decide +kernel
theorem dX9_blockAt_4 : decode cX9_blockAt 4 = .ok (.iload_n 1, 1) := by decide +kernel
theorem dX9_blockAt_5 : decode cX9_blockAt 5 = .ok (.invokevirtual 116, 3) := by decide +kernel
theorem dX9_blockAt_8 : decode cX9_blockAt 8 = .ok (.ifCond .eq 15, 3) := by decide +kernel
theorem dX9_blockAt_11 : decode cX9_blockAt 11 = .ok (.aload_n 0, 1) := by decide +kernel
theorem dX9_blockAt_12 : decode cX9_blockAt 12 = .ok (.getfield 21, 3) := by decide +kernel
theorem dX9_blockAt_15 : decode cX9_blockAt 15 = .ok (.getfield 119, 3) := by decide +kernel
theorem dX9_blockAt_18 : decode cX9_blockAt 18 = .ok (.iload_n 1, 1) := by decide +kernel
theorem dX9_blockAt_19 : decode cX9_blockAt 19 = .ok (.iaload, 1) := by decide +kernel
theorem dX9_blockAt_20 : decode cX9_blockAt 20 = .ok (.goto 4, 3) := by decide +kernel
theorem dX9_blockAt_23 : decode cX9_blockAt 23 = .ok (.iconst (-1), 1) := by decide +kernel
theorem dX9_blockAt_24 : decode cX9_blockAt 24 = .ok (.ireturn, 1) := by decide +kernel
theorem dX9_hotCount_0 : decode cX9_hotCount 0 = .ok (.aload_n 0, 1) := by decide +kernel
theorem dX9_hotCount_1 : decode cX9_hotCount 1 = .ok (.getfield 21, 3) := by decide +kernel
theorem dX9_hotCount_4 : decode cX9_hotCount 4 = .ok (.getfield 122, 3) := by decide +kernel
theorem dX9_hotCount_7 : decode cX9_hotCount 7 = .ok (.ireturn, 1) := by decide +kernel
theorem dX9_cost_0 : decode cX9_cost 0 = .ok (.aload_n 0, 1) := by decide +kernel
theorem dX9_cost_1 : decode cX9_cost 1 = .ok (.getfield 21, 3) := by decide +kernel
theorem dX9_cost_4 : decode cX9_cost 4 = .ok (.invokevirtual 125, 3) := by decide +kernel
theorem dX9_cost_7 : decode cX9_cost 7 = .ok (.ireturn, 1) := by decide +kernel
theorem dX9_codeSize_0 : decode cX9_codeSize 0 = .ok (.aload_n 0, 1) := by decide +kernel
theorem dX9_codeSize_1 : decode cX9_codeSize 1 = .ok (.getfield 21, 3) := by decide +kernel
theorem dX9_codeSize_4 : decode cX9_codeSize 4 = .ok (.invokestatic 128, 3) := by decide +kernel
theorem dX9_codeSize_7 : decode cX9_codeSize 7 = .ok (.ireturn, 1) := by decide +kernel
theorem dX9_address_0 : decode cX9_address 0 = .ok (.aload_n 0, 1) := by decide +kernel
theorem dX9_address_1 : decode cX9_address 1 = .ok (.getfield 12, 3) := by decide +kernel
theorem dX9_address_4 : decode cX9_address 4 = .ok (.iload_n 1, 1) := by decide +kernel
theorem dX9_address_5 : decode cX9_address 5 = .ok (.invokevirtual 94, 3) := by decide +kernel
theorem dX9_address_8 : decode cX9_address 8 = .ok (.ifCond .eq 14, 3) := by decide +kernel
theorem dX9_address_11 : decode cX9_address 11 = .ok (.aload_n 0, 1) := by decide +kernel
theorem dX9_address_12 : decode cX9_address 12 = .ok (.getfield 21, 3) := by decide +kernel
theorem dX9_address_15 : decode cX9_address 15 = .ok (.iload_n 1, 1) := by decide +kernel
theorem dX9_address_16 : decode cX9_address 16 = .ok (.invokestatic 134, 3) := by decide +kernel
theorem dX9_address_19 : decode cX9_address 19 = .ok (.goto 4, 3) := by decide +kernel
theorem dX9_address_22 : decode cX9_address 22 = .ok (.iconst (-1), 1) := by decide +kernel
theorem dX9_address_23 : decode cX9_address 23 = .ok (.ireturn, 1) := by decide +kernel
theorem dX9_branchBytes_0 : decode cX9_branchBytes 0 = .ok (.aload_n 0, 1) := by decide +kernel
theorem dX9_branchBytes_1 : decode cX9_branchBytes 1 = .ok (.getfield 12, 3) := by decide +kernel
theorem dX9_branchBytes_4 : decode cX9_branchBytes 4 = .ok (.iload_n 1, 1) := by decide +kernel
theorem dX9_branchBytes_5 : decode cX9_branchBytes 5 = .ok (.invokevirtual 94, 3) := by decide +kernel
theorem dX9_branchBytes_8 : decode cX9_branchBytes 8 = .ok (.ifCond .eq 22, 3) := by decide +kernel
theorem dX9_branchBytes_11 : decode cX9_branchBytes 11 = .ok (.aload_n 0, 1) := by decide +kernel
theorem dX9_branchBytes_12 : decode cX9_branchBytes 12 = .ok (.getfield 21, 3) := by decide +kernel
theorem dX9_branchBytes_15 : decode cX9_branchBytes 15 = .ok (.iload_n 1, 1) := by decide +kernel
theorem dX9_branchBytes_16 : decode cX9_branchBytes 16 = .ok (.aload_n 0, 1) := by decide +kernel
theorem dX9_branchBytes_17 : decode cX9_branchBytes 17 = .ok (.getfield 21, 3) := by decide +kernel
theorem dX9_branchBytes_20 : decode cX9_branchBytes 20 = .ok (.iload_n 1, 1) := by decide +kernel
theorem dX9_branchBytes_21 : decode cX9_branchBytes 21 = .ok (.invokevirtual 138, 3) := by decide +kernel
theorem dX9_branchBytes_24 : decode cX9_branchBytes 24 = .ok (.invokevirtual 141, 3) := by decide +kernel
theorem dX9_branchBytes_27 : decode cX9_branchBytes 27 = .ok (.goto 4, 3) := by decide +kernel
theorem dX9_branchBytes_30 : decode cX9_branchBytes 30 = .ok (.iconst (-1), 1) := by decide +kernel
theorem dX9_branchBytes_31 : decode cX9_branchBytes 31 = .ok (.ireturn, 1) := by decide +kernel
theorem dX9_edgeCost_0 : decode cX9_edgeCost 0 = .ok (.aload_n 0, 1) := by decide +kernel
theorem dX9_edgeCost_1 : decode cX9_edgeCost 1 = .ok (.getfield 21, 3) := by decide +kernel
theorem dX9_edgeCost_4 : decode cX9_edgeCost 4 = .ok (.iload_n 1, 1) := by decide +kernel
theorem dX9_edgeCost_5 : decode cX9_edgeCost 5 = .ok (.iload_n 2, 1) := by decide +kernel
theorem dX9_edgeCost_6 : decode cX9_edgeCost 6 = .ok (.invokevirtual 102, 3) := by decide +kernel
theorem dX9_edgeCost_9 : decode cX9_edgeCost 9 = .ok (.ifCond .eq 23, 3) := by decide +kernel
theorem dX9_edgeCost_12 : decode cX9_edgeCost 12 = .ok (.aload_n 0, 1) := by decide +kernel
theorem dX9_edgeCost_13 : decode cX9_edgeCost 13 = .ok (.getfield 21, 3) := by decide +kernel
theorem dX9_edgeCost_16 : decode cX9_edgeCost 16 = .ok (.iload_n 1, 1) := by decide +kernel
theorem dX9_edgeCost_17 : decode cX9_edgeCost 17 = .ok (.iload_n 2, 1) := by decide +kernel
theorem dX9_edgeCost_18 : decode cX9_edgeCost 18 = .ok (.aload_n 0, 1) := by decide +kernel
theorem dX9_edgeCost_19 : decode cX9_edgeCost 19 = .ok (.getfield 21, 3) := by decide +kernel
theorem dX9_edgeCost_22 : decode cX9_edgeCost 22 = .ok (.iload_n 1, 1) := by decide +kernel
theorem dX9_edgeCost_23 : decode cX9_edgeCost 23 = .ok (.invokevirtual 138, 3) := by decide +kernel
theorem dX9_edgeCost_26 : decode cX9_edgeCost 26 = .ok (.invokevirtual 144, 3) := by decide +kernel
theorem dX9_edgeCost_29 : decode cX9_edgeCost 29 = .ok (.goto 4, 3) := by decide +kernel
theorem dX9_edgeCost_32 : decode cX9_edgeCost 32 = .ok (.iconst (-1), 1) := by decide +kernel
theorem dX9_edgeCost_33 : decode cX9_edgeCost 33 = .ok (.ireturn, 1) := by decide +kernel
theorem dX9_chainHead_0 : decode cX9_chainHead 0 = .ok (.aload_n 0, 1) := by decide +kernel
theorem dX9_chainHead_1 : decode cX9_chainHead 1 = .ok (.getfield 12, 3) := by decide +kernel
theorem dX9_chainHead_4 : decode cX9_chainHead 4 = .ok (.iload_n 1, 1) := by decide +kernel
theorem dX9_chainHead_5 : decode cX9_chainHead 5 = .ok (.invokevirtual 94, 3) := by decide +kernel
theorem dX9_chainHead_8 : decode cX9_chainHead 8 = .ok (.ifCond .ne 5, 3) := by decide +kernel
theorem dX9_chainHead_11 : decode cX9_chainHead 11 = .ok (.iconst (-1), 1) := by decide +kernel
theorem dX9_chainHead_12 : decode cX9_chainHead 12 = .ok (.ireturn, 1) := by decide +kernel
theorem dX9_chainHead_13 : decode cX9_chainHead 13 = .ok (.aload_n 0, 1) := by decide +kernel
theorem dX9_chainHead_14 : decode cX9_chainHead 14 = .ok (.getfield 53, 3) := by decide +kernel
theorem dX9_chainHead_17 : decode cX9_chainHead 17 = .ok (.aload_n 0, 1) := by decide +kernel
theorem dX9_chainHead_18 : decode cX9_chainHead 18 = .ok (.getfield 21, 3) := by decide +kernel
theorem dX9_chainHead_21 : decode cX9_chainHead 21 = .ok (.invokevirtual 148, 3) := by decide +kernel
theorem dX9_chainHead_24 : decode cX9_chainHead 24 = .ok (.aload_n 0, 1) := by decide +kernel
theorem dX9_chainHead_25 : decode cX9_chainHead 25 = .ok (.getfield 53, 3) := by decide +kernel
theorem dX9_chainHead_28 : decode cX9_chainHead 28 = .ok (.getfield 151, 3) := by decide +kernel
theorem dX9_chainHead_31 : decode cX9_chainHead 31 = .ok (.iload_n 1, 1) := by decide +kernel
theorem dX9_chainHead_32 : decode cX9_chainHead 32 = .ok (.iaload, 1) := by decide +kernel
theorem dX9_chainHead_33 : decode cX9_chainHead 33 = .ok (.ireturn, 1) := by decide +kernel
theorem dX9_optimalCost_0 : decode cX9_optimalCost 0 = .ok (.aload_n 0, 1) := by decide +kernel
theorem dX9_optimalCost_1 : decode cX9_optimalCost 1 = .ok (.getfield 60, 3) := by decide +kernel
theorem dX9_optimalCost_4 : decode cX9_optimalCost 4 = .ok (.aload_n 0, 1) := by decide +kernel
theorem dX9_optimalCost_5 : decode cX9_optimalCost 5 = .ok (.getfield 21, 3) := by decide +kernel
theorem dX9_optimalCost_8 : decode cX9_optimalCost 8 = .ok (.invokevirtual 154, 3) := by decide +kernel
theorem dX9_optimalCost_11 : decode cX9_optimalCost 11 = .ok (.ireturn, 1) := by decide +kernel
theorem dX9_bestRotation_0 : decode cX9_bestRotation 0 = .ok (.aload_n 0, 1) := by decide +kernel
theorem dX9_bestRotation_1 : decode cX9_bestRotation 1 = .ok (.getfield 21, 3) := by decide +kernel
theorem dX9_bestRotation_4 : decode cX9_bestRotation 4 = .ok (.iload_n 1, 1) := by decide +kernel
theorem dX9_bestRotation_5 : decode cX9_bestRotation 5 = .ok (.iload_n 2, 1) := by decide +kernel
theorem dX9_bestRotation_6 : decode cX9_bestRotation 6 = .ok (.invokevirtual 157, 3) := by decide +kernel
theorem dX9_bestRotation_9 : decode cX9_bestRotation 9 = .ok (.istore_n 3, 1) := by decide +kernel
theorem dX9_bestRotation_10 : decode cX9_bestRotation 10 = .ok (.iload_n 3, 1) := by decide +kernel
theorem dX9_bestRotation_11 : decode cX9_bestRotation 11 = .ok (.ifCond .eq 5, 3) := by decide +kernel
theorem dX9_bestRotation_14 : decode cX9_bestRotation 14 = .ok (.iload_n 3, 1) := by decide +kernel
theorem dX9_bestRotation_15 : decode cX9_bestRotation 15 = .ok (.ireturn, 1) := by decide +kernel
theorem dX9_bestRotation_16 : decode cX9_bestRotation 16 = .ok (.aload_n 0, 1) := by decide +kernel
theorem dX9_bestRotation_17 : decode cX9_bestRotation 17 = .ok (.getfield 25, 3) := by decide +kernel
theorem dX9_bestRotation_20 : decode cX9_bestRotation 20 = .ok (.aload_n 0, 1) := by decide +kernel
theorem dX9_bestRotation_21 : decode cX9_bestRotation 21 = .ok (.getfield 21, 3) := by decide +kernel
theorem dX9_bestRotation_24 : decode cX9_bestRotation 24 = .ok (.invokevirtual 84, 3) := by decide +kernel
theorem dX9_bestRotation_27 : decode cX9_bestRotation 27 = .ok (.iconst 0, 1) := by decide +kernel
theorem dX9_bestRotation_28 : decode cX9_bestRotation 28 = .ok (.istore 4, 2) := by decide +kernel
theorem dX9_bestRotation_30 : decode cX9_bestRotation 30 = .ok (.aload_n 0, 1) := by decide +kernel
theorem dX9_bestRotation_31 : decode cX9_bestRotation 31 = .ok (.getfield 25, 3) := by decide +kernel
theorem dX9_bestRotation_34 : decode cX9_bestRotation 34 = .ok (.invokevirtual 125, 3) := by decide +kernel
theorem dX9_bestRotation_37 : decode cX9_bestRotation 37 = .ok (.istore 5, 2) := by decide +kernel
theorem dX9_bestRotation_39 : decode cX9_bestRotation 39 = .ok (.iconst 1, 1) := by decide +kernel
theorem dX9_bestRotation_40 : decode cX9_bestRotation 40 = .ok (.istore 6, 2) := by decide +kernel
theorem dX9_bestRotation_42 : decode cX9_bestRotation 42 = .ok (.iload 6, 2) := by decide +kernel
theorem dX9_bestRotation_44 : decode cX9_bestRotation 44 = .ok (.iload_n 2, 1) := by decide +kernel
theorem dX9_bestRotation_45 : decode cX9_bestRotation 45 = .ok (.iload_n 1, 1) := by decide +kernel
theorem dX9_bestRotation_46 : decode cX9_bestRotation 46 = .ok (.isub, 1) := by decide +kernel
theorem dX9_bestRotation_47 : decode cX9_bestRotation 47 = .ok (.if_icmp .gt 42, 3) := by decide +kernel
theorem dX9_bestRotation_50 : decode cX9_bestRotation 50 = .ok (.aload_n 0, 1) := by decide +kernel
theorem dX9_bestRotation_51 : decode cX9_bestRotation 51 = .ok (.getfield 25, 3) := by decide +kernel
theorem dX9_bestRotation_54 : decode cX9_bestRotation 54 = .ok (.iload_n 1, 1) := by decide +kernel
theorem dX9_bestRotation_55 : decode cX9_bestRotation 55 = .ok (.iload_n 2, 1) := by decide +kernel
theorem dX9_bestRotation_56 : decode cX9_bestRotation 56 = .ok (.invokevirtual 160, 3) := by decide +kernel
theorem dX9_bestRotation_59 : decode cX9_bestRotation 59 = .ok (.aload_n 0, 1) := by decide +kernel
theorem dX9_bestRotation_60 : decode cX9_bestRotation 60 = .ok (.getfield 25, 3) := by decide +kernel
theorem dX9_bestRotation_63 : decode cX9_bestRotation 63 = .ok (.invokevirtual 125, 3) := by decide +kernel
theorem dX9_bestRotation_66 : decode cX9_bestRotation 66 = .ok (.istore 7, 2) := by decide +kernel
theorem dX9_bestRotation_68 : decode cX9_bestRotation 68 = .ok (.iload 7, 2) := by decide +kernel
theorem dX9_bestRotation_70 : decode cX9_bestRotation 70 = .ok (.iload 5, 2) := by decide +kernel
theorem dX9_bestRotation_72 : decode cX9_bestRotation 72 = .ok (.if_icmp .ge 11, 3) := by decide +kernel
theorem dX9_bestRotation_75 : decode cX9_bestRotation 75 = .ok (.iload 6, 2) := by decide +kernel
theorem dX9_bestRotation_77 : decode cX9_bestRotation 77 = .ok (.istore 4, 2) := by decide +kernel
theorem dX9_bestRotation_79 : decode cX9_bestRotation 79 = .ok (.iload 7, 2) := by decide +kernel
theorem dX9_bestRotation_81 : decode cX9_bestRotation 81 = .ok (.istore 5, 2) := by decide +kernel
theorem dX9_bestRotation_83 : decode cX9_bestRotation 83 = .ok (.iinc 6 1, 3) := by decide +kernel
theorem dX9_bestRotation_86 : decode cX9_bestRotation 86 = .ok (.goto (-44), 3) := by decide +kernel
theorem dX9_bestRotation_89 : decode cX9_bestRotation 89 = .ok (.iload 4, 2) := by decide +kernel
theorem dX9_bestRotation_91 : decode cX9_bestRotation 91 = .ok (.ireturn, 1) := by decide +kernel
theorem dX9_orderByChains_0 : decode cX9_orderByChains 0 = .ok (.aload_n 0, 1) := by decide +kernel
theorem dX9_orderByChains_1 : decode cX9_orderByChains 1 = .ok (.getfield 39, 3) := by decide +kernel
theorem dX9_orderByChains_4 : decode cX9_orderByChains 4 = .ok (.aload_n 0, 1) := by decide +kernel
theorem dX9_orderByChains_5 : decode cX9_orderByChains 5 = .ok (.getfield 21, 3) := by decide +kernel
theorem dX9_orderByChains_8 : decode cX9_orderByChains 8 = .ok (.invokevirtual 164, 3) := by decide +kernel
theorem dX9_orderByChains_11 : decode cX9_orderByChains 11 = .ok (.aload_n 0, 1) := by decide +kernel
theorem dX9_orderByChains_12 : decode cX9_orderByChains 12 = .ok (.getfield 53, 3) := by decide +kernel
theorem dX9_orderByChains_15 : decode cX9_orderByChains 15 = .ok (.aload_n 0, 1) := by decide +kernel
theorem dX9_orderByChains_16 : decode cX9_orderByChains 16 = .ok (.getfield 21, 3) := by decide +kernel
theorem dX9_orderByChains_19 : decode cX9_orderByChains 19 = .ok (.invokevirtual 148, 3) := by decide +kernel
theorem dX9_orderByChains_22 : decode cX9_orderByChains 22 = .ok (.aload_n 0, 1) := by decide +kernel
theorem dX9_orderByChains_23 : decode cX9_orderByChains 23 = .ok (.getfield 53, 3) := by decide +kernel
theorem dX9_orderByChains_26 : decode cX9_orderByChains 26 = .ok (.aload_n 0, 1) := by decide +kernel
theorem dX9_orderByChains_27 : decode cX9_orderByChains 27 = .ok (.getfield 21, 3) := by decide +kernel
theorem dX9_orderByChains_30 : decode cX9_orderByChains 30 = .ok (.invokevirtual 167, 3) := by decide +kernel
theorem dX9_orderByChains_33 : decode cX9_orderByChains 33 = .ok (.aload_n 0, 1) := by decide +kernel
theorem dX9_orderByChains_34 : decode cX9_orderByChains 34 = .ok (.getfield 21, 3) := by decide +kernel
theorem dX9_orderByChains_37 : decode cX9_orderByChains 37 = .ok (.invokevirtual 125, 3) := by decide +kernel
theorem dX9_orderByChains_40 : decode cX9_orderByChains 40 = .ok (.ireturn, 1) := by decide +kernel
theorem dX9_orderOptimally_0 : decode cX9_orderOptimally 0 = .ok (.aload_n 0, 1) := by decide +kernel
theorem dX9_orderOptimally_1 : decode cX9_orderOptimally 1 = .ok (.getfield 39, 3) := by decide +kernel
theorem dX9_orderOptimally_4 : decode cX9_orderOptimally 4 = .ok (.aload_n 0, 1) := by decide +kernel
theorem dX9_orderOptimally_5 : decode cX9_orderOptimally 5 = .ok (.getfield 21, 3) := by decide +kernel
theorem dX9_orderOptimally_8 : decode cX9_orderOptimally 8 = .ok (.invokevirtual 164, 3) := by decide +kernel
theorem dX9_orderOptimally_11 : decode cX9_orderOptimally 11 = .ok (.aload_n 0, 1) := by decide +kernel
theorem dX9_orderOptimally_12 : decode cX9_orderOptimally 12 = .ok (.getfield 60, 3) := by decide +kernel
theorem dX9_orderOptimally_15 : decode cX9_orderOptimally 15 = .ok (.aload_n 0, 1) := by decide +kernel
theorem dX9_orderOptimally_16 : decode cX9_orderOptimally 16 = .ok (.getfield 21, 3) := by decide +kernel
theorem dX9_orderOptimally_19 : decode cX9_orderOptimally 19 = .ok (.invokevirtual 170, 3) := by decide +kernel
theorem dX9_orderOptimally_22 : decode cX9_orderOptimally 22 = .ok (.aload_n 0, 1) := by decide +kernel
theorem dX9_orderOptimally_23 : decode cX9_orderOptimally 23 = .ok (.getfield 21, 3) := by decide +kernel
theorem dX9_orderOptimally_26 : decode cX9_orderOptimally 26 = .ok (.invokevirtual 125, 3) := by decide +kernel
theorem dX9_orderOptimally_29 : decode cX9_orderOptimally 29 = .ok (.ireturn, 1) := by decide +kernel
theorem dX9_swap_0 : decode cX9_swap 0 = .ok (.aload_n 0, 1) := by decide +kernel
theorem dX9_swap_1 : decode cX9_swap 1 = .ok (.getfield 21, 3) := by decide +kernel
theorem dX9_swap_4 : decode cX9_swap 4 = .ok (.iload_n 1, 1) := by decide +kernel
theorem dX9_swap_5 : decode cX9_swap 5 = .ok (.iload_n 2, 1) := by decide +kernel
theorem dX9_swap_6 : decode cX9_swap 6 = .ok (.invokevirtual 171, 3) := by decide +kernel
theorem dX9_swap_9 : decode cX9_swap 9 = .ok (.istore_n 3, 1) := by decide +kernel
theorem dX9_swap_10 : decode cX9_swap 10 = .ok (.iload_n 3, 1) := by decide +kernel
theorem dX9_swap_11 : decode cX9_swap 11 = .ok (.ifCond .eq 5, 3) := by decide +kernel
theorem dX9_swap_14 : decode cX9_swap 14 = .ok (.iload_n 3, 1) := by decide +kernel
theorem dX9_swap_15 : decode cX9_swap 15 = .ok (.ireturn, 1) := by decide +kernel
theorem dX9_swap_16 : decode cX9_swap 16 = .ok (.aload_n 0, 1) := by decide +kernel
theorem dX9_swap_17 : decode cX9_swap 17 = .ok (.getfield 39, 3) := by decide +kernel
theorem dX9_swap_20 : decode cX9_swap 20 = .ok (.aload_n 0, 1) := by decide +kernel
theorem dX9_swap_21 : decode cX9_swap 21 = .ok (.getfield 21, 3) := by decide +kernel
theorem dX9_swap_24 : decode cX9_swap 24 = .ok (.invokevirtual 164, 3) := by decide +kernel
theorem dX9_swap_27 : decode cX9_swap 27 = .ok (.aload_n 0, 1) := by decide +kernel
theorem dX9_swap_28 : decode cX9_swap 28 = .ok (.getfield 21, 3) := by decide +kernel
theorem dX9_swap_31 : decode cX9_swap 31 = .ok (.iload_n 1, 1) := by decide +kernel
theorem dX9_swap_32 : decode cX9_swap 32 = .ok (.iload_n 2, 1) := by decide +kernel
theorem dX9_swap_33 : decode cX9_swap 33 = .ok (.invokevirtual 174, 3) := by decide +kernel
theorem dX9_swap_36 : decode cX9_swap 36 = .ok (.aload_n 0, 1) := by decide +kernel
theorem dX9_swap_37 : decode cX9_swap 37 = .ok (.getfield 21, 3) := by decide +kernel
theorem dX9_swap_40 : decode cX9_swap 40 = .ok (.invokevirtual 125, 3) := by decide +kernel
theorem dX9_swap_43 : decode cX9_swap 43 = .ok (.ireturn, 1) := by decide +kernel
theorem dX9_rotate_0 : decode cX9_rotate 0 = .ok (.aload_n 0, 1) := by decide +kernel
theorem dX9_rotate_1 : decode cX9_rotate 1 = .ok (.getfield 21, 3) := by decide +kernel
theorem dX9_rotate_4 : decode cX9_rotate 4 = .ok (.iload_n 1, 1) := by decide +kernel
theorem dX9_rotate_5 : decode cX9_rotate 5 = .ok (.iload_n 2, 1) := by decide +kernel
theorem dX9_rotate_6 : decode cX9_rotate 6 = .ok (.invokevirtual 157, 3) := by decide +kernel
theorem dX9_rotate_9 : decode cX9_rotate 9 = .ok (.istore_n 3, 1) := by decide +kernel
theorem dX9_rotate_10 : decode cX9_rotate 10 = .ok (.iload_n 3, 1) := by decide +kernel
theorem dX9_rotate_11 : decode cX9_rotate 11 = .ok (.ifCond .eq 5, 3) := by decide +kernel
theorem dX9_rotate_14 : decode cX9_rotate 14 = .ok (.iload_n 3, 1) := by decide +kernel
theorem dX9_rotate_15 : decode cX9_rotate 15 = .ok (.ireturn, 1) := by decide +kernel
theorem dX9_rotate_16 : decode cX9_rotate 16 = .ok (.aload_n 0, 1) := by decide +kernel
theorem dX9_rotate_17 : decode cX9_rotate 17 = .ok (.getfield 39, 3) := by decide +kernel
theorem dX9_rotate_20 : decode cX9_rotate 20 = .ok (.aload_n 0, 1) := by decide +kernel
theorem dX9_rotate_21 : decode cX9_rotate 21 = .ok (.getfield 21, 3) := by decide +kernel
theorem dX9_rotate_24 : decode cX9_rotate 24 = .ok (.invokevirtual 164, 3) := by decide +kernel
theorem dX9_rotate_27 : decode cX9_rotate 27 = .ok (.aload_n 0, 1) := by decide +kernel
theorem dX9_rotate_28 : decode cX9_rotate 28 = .ok (.getfield 21, 3) := by decide +kernel
theorem dX9_rotate_31 : decode cX9_rotate 31 = .ok (.iload_n 1, 1) := by decide +kernel
theorem dX9_rotate_32 : decode cX9_rotate 32 = .ok (.iload_n 2, 1) := by decide +kernel
theorem dX9_rotate_33 : decode cX9_rotate 33 = .ok (.invokevirtual 160, 3) := by decide +kernel
theorem dX9_rotate_36 : decode cX9_rotate 36 = .ok (.aload_n 0, 1) := by decide +kernel
theorem dX9_rotate_37 : decode cX9_rotate 37 = .ok (.getfield 21, 3) := by decide +kernel
theorem dX9_rotate_40 : decode cX9_rotate 40 = .ok (.invokevirtual 125, 3) := by decide +kernel
theorem dX9_rotate_43 : decode cX9_rotate 43 = .ok (.ireturn, 1) := by decide +kernel
theorem dX9_split_0 : decode cX9_split 0 = .ok (.iload_n 1, 1) := by decide +kernel
theorem dX9_split_1 : decode cX9_split 1 = .ok (.invokestatic 177, 3) := by decide +kernel
theorem dX9_split_4 : decode cX9_split 4 = .ok (.istore_n 2, 1) := by decide +kernel
theorem dX9_split_5 : decode cX9_split 5 = .ok (.iload_n 2, 1) := by decide +kernel
theorem dX9_split_6 : decode cX9_split 6 = .ok (.ifCond .eq 5, 3) := by decide +kernel
theorem dX9_split_9 : decode cX9_split 9 = .ok (.iload_n 2, 1) := by decide +kernel
theorem dX9_split_10 : decode cX9_split 10 = .ok (.ireturn, 1) := by decide +kernel
theorem dX9_split_11 : decode cX9_split 11 = .ok (.aload_n 0, 1) := by decide +kernel
theorem dX9_split_12 : decode cX9_split 12 = .ok (.getfield 39, 3) := by decide +kernel
theorem dX9_split_15 : decode cX9_split 15 = .ok (.aload_n 0, 1) := by decide +kernel
theorem dX9_split_16 : decode cX9_split 16 = .ok (.getfield 21, 3) := by decide +kernel
theorem dX9_split_19 : decode cX9_split 19 = .ok (.invokevirtual 164, 3) := by decide +kernel
theorem dX9_split_22 : decode cX9_split 22 = .ok (.aload_n 0, 1) := by decide +kernel
theorem dX9_split_23 : decode cX9_split 23 = .ok (.getfield 21, 3) := by decide +kernel
theorem dX9_split_26 : decode cX9_split 26 = .ok (.iload_n 1, 1) := by decide +kernel
theorem dX9_split_27 : decode cX9_split 27 = .ok (.invokevirtual 180, 3) := by decide +kernel
theorem dX9_split_30 : decode cX9_split 30 = .ok (.aload_n 0, 1) := by decide +kernel
theorem dX9_split_31 : decode cX9_split 31 = .ok (.getfield 21, 3) := by decide +kernel
theorem dX9_split_34 : decode cX9_split 34 = .ok (.getfield 122, 3) := by decide +kernel
theorem dX9_split_37 : decode cX9_split 37 = .ok (.ireturn, 1) := by decide +kernel
theorem dX9_bypass_0 : decode cX9_bypass 0 = .ok (.aload_n 0, 1) := by decide +kernel
theorem dX9_bypass_1 : decode cX9_bypass 1 = .ok (.getfield 21, 3) := by decide +kernel
theorem dX9_bypass_4 : decode cX9_bypass 4 = .ok (.iload_n 1, 1) := by decide +kernel
theorem dX9_bypass_5 : decode cX9_bypass 5 = .ok (.invokevirtual 184, 3) := by decide +kernel
theorem dX9_bypass_8 : decode cX9_bypass 8 = .ok (.istore_n 2, 1) := by decide +kernel
theorem dX9_bypass_9 : decode cX9_bypass 9 = .ok (.iload_n 2, 1) := by decide +kernel
theorem dX9_bypass_10 : decode cX9_bypass 10 = .ok (.ifCond .eq 5, 3) := by decide +kernel
theorem dX9_bypass_13 : decode cX9_bypass 13 = .ok (.iload_n 2, 1) := by decide +kernel
theorem dX9_bypass_14 : decode cX9_bypass 14 = .ok (.ireturn, 1) := by decide +kernel
theorem dX9_bypass_15 : decode cX9_bypass 15 = .ok (.aload_n 0, 1) := by decide +kernel
theorem dX9_bypass_16 : decode cX9_bypass 16 = .ok (.getfield 39, 3) := by decide +kernel
theorem dX9_bypass_19 : decode cX9_bypass 19 = .ok (.aload_n 0, 1) := by decide +kernel
theorem dX9_bypass_20 : decode cX9_bypass 20 = .ok (.getfield 21, 3) := by decide +kernel
theorem dX9_bypass_23 : decode cX9_bypass 23 = .ok (.invokevirtual 164, 3) := by decide +kernel
theorem dX9_bypass_26 : decode cX9_bypass 26 = .ok (.aload_n 0, 1) := by decide +kernel
theorem dX9_bypass_27 : decode cX9_bypass 27 = .ok (.getfield 21, 3) := by decide +kernel
theorem dX9_bypass_30 : decode cX9_bypass 30 = .ok (.iload_n 1, 1) := by decide +kernel
theorem dX9_bypass_31 : decode cX9_bypass 31 = .ok (.invokevirtual 187, 3) := by decide +kernel
theorem dX9_bypass_34 : decode cX9_bypass 34 = .ok (.ireturn, 1) := by decide +kernel
theorem dX9_setCount_0 : decode cX9_setCount 0 = .ok (.aload_n 0, 1) := by decide +kernel
theorem dX9_setCount_1 : decode cX9_setCount 1 = .ok (.getfield 21, 3) := by decide +kernel
theorem dX9_setCount_4 : decode cX9_setCount 4 = .ok (.iload_n 1, 1) := by decide +kernel
theorem dX9_setCount_5 : decode cX9_setCount 5 = .ok (.iload_n 2, 1) := by decide +kernel
theorem dX9_setCount_6 : decode cX9_setCount 6 = .ok (.invokevirtual 102, 3) := by decide +kernel
theorem dX9_setCount_9 : decode cX9_setCount 9 = .ok (.ifCond .ne 5, 3) := by decide +kernel
theorem dX9_setCount_12 : decode cX9_setCount 12 = .ok (.iconst (-1), 1) := by decide +kernel
theorem dX9_setCount_13 : decode cX9_setCount 13 = .ok (.ireturn, 1) := by decide +kernel
theorem dX9_setCount_14 : decode cX9_setCount 14 = .ok (.iload_n 3, 1) := by decide +kernel
theorem dX9_setCount_15 : decode cX9_setCount 15 = .ok (.ifCond .lt 9, 3) := by decide +kernel
theorem dX9_setCount_18 : decode cX9_setCount 18 = .ok (.iload_n 3, 1) := by decide +kernel
theorem dX9_setCount_19 : decode cX9_setCount 19 = .ok (.bipush 99, 2) := by decide +kernel
theorem dX9_setCount_21 : decode cX9_setCount 21 = .ok (.if_icmp .le 6, 3) := by decide +kernel
theorem dX9_setCount_24 : decode cX9_setCount 24 = .ok (.bipush (-2), 2) := by decide +kernel
theorem dX9_setCount_26 : decode cX9_setCount 26 = .ok (.ireturn, 1) := by decide +kernel
theorem dX9_setCount_27 : decode cX9_setCount 27 = .ok (.aload_n 0, 1) := by decide +kernel
theorem dX9_setCount_28 : decode cX9_setCount 28 = .ok (.getfield 39, 3) := by decide +kernel
theorem dX9_setCount_31 : decode cX9_setCount 31 = .ok (.aload_n 0, 1) := by decide +kernel
theorem dX9_setCount_32 : decode cX9_setCount 32 = .ok (.getfield 21, 3) := by decide +kernel
theorem dX9_setCount_35 : decode cX9_setCount 35 = .ok (.invokevirtual 164, 3) := by decide +kernel
theorem dX9_setCount_38 : decode cX9_setCount 38 = .ok (.aload_n 0, 1) := by decide +kernel
theorem dX9_setCount_39 : decode cX9_setCount 39 = .ok (.getfield 21, 3) := by decide +kernel
theorem dX9_setCount_42 : decode cX9_setCount 42 = .ok (.iload_n 1, 1) := by decide +kernel
theorem dX9_setCount_43 : decode cX9_setCount 43 = .ok (.iload_n 2, 1) := by decide +kernel
theorem dX9_setCount_44 : decode cX9_setCount 44 = .ok (.invokevirtual 110, 3) := by decide +kernel
theorem dX9_setCount_47 : decode cX9_setCount 47 = .ok (.istore 4, 2) := by decide +kernel
theorem dX9_setCount_49 : decode cX9_setCount 49 = .ok (.aload_n 0, 1) := by decide +kernel
theorem dX9_setCount_50 : decode cX9_setCount 50 = .ok (.getfield 21, 3) := by decide +kernel
theorem dX9_setCount_53 : decode cX9_setCount 53 = .ok (.iload_n 1, 1) := by decide +kernel
theorem dX9_setCount_54 : decode cX9_setCount 54 = .ok (.iload_n 2, 1) := by decide +kernel
theorem dX9_setCount_55 : decode cX9_setCount 55 = .ok (.iload_n 3, 1) := by decide +kernel
theorem dX9_setCount_56 : decode cX9_setCount 56 = .ok (.invokevirtual 190, 3) := by decide +kernel
theorem dX9_setCount_59 : decode cX9_setCount 59 = .ok (.iload 4, 2) := by decide +kernel
theorem dX9_setCount_61 : decode cX9_setCount 61 = .ok (.ireturn, 1) := by decide +kernel
theorem dX9_setAlignment_0 : decode cX9_setAlignment 0 = .ok (.iload_n 1, 1) := by decide +kernel
theorem dX9_setAlignment_1 : decode cX9_setAlignment 1 = .ok (.iconst 1, 1) := by decide +kernel
theorem dX9_setAlignment_2 : decode cX9_setAlignment 2 = .ok (.if_icmp .lt 17, 3) := by decide +kernel
theorem dX9_setAlignment_5 : decode cX9_setAlignment 5 = .ok (.iload_n 1, 1) := by decide +kernel
theorem dX9_setAlignment_6 : decode cX9_setAlignment 6 = .ok (.bipush 16, 2) := by decide +kernel
theorem dX9_setAlignment_8 : decode cX9_setAlignment 8 = .ok (.if_icmp .gt 11, 3) := by decide +kernel
theorem dX9_setAlignment_11 : decode cX9_setAlignment 11 = .ok (.iload_n 1, 1) := by decide +kernel
theorem dX9_setAlignment_12 : decode cX9_setAlignment 12 = .ok (.invokestatic 194, 3) := by decide +kernel
theorem dX9_setAlignment_15 : decode cX9_setAlignment 15 = .ok (.iconst 1, 1) := by decide +kernel
theorem dX9_setAlignment_16 : decode cX9_setAlignment 16 = .ok (.if_icmp .eq 6, 3) := by decide +kernel
theorem dX9_setAlignment_19 : decode cX9_setAlignment 19 = .ok (.bipush (-2), 2) := by decide +kernel
theorem dX9_setAlignment_21 : decode cX9_setAlignment 21 = .ok (.ireturn, 1) := by decide +kernel
theorem dX9_setAlignment_22 : decode cX9_setAlignment 22 = .ok (.aload_n 0, 1) := by decide +kernel
theorem dX9_setAlignment_23 : decode cX9_setAlignment 23 = .ok (.getfield 39, 3) := by decide +kernel
theorem dX9_setAlignment_26 : decode cX9_setAlignment 26 = .ok (.aload_n 0, 1) := by decide +kernel
theorem dX9_setAlignment_27 : decode cX9_setAlignment 27 = .ok (.getfield 21, 3) := by decide +kernel
theorem dX9_setAlignment_30 : decode cX9_setAlignment 30 = .ok (.invokevirtual 164, 3) := by decide +kernel
theorem dX9_setAlignment_33 : decode cX9_setAlignment 33 = .ok (.aload_n 0, 1) := by decide +kernel
theorem dX9_setAlignment_34 : decode cX9_setAlignment 34 = .ok (.getfield 21, 3) := by decide +kernel
theorem dX9_setAlignment_37 : decode cX9_setAlignment 37 = .ok (.getfield 199, 3) := by decide +kernel
theorem dX9_setAlignment_40 : decode cX9_setAlignment 40 = .ok (.istore_n 2, 1) := by decide +kernel
theorem dX9_setAlignment_41 : decode cX9_setAlignment 41 = .ok (.aload_n 0, 1) := by decide +kernel
theorem dX9_setAlignment_42 : decode cX9_setAlignment 42 = .ok (.getfield 21, 3) := by decide +kernel
theorem dX9_setAlignment_45 : decode cX9_setAlignment 45 = .ok (.iload_n 1, 1) := by decide +kernel
theorem dX9_setAlignment_46 : decode cX9_setAlignment 46 = .ok (.putfield 199, 3) := by decide +kernel
theorem dX9_setAlignment_49 : decode cX9_setAlignment 49 = .ok (.iload_n 2, 1) := by decide +kernel
theorem dX9_setAlignment_50 : decode cX9_setAlignment 50 = .ok (.ireturn, 1) := by decide +kernel
theorem dX9_undo_0 : decode cX9_undo 0 = .ok (.aload_n 0, 1) := by decide +kernel
theorem dX9_undo_1 : decode cX9_undo 1 = .ok (.getfield 39, 3) := by decide +kernel
theorem dX9_undo_4 : decode cX9_undo 4 = .ok (.aload_n 0, 1) := by decide +kernel
theorem dX9_undo_5 : decode cX9_undo 5 = .ok (.getfield 21, 3) := by decide +kernel
theorem dX9_undo_8 : decode cX9_undo 8 = .ok (.invokevirtual 202, 3) := by decide +kernel
theorem dX9_undo_11 : decode cX9_undo 11 = .ok (.ireturn, 1) := by decide +kernel
theorem dX9_runScript_0 : decode cX9_runScript 0 = .ok (.iload_n 1, 1) := by decide +kernel
theorem dX9_runScript_1 : decode cX9_runScript 1 = .ok (.lload_n 2, 1) := by decide +kernel
theorem dX9_runScript_2 : decode cX9_runScript 2 = .ok (.invokestatic 205, 3) := by decide +kernel
theorem dX9_runScript_5 : decode cX9_runScript 5 = .ok (.ifCond .ne 6, 3) := by decide +kernel
theorem dX9_runScript_8 : decode cX9_runScript 8 = .ok (.bipush (-2), 2) := by decide +kernel
theorem dX9_runScript_10 : decode cX9_runScript 10 = .ok (.ireturn, 1) := by decide +kernel
theorem dX9_runScript_11 : decode cX9_runScript 11 = .ok (.aload_n 0, 1) := by decide +kernel
theorem dX9_runScript_12 : decode cX9_runScript 12 = .ok (.getfield 25, 3) := by decide +kernel
theorem dX9_runScript_15 : decode cX9_runScript 15 = .ok (.aload_n 0, 1) := by decide +kernel
theorem dX9_runScript_16 : decode cX9_runScript 16 = .ok (.getfield 21, 3) := by decide +kernel
theorem dX9_runScript_19 : decode cX9_runScript 19 = .ok (.invokevirtual 84, 3) := by decide +kernel
theorem dX9_runScript_22 : decode cX9_runScript 22 = .ok (.aload_n 0, 1) := by decide +kernel
theorem dX9_runScript_23 : decode cX9_runScript 23 = .ok (.getfield 25, 3) := by decide +kernel
theorem dX9_runScript_26 : decode cX9_runScript 26 = .ok (.iload_n 1, 1) := by decide +kernel
theorem dX9_runScript_27 : decode cX9_runScript 27 = .ok (.lload_n 2, 1) := by decide +kernel
theorem dX9_runScript_28 : decode cX9_runScript 28 = .ok (.invokestatic 211, 3) := by decide +kernel
theorem dX9_runScript_31 : decode cX9_runScript 31 = .ok (.ireturn, 1) := by decide +kernel
theorem dX9_execute_0 : decode cX9_execute 0 = .ok (.iload_n 3, 1) := by decide +kernel
theorem dX9_execute_1 : decode cX9_execute 1 = .ok (.iconst 1, 1) := by decide +kernel
theorem dX9_execute_2 : decode cX9_execute 2 = .ok (.if_icmp .lt 9, 3) := by decide +kernel
theorem dX9_execute_5 : decode cX9_execute 5 = .ok (.iload_n 3, 1) := by decide +kernel
theorem dX9_execute_6 : decode cX9_execute 6 = .ok (.bipush 99, 2) := by decide +kernel
theorem dX9_execute_8 : decode cX9_execute 8 = .ok (.if_icmp .le 6, 3) := by decide +kernel
theorem dX9_execute_11 : decode cX9_execute 11 = .ok (.bipush (-2), 2) := by decide +kernel
theorem dX9_execute_13 : decode cX9_execute 13 = .ok (.ireturn, 1) := by decide +kernel
theorem dX9_execute_14 : decode cX9_execute 14 = .ok (.aload_n 0, 1) := by decide +kernel
theorem dX9_execute_15 : decode cX9_execute 15 = .ok (.getfield 21, 3) := by decide +kernel
theorem dX9_execute_18 : decode cX9_execute 18 = .ok (.lload_n 1, 1) := by decide +kernel
theorem dX9_execute_19 : decode cX9_execute 19 = .ok (.iload_n 3, 1) := by decide +kernel
theorem dX9_execute_20 : decode cX9_execute 20 = .ok (.invokestatic 215, 3) := by decide +kernel
theorem dX9_execute_23 : decode cX9_execute 23 = .ok (.ireturn, 1) := by decide +kernel
theorem dX9_save_0 : decode cX9_save 0 = .ok (.iload_n 1, 1) := by decide +kernel
theorem dX9_save_1 : decode cX9_save 1 = .ok (.ifCond .lt 8, 3) := by decide +kernel
theorem dX9_save_4 : decode cX9_save 4 = .ok (.iload_n 1, 1) := by decide +kernel
theorem dX9_save_5 : decode cX9_save 5 = .ok (.iconst 2, 1) := by decide +kernel
theorem dX9_save_6 : decode cX9_save 6 = .ok (.if_icmp .lt 5, 3) := by decide +kernel
theorem dX9_save_9 : decode cX9_save 9 = .ok (.iconst (-1), 1) := by decide +kernel
theorem dX9_save_10 : decode cX9_save 10 = .ok (.ireturn, 1) := by decide +kernel
theorem dX9_save_11 : decode cX9_save 11 = .ok (.aload_n 0, 1) := by decide +kernel
theorem dX9_save_12 : decode cX9_save 12 = .ok (.getfield 28, 3) := by decide +kernel
theorem dX9_save_15 : decode cX9_save 15 = .ok (.iload_n 1, 1) := by decide +kernel
theorem dX9_save_16 : decode cX9_save 16 = .ok (.aaload, 1) := by decide +kernel
theorem dX9_save_17 : decode cX9_save 17 = .ok (.aload_n 0, 1) := by decide +kernel
theorem dX9_save_18 : decode cX9_save 18 = .ok (.getfield 21, 3) := by decide +kernel
theorem dX9_save_21 : decode cX9_save 21 = .ok (.invokevirtual 84, 3) := by decide +kernel
theorem dX9_save_24 : decode cX9_save 24 = .ok (.aload_n 0, 1) := by decide +kernel
theorem dX9_save_25 : decode cX9_save 25 = .ok (.getfield 32, 3) := by decide +kernel
theorem dX9_save_28 : decode cX9_save 28 = .ok (.iload_n 1, 1) := by decide +kernel
theorem dX9_save_29 : decode cX9_save 29 = .ok (.iconst 1, 1) := by decide +kernel
theorem dX9_save_30 : decode cX9_save 30 = .ok (.bastore, 1) := by decide +kernel
theorem dX9_save_31 : decode cX9_save 31 = .ok (.aload_n 0, 1) := by decide +kernel
theorem dX9_save_32 : decode cX9_save 32 = .ok (.getfield 21, 3) := by decide +kernel
theorem dX9_save_35 : decode cX9_save 35 = .ok (.getfield 122, 3) := by decide +kernel
theorem dX9_save_38 : decode cX9_save 38 = .ok (.ireturn, 1) := by decide +kernel
theorem dX9_restore_0 : decode cX9_restore 0 = .ok (.iload_n 1, 1) := by decide +kernel
theorem dX9_restore_1 : decode cX9_restore 1 = .ok (.ifCond .lt 8, 3) := by decide +kernel
theorem dX9_restore_4 : decode cX9_restore 4 = .ok (.iload_n 1, 1) := by decide +kernel
theorem dX9_restore_5 : decode cX9_restore 5 = .ok (.iconst 2, 1) := by decide +kernel
theorem dX9_restore_6 : decode cX9_restore 6 = .ok (.if_icmp .lt 5, 3) := by decide +kernel
theorem dX9_restore_9 : decode cX9_restore 9 = .ok (.iconst (-1), 1) := by decide +kernel
theorem dX9_restore_10 : decode cX9_restore 10 = .ok (.ireturn, 1) := by decide +kernel
theorem dX9_restore_11 : decode cX9_restore 11 = .ok (.aload_n 0, 1) := by decide +kernel
theorem dX9_restore_12 : decode cX9_restore 12 = .ok (.getfield 32, 3) := by decide +kernel
theorem dX9_restore_15 : decode cX9_restore 15 = .ok (.iload_n 1, 1) := by decide +kernel
theorem dX9_restore_16 : decode cX9_restore 16 = .ok (.baload, 1) := by decide +kernel
theorem dX9_restore_17 : decode cX9_restore 17 = .ok (.ifCond .ne 6, 3) := by decide +kernel
theorem dX9_restore_20 : decode cX9_restore 20 = .ok (.bipush (-3), 2) := by decide +kernel
theorem dX9_restore_22 : decode cX9_restore 22 = .ok (.ireturn, 1) := by decide +kernel
theorem dX9_restore_23 : decode cX9_restore 23 = .ok (.aload_n 0, 1) := by decide +kernel
theorem dX9_restore_24 : decode cX9_restore 24 = .ok (.getfield 21, 3) := by decide +kernel
theorem dX9_restore_27 : decode cX9_restore 27 = .ok (.aload_n 0, 1) := by decide +kernel
theorem dX9_restore_28 : decode cX9_restore 28 = .ok (.getfield 28, 3) := by decide +kernel
theorem dX9_restore_31 : decode cX9_restore 31 = .ok (.iload_n 1, 1) := by decide +kernel
theorem dX9_restore_32 : decode cX9_restore 32 = .ok (.aaload, 1) := by decide +kernel
theorem dX9_restore_33 : decode cX9_restore 33 = .ok (.invokevirtual 84, 3) := by decide +kernel
theorem dX9_restore_36 : decode cX9_restore 36 = .ok (.aload_n 0, 1) := by decide +kernel
theorem dX9_restore_37 : decode cX9_restore 37 = .ok (.getfield 39, 3) := by decide +kernel
theorem dX9_restore_40 : decode cX9_restore 40 = .ok (.invokevirtual 87, 3) := by decide +kernel
theorem dX9_restore_43 : decode cX9_restore 43 = .ok (.aload_n 0, 1) := by decide +kernel
theorem dX9_restore_44 : decode cX9_restore 44 = .ok (.getfield 21, 3) := by decide +kernel
theorem dX9_restore_47 : decode cX9_restore 47 = .ok (.getfield 122, 3) := by decide +kernel
theorem dX9_restore_50 : decode cX9_restore 50 = .ok (.ireturn, 1) := by decide +kernel
end
section
theorem dX10_init_0 : decode cX10_init 0 = .ok (.aload_n 0, 1) := by decide +kernel
theorem dX10_init_1 : decode cX10_init 1 = .ok (.invokespecial 1, 3) := by decide +kernel
theorem dX10_init_4 : decode cX10_init 4 = .ok (.aload_n 0, 1) := by decide +kernel
theorem dX10_init_5 : decode cX10_init 5 = .ok (.bipush 99, 2) := by decide +kernel
theorem dX10_init_7 : decode cX10_init 7 = .ok (.newarray .int, 2) := by decide +kernel
theorem dX10_init_9 : decode cX10_init 9 = .ok (.putfield 7, 3) := by decide +kernel
theorem dX10_init_12 : decode cX10_init 12 = .ok (.aload_n 0, 1) := by decide +kernel
theorem dX10_init_13 : decode cX10_init 13 = .ok (.bipush 8, 2) := by decide +kernel
theorem dX10_init_15 : decode cX10_init 15 = .ok (.newarray .int, 2) := by decide +kernel
theorem dX10_init_17 : decode cX10_init 17 = .ok (.putfield 13, 3) := by decide +kernel
theorem dX10_init_20 : decode cX10_init 20 = .ok (.aload_n 0, 1) := by decide +kernel
theorem dX10_init_21 : decode cX10_init 21 = .ok (.bipush 50, 2) := by decide +kernel
theorem dX10_init_23 : decode cX10_init 23 = .ok (.newarray .int, 2) := by decide +kernel
theorem dX10_init_25 : decode cX10_init 25 = .ok (.putfield 16, 3) := by decide +kernel
theorem dX10_init_28 : decode cX10_init 28 = .ok (.aload_n 0, 1) := by decide +kernel
theorem dX10_init_29 : decode cX10_init 29 = .ok (.bipush 50, 2) := by decide +kernel
theorem dX10_init_31 : decode cX10_init 31 = .ok (.newarray .int, 2) := by decide +kernel
theorem dX10_init_33 : decode cX10_init 33 = .ok (.putfield 19, 3) := by decide +kernel
theorem dX10_init_36 : decode cX10_init 36 = .ok (.aload_n 0, 1) := by decide +kernel
theorem dX10_init_37 : decode cX10_init 37 = .ok (.bipush 50, 2) := by decide +kernel
theorem dX10_init_39 : decode cX10_init 39 = .ok (.newarray .int, 2) := by decide +kernel
theorem dX10_init_41 : decode cX10_init 41 = .ok (.putfield 22, 3) := by decide +kernel
theorem dX10_init_44 : decode cX10_init 44 = .ok (.aload_n 0, 1) := by decide +kernel
theorem dX10_init_45 : decode cX10_init 45 = .ok (.sipush 700, 3) := by decide +kernel
theorem dX10_init_48 : decode cX10_init 48 = .ok (.newarray .int, 2) := by decide +kernel
theorem dX10_init_50 : decode cX10_init 50 = .ok (.putfield 25, 3) := by decide +kernel
theorem dX10_init_53 : decode cX10_init 53 = .ok (.aload_n 0, 1) := by decide +kernel
theorem dX10_init_54 : decode cX10_init 54 = .ok (.bipush 100, 2) := by decide +kernel
theorem dX10_init_56 : decode cX10_init 56 = .ok (.newarray .int, 2) := by decide +kernel
theorem dX10_init_58 : decode cX10_init 58 = .ok (.putfield 28, 3) := by decide +kernel
theorem dX10_init_61 : decode cX10_init 61 = .ok (.aload_n 0, 1) := by decide +kernel
theorem dX10_init_62 : decode cX10_init 62 = .ok (.iconst 2, 1) := by decide +kernel
theorem dX10_init_63 : decode cX10_init 63 = .ok (.newarray .boolean, 2) := by decide +kernel
theorem dX10_init_65 : decode cX10_init 65 = .ok (.putfield 31, 3) := by decide +kernel
theorem dX10_init_68 : decode cX10_init 68 = .ok (.aload_n 0, 1) := by decide +kernel
theorem dX10_init_69 : decode cX10_init 69 = .ok (.bipush 8, 2) := by decide +kernel
theorem dX10_init_71 : decode cX10_init 71 = .ok (.newarray .int, 2) := by decide +kernel
theorem dX10_init_73 : decode cX10_init 73 = .ok (.putfield 35, 3) := by decide +kernel
theorem dX10_init_76 : decode cX10_init 76 = .ok (.aload_n 0, 1) := by decide +kernel
theorem dX10_init_77 : decode cX10_init 77 = .ok (.bipush 50, 2) := by decide +kernel
theorem dX10_init_79 : decode cX10_init 79 = .ok (.newarray .int, 2) := by decide +kernel
theorem dX10_init_81 : decode cX10_init 81 = .ok (.putfield 38, 3) := by decide +kernel
theorem dX10_init_84 : decode cX10_init 84 = .ok (.aload_n 0, 1) := by decide +kernel
theorem dX10_init_85 : decode cX10_init 85 = .ok (.bipush 8, 2) := by decide +kernel
theorem dX10_init_87 : decode cX10_init 87 = .ok (.newarray .int, 2) := by decide +kernel
theorem dX10_init_89 : decode cX10_init 89 = .ok (.putfield 41, 3) := by decide +kernel
theorem dX10_init_92 : decode cX10_init 92 = .ok (.aload_n 0, 1) := by decide +kernel
theorem dX10_init_93 : decode cX10_init 93 = .ok (.bipush 8, 2) := by decide +kernel
theorem dX10_init_95 : decode cX10_init 95 = .ok (.newarray .int, 2) := by decide +kernel
theorem dX10_init_97 : decode cX10_init 97 = .ok (.putfield 44, 3) := by decide +kernel
theorem dX10_init_100 : decode cX10_init 100 = .ok (.aload_n 0, 1) := by decide +kernel
theorem dX10_init_101 : decode cX10_init 101 = .ok (.bipush 8, 2) := by decide +kernel
theorem dX10_init_103 : decode cX10_init 103 = .ok (.newarray .boolean, 2) := by decide +kernel
theorem dX10_init_105 : decode cX10_init 105 = .ok (.putfield 47, 3) := by decide +kernel
theorem dX10_init_108 : decode cX10_init 108 = .ok (.aload_n 0, 1) := by decide +kernel
theorem dX10_init_109 : decode cX10_init 109 = .ok (.bipush 8, 2) := by decide +kernel
theorem dX10_init_111 : decode cX10_init 111 = .ok (.newarray .int, 2) := by decide +kernel
theorem dX10_init_113 : decode cX10_init 113 = .ok (.putfield 50, 3) := by decide +kernel
theorem dX10_init_116 : decode cX10_init 116 = .ok (.aload_n 0, 1) := by decide +kernel
theorem dX10_init_117 : decode cX10_init 117 = .ok (.iconst 1, 1) := by decide +kernel
theorem dX10_init_118 : decode cX10_init 118 = .ok (.putfield 53, 3) := by decide +kernel
theorem dX10_init_121 : decode cX10_init 121 = .ok (.aload_n 0, 1) := by decide +kernel
theorem dX10_init_122 : decode cX10_init 122 = .ok (.getfield 16, 3) := by decide +kernel
theorem dX10_init_125 : decode cX10_init 125 = .ok (.iconst 0, 1) := by decide +kernel
theorem dX10_init_126 : decode cX10_init 126 = .ok (.iconst 1, 1) := by decide +kernel
theorem dX10_init_127 : decode cX10_init 127 = .ok (.iastore, 1) := by decide +kernel
theorem dX10_init_128 : decode cX10_init 128 = .ok (.aload_n 0, 1) := by decide +kernel
theorem dX10_init_129 : decode cX10_init 129 = .ok (.getfield 16, 3) := by decide +kernel
theorem dX10_init_132 : decode cX10_init 132 = .ok (.iconst 1, 1) := by decide +kernel
theorem dX10_init_133 : decode cX10_init 133 = .ok (.iconst 1, 1) := by decide +kernel
theorem dX10_init_134 : decode cX10_init 134 = .ok (.iastore, 1) := by decide +kernel
theorem dX10_init_135 : decode cX10_init 135 = .ok (.return_, 1) := by decide +kernel
theorem dX10_copy_0 : decode cX10_copy 0 = .ok (.iconst 0, 1) := by decide +kernel
theorem dX10_copy_1 : decode cX10_copy 1 = .ok (.istore_n 2, 1) := by decide +kernel
theorem dX10_copy_2 : decode cX10_copy 2 = .ok (.iload_n 2, 1) := by decide +kernel
theorem dX10_copy_3 : decode cX10_copy 3 = .ok (.bipush 50, 2) := by decide +kernel
theorem dX10_copy_5 : decode cX10_copy 5 = .ok (.if_icmp .ge 15, 3) := by decide +kernel
theorem dX10_copy_8 : decode cX10_copy 8 = .ok (.aload_n 1, 1) := by decide +kernel
theorem dX10_copy_9 : decode cX10_copy 9 = .ok (.iload_n 2, 1) := by decide +kernel
theorem dX10_copy_10 : decode cX10_copy 10 = .ok (.aload_n 0, 1) := by decide +kernel
theorem dX10_copy_11 : decode cX10_copy 11 = .ok (.iload_n 2, 1) := by decide +kernel
theorem dX10_copy_12 : decode cX10_copy 12 = .ok (.iaload, 1) := by decide +kernel
theorem dX10_copy_13 : decode cX10_copy 13 = .ok (.iastore, 1) := by decide +kernel
theorem dX10_copy_14 : decode cX10_copy 14 = .ok (.iinc 2 1, 3) := by decide +kernel
theorem dX10_copy_17 : decode cX10_copy 17 = .ok (.goto (-15), 3) := by decide +kernel
theorem dX10_copy_20 : decode cX10_copy 20 = .ok (.return_, 1) := by decide +kernel
theorem dX10_in_0 : decode cX10_in 0 = .ok (.lload_n 0, 1) := by decide +kernel
theorem dX10_in_1 : decode cX10_in 1 = .ok (.lload_n 2, 1) := by decide +kernel
theorem dX10_in_2 : decode cX10_in 2 = .ok (.lcmp, 1) := by decide +kernel
theorem dX10_in_3 : decode cX10_in 3 = .ok (.ifCond .lt 14, 3) := by decide +kernel
theorem dX10_in_6 : decode cX10_in 6 = .ok (.lload_n 0, 1) := by decide +kernel
theorem dX10_in_7 : decode cX10_in 7 = .ok (.lload 4, 2) := by decide +kernel
theorem dX10_in_9 : decode cX10_in 9 = .ok (.lcmp, 1) := by decide +kernel
theorem dX10_in_10 : decode cX10_in 10 = .ok (.ifCond .gt 7, 3) := by decide +kernel
theorem dX10_in_13 : decode cX10_in 13 = .ok (.iconst 1, 1) := by decide +kernel
theorem dX10_in_14 : decode cX10_in 14 = .ok (.goto 4, 3) := by decide +kernel
theorem dX10_in_17 : decode cX10_in 17 = .ok (.iconst 0, 1) := by decide +kernel
theorem dX10_in_18 : decode cX10_in 18 = .ok (.ireturn, 1) := by decide +kernel
theorem dX10_isBlock_0 : decode cX10_isBlock 0 = .ok (.iload_n 1, 1) := by decide +kernel
theorem dX10_isBlock_1 : decode cX10_isBlock 1 = .ok (.i2l, 1) := by decide +kernel
theorem dX10_isBlock_2 : decode cX10_isBlock 2 = .ok (.lconst 0, 1) := by decide +kernel
theorem dX10_isBlock_3 : decode cX10_isBlock 3 = .ok (.aload_n 0, 1) := by decide +kernel
theorem dX10_isBlock_4 : decode cX10_isBlock 4 = .ok (.getfield 53, 3) := by decide +kernel
theorem dX10_isBlock_7 : decode cX10_isBlock 7 = .ok (.iconst 1, 1) := by decide +kernel
theorem dX10_isBlock_8 : decode cX10_isBlock 8 = .ok (.isub, 1) := by decide +kernel
theorem dX10_isBlock_9 : decode cX10_isBlock 9 = .ok (.i2l, 1) := by decide +kernel
theorem dX10_isBlock_10 : decode cX10_isBlock 10 = .ok (.invokestatic 57, 3) := by decide +kernel
theorem dX10_isBlock_13 : decode cX10_isBlock 13 = .ok (.ireturn, 1) := by decide +kernel
theorem dX10_isEdge_0 : decode cX10_isEdge 0 = .ok (.aload_n 0, 1) := by decide +kernel
theorem dX10_isEdge_1 : decode cX10_isEdge 1 = .ok (.iload_n 1, 1) := by decide +kernel
theorem dX10_isEdge_2 : decode cX10_isEdge 2 = .ok (.invokevirtual 61, 3) := by decide +kernel
theorem dX10_isEdge_5 : decode cX10_isEdge 5 = .ok (.ifCond .eq 28, 3) := by decide +kernel
theorem dX10_isEdge_8 : decode cX10_isEdge 8 = .ok (.iload_n 2, 1) := by decide +kernel
theorem dX10_isEdge_9 : decode cX10_isEdge 9 = .ok (.i2l, 1) := by decide +kernel
theorem dX10_isEdge_10 : decode cX10_isEdge 10 = .ok (.lconst 0, 1) := by decide +kernel
theorem dX10_isEdge_11 : decode cX10_isEdge 11 = .ok (.aload_n 0, 1) := by decide +kernel
theorem dX10_isEdge_12 : decode cX10_isEdge 12 = .ok (.getfield 16, 3) := by decide +kernel
theorem dX10_isEdge_15 : decode cX10_isEdge 15 = .ok (.bipush 10, 2) := by decide +kernel
theorem dX10_isEdge_17 : decode cX10_isEdge 17 = .ok (.iload_n 1, 1) := by decide +kernel
theorem dX10_isEdge_18 : decode cX10_isEdge 18 = .ok (.iadd, 1) := by decide +kernel
theorem dX10_isEdge_19 : decode cX10_isEdge 19 = .ok (.iaload, 1) := by decide +kernel
theorem dX10_isEdge_20 : decode cX10_isEdge 20 = .ok (.iconst 1, 1) := by decide +kernel
theorem dX10_isEdge_21 : decode cX10_isEdge 21 = .ok (.isub, 1) := by decide +kernel
theorem dX10_isEdge_22 : decode cX10_isEdge 22 = .ok (.i2l, 1) := by decide +kernel
theorem dX10_isEdge_23 : decode cX10_isEdge 23 = .ok (.invokestatic 57, 3) := by decide +kernel
theorem dX10_isEdge_26 : decode cX10_isEdge 26 = .ok (.ifCond .eq 7, 3) := by decide +kernel
theorem dX10_isEdge_29 : decode cX10_isEdge 29 = .ok (.iconst 1, 1) := by decide +kernel
theorem dX10_isEdge_30 : decode cX10_isEdge 30 = .ok (.goto 4, 3) := by decide +kernel
theorem dX10_isEdge_33 : decode cX10_isEdge 33 = .ok (.iconst 0, 1) := by decide +kernel
theorem dX10_isEdge_34 : decode cX10_isEdge 34 = .ok (.ireturn, 1) := by decide +kernel
theorem dX10_append_0 : decode cX10_append 0 = .ok (.iload_n 1, 1) := by decide +kernel
theorem dX10_append_1 : decode cX10_append 1 = .ok (.i2l, 1) := by decide +kernel
theorem dX10_append_2 : decode cX10_append 2 = .ok (.lconst 0, 1) := by decide +kernel
theorem dX10_append_3 : decode cX10_append 3 = .ok (.ldc2_w 65, 3) := by decide +kernel
theorem dX10_append_6 : decode cX10_append 6 = .ok (.invokestatic 57, 3) := by decide +kernel
theorem dX10_append_9 : decode cX10_append 9 = .ok (.ifCond .ne 6, 3) := by decide +kernel
theorem dX10_append_12 : decode cX10_append 12 = .ok (.bipush (-2), 2) := by decide +kernel
theorem dX10_append_14 : decode cX10_append 14 = .ok (.ireturn, 1) := by decide +kernel
theorem dX10_append_15 : decode cX10_append 15 = .ok (.aload_n 0, 1) := by decide +kernel
theorem dX10_append_16 : decode cX10_append 16 = .ok (.getfield 67, 3) := by decide +kernel
theorem dX10_append_19 : decode cX10_append 19 = .ok (.bipush 99, 2) := by decide +kernel
theorem dX10_append_21 : decode cX10_append 21 = .ok (.if_icmp .ne 6, 3) := by decide +kernel
theorem dX10_append_24 : decode cX10_append 24 = .ok (.bipush (-4), 2) := by decide +kernel
theorem dX10_append_26 : decode cX10_append 26 = .ok (.ireturn, 1) := by decide +kernel
theorem dX10_append_27 : decode cX10_append 27 = .ok (.aload_n 0, 1) := by decide +kernel
theorem dX10_append_28 : decode cX10_append 28 = .ok (.getfield 7, 3) := by decide +kernel
theorem dX10_append_31 : decode cX10_append 31 = .ok (.aload_n 0, 1) := by decide +kernel
theorem dX10_append_32 : decode cX10_append 32 = .ok (.getfield 67, 3) := by decide +kernel
theorem dX10_append_35 : decode cX10_append 35 = .ok (.iload_n 1, 1) := by decide +kernel
theorem dX10_append_36 : decode cX10_append 36 = .ok (.iastore, 1) := by decide +kernel
theorem dX10_append_37 : decode cX10_append 37 = .ok (.aload_n 0, 1) := by decide +kernel
theorem dX10_append_38 : decode cX10_append 38 = .ok (.dup, 1) := by decide +kernel
theorem dX10_append_39 : decode cX10_append 39 = .ok (.getfield 67, 3) := by decide +kernel
theorem dX10_append_42 : decode cX10_append 42 = .ok (.iconst 1, 1) := by decide +kernel
theorem dX10_append_43 : decode cX10_append 43 = .ok (.iadd, 1) := by decide +kernel
theorem dX10_append_44 : decode cX10_append 44 = .ok (.putfield 67, 3) := by decide +kernel
theorem dX10_append_47 : decode cX10_append 47 = .ok (.aload_n 0, 1) := by decide +kernel
theorem dX10_append_48 : decode cX10_append 48 = .ok (.getfield 67, 3) := by decide +kernel
theorem dX10_append_51 : decode cX10_append 51 = .ok (.ireturn, 1) := by decide +kernel
theorem dX10_clearText_0 : decode cX10_clearText 0 = .ok (.aload_n 0, 1) := by decide +kernel
theorem dX10_clearText_1 : decode cX10_clearText 1 = .ok (.getfield 67, 3) := by decide +kernel
theorem dX10_clearText_4 : decode cX10_clearText 4 = .ok (.istore_n 1, 1) := by decide +kernel
theorem dX10_clearText_5 : decode cX10_clearText 5 = .ok (.aload_n 0, 1) := by decide +kernel
theorem dX10_clearText_6 : decode cX10_clearText 6 = .ok (.iconst 0, 1) := by decide +kernel
theorem dX10_clearText_7 : decode cX10_clearText 7 = .ok (.putfield 67, 3) := by decide +kernel
theorem dX10_clearText_10 : decode cX10_clearText 10 = .ok (.iload_n 1, 1) := by decide +kernel
theorem dX10_clearText_11 : decode cX10_clearText 11 = .ok (.ireturn, 1) := by decide +kernel
theorem dX10_figure_0 : decode cX10_figure 0 = .ok (.aload_n 0, 1) := by decide +kernel
theorem dX10_figure_1 : decode cX10_figure 1 = .ok (.getfield 70, 3) := by decide +kernel
theorem dX10_figure_4 : decode cX10_figure 4 = .ok (.aload_n 0, 1) := by decide +kernel
theorem dX10_figure_5 : decode cX10_figure 5 = .ok (.getfield 67, 3) := by decide +kernel
theorem dX10_figure_8 : decode cX10_figure 8 = .ok (.if_icmp .ge 18, 3) := by decide +kernel
theorem dX10_figure_11 : decode cX10_figure 11 = .ok (.aload_n 0, 1) := by decide +kernel
theorem dX10_figure_12 : decode cX10_figure 12 = .ok (.getfield 7, 3) := by decide +kernel
theorem dX10_figure_15 : decode cX10_figure 15 = .ok (.aload_n 0, 1) := by decide +kernel
theorem dX10_figure_16 : decode cX10_figure 16 = .ok (.getfield 70, 3) := by decide +kernel
theorem dX10_figure_19 : decode cX10_figure 19 = .ok (.iaload, 1) := by decide +kernel
theorem dX10_figure_20 : decode cX10_figure 20 = .ok (.bipush 48, 2) := by decide +kernel
theorem dX10_figure_22 : decode cX10_figure 22 = .ok (.isub, 1) := by decide +kernel
theorem dX10_figure_23 : decode cX10_figure 23 = .ok (.goto 5, 3) := by decide +kernel
theorem dX10_figure_26 : decode cX10_figure 26 = .ok (.bipush (-9), 2) := by decide +kernel
theorem dX10_figure_28 : decode cX10_figure 28 = .ok (.istore_n 3, 1) := by decide +kernel
theorem dX10_figure_29 : decode cX10_figure 29 = .ok (.iload_n 3, 1) := by decide +kernel
theorem dX10_figure_30 : decode cX10_figure 30 = .ok (.i2l, 1) := by decide +kernel
theorem dX10_figure_31 : decode cX10_figure 31 = .ok (.iload_n 1, 1) := by decide +kernel
theorem dX10_figure_32 : decode cX10_figure 32 = .ok (.i2l, 1) := by decide +kernel
theorem dX10_figure_33 : decode cX10_figure 33 = .ok (.iload_n 2, 1) := by decide +kernel
theorem dX10_figure_34 : decode cX10_figure 34 = .ok (.i2l, 1) := by decide +kernel
theorem dX10_figure_35 : decode cX10_figure 35 = .ok (.invokestatic 57, 3) := by decide +kernel
theorem dX10_figure_38 : decode cX10_figure 38 = .ok (.ifCond .ne 6, 3) := by decide +kernel
theorem dX10_figure_41 : decode cX10_figure 41 = .ok (.bipush (-9), 2) := by decide +kernel
theorem dX10_figure_43 : decode cX10_figure 43 = .ok (.ireturn, 1) := by decide +kernel
theorem dX10_figure_44 : decode cX10_figure 44 = .ok (.aload_n 0, 1) := by decide +kernel
theorem dX10_figure_45 : decode cX10_figure 45 = .ok (.dup, 1) := by decide +kernel
theorem dX10_figure_46 : decode cX10_figure 46 = .ok (.getfield 70, 3) := by decide +kernel
theorem dX10_figure_49 : decode cX10_figure 49 = .ok (.iconst 1, 1) := by decide +kernel
theorem dX10_figure_50 : decode cX10_figure 50 = .ok (.iadd, 1) := by decide +kernel
theorem dX10_figure_51 : decode cX10_figure 51 = .ok (.putfield 70, 3) := by decide +kernel
theorem dX10_figure_54 : decode cX10_figure 54 = .ok (.iload_n 3, 1) := by decide +kernel
theorem dX10_figure_55 : decode cX10_figure 55 = .ok (.ireturn, 1) := by decide +kernel
theorem dX10_twoFigures_0 : decode cX10_twoFigures 0 = .ok (.aload_n 0, 1) := by decide +kernel
theorem dX10_twoFigures_1 : decode cX10_twoFigures 1 = .ok (.iconst 0, 1) := by decide +kernel
theorem dX10_twoFigures_2 : decode cX10_twoFigures 2 = .ok (.bipush 9, 2) := by decide +kernel
theorem dX10_twoFigures_4 : decode cX10_twoFigures 4 = .ok (.invokevirtual 73, 3) := by decide +kernel
theorem dX10_twoFigures_7 : decode cX10_twoFigures 7 = .ok (.istore_n 1, 1) := by decide +kernel
theorem dX10_twoFigures_8 : decode cX10_twoFigures 8 = .ok (.iload_n 1, 1) := by decide +kernel
theorem dX10_twoFigures_9 : decode cX10_twoFigures 9 = .ok (.bipush (-9), 2) := by decide +kernel
theorem dX10_twoFigures_11 : decode cX10_twoFigures 11 = .ok (.if_icmp .ne 8, 3) := by decide +kernel
theorem dX10_twoFigures_14 : decode cX10_twoFigures 14 = .ok (.bipush (-9), 2) := by decide +kernel
theorem dX10_twoFigures_16 : decode cX10_twoFigures 16 = .ok (.goto 10, 3) := by decide +kernel
theorem dX10_twoFigures_19 : decode cX10_twoFigures 19 = .ok (.aload_n 0, 1) := by decide +kernel
theorem dX10_twoFigures_20 : decode cX10_twoFigures 20 = .ok (.iconst 0, 1) := by decide +kernel
theorem dX10_twoFigures_21 : decode cX10_twoFigures 21 = .ok (.bipush 9, 2) := by decide +kernel
theorem dX10_twoFigures_23 : decode cX10_twoFigures 23 = .ok (.invokevirtual 73, 3) := by decide +kernel
theorem dX10_twoFigures_26 : decode cX10_twoFigures 26 = .ok (.istore_n 2, 1) := by decide +kernel
theorem dX10_twoFigures_27 : decode cX10_twoFigures 27 = .ok (.iload_n 2, 1) := by decide +kernel
theorem dX10_twoFigures_28 : decode cX10_twoFigures 28 = .ok (.bipush (-9), 2) := by decide +kernel
theorem dX10_twoFigures_30 : decode cX10_twoFigures 30 = .ok (.if_icmp .ne 8, 3) := by decide +kernel
theorem dX10_twoFigures_33 : decode cX10_twoFigures 33 = .ok (.bipush (-9), 2) := by decide +kernel
theorem dX10_twoFigures_35 : decode cX10_twoFigures 35 = .ok (.goto 9, 3) := by decide +kernel
theorem dX10_twoFigures_38 : decode cX10_twoFigures 38 = .ok (.bipush 10, 2) := by decide +kernel
theorem dX10_twoFigures_40 : decode cX10_twoFigures 40 = .ok (.iload_n 1, 1) := by decide +kernel
theorem dX10_twoFigures_41 : decode cX10_twoFigures 41 = .ok (.imul, 1) := by decide +kernel
theorem dX10_twoFigures_42 : decode cX10_twoFigures 42 = .ok (.iload_n 2, 1) := by decide +kernel
theorem dX10_twoFigures_43 : decode cX10_twoFigures 43 = .ok (.iadd, 1) := by decide +kernel
theorem dX10_twoFigures_44 : decode cX10_twoFigures 44 = .ok (.ireturn, 1) := by decide +kernel
theorem dX10_readSuccessor_0 : decode cX10_readSuccessor 0 = .ok (.iconst 2, 1) := by decide +kernel
theorem dX10_readSuccessor_1 : decode cX10_readSuccessor 1 = .ok (.iload_n 1, 1) := by decide +kernel
theorem dX10_readSuccessor_2 : decode cX10_readSuccessor 2 = .ok (.imul, 1) := by decide +kernel
theorem dX10_readSuccessor_3 : decode cX10_readSuccessor 3 = .ok (.iload_n 2, 1) := by decide +kernel
theorem dX10_readSuccessor_4 : decode cX10_readSuccessor 4 = .ok (.iadd, 1) := by decide +kernel
theorem dX10_readSuccessor_5 : decode cX10_readSuccessor 5 = .ok (.istore_n 3, 1) := by decide +kernel
theorem dX10_readSuccessor_6 : decode cX10_readSuccessor 6 = .ok (.aload_n 0, 1) := by decide +kernel
theorem dX10_readSuccessor_7 : decode cX10_readSuccessor 7 = .ok (.getfield 70, 3) := by decide +kernel
theorem dX10_readSuccessor_10 : decode cX10_readSuccessor 10 = .ok (.aload_n 0, 1) := by decide +kernel
theorem dX10_readSuccessor_11 : decode cX10_readSuccessor 11 = .ok (.getfield 67, 3) := by decide +kernel
theorem dX10_readSuccessor_14 : decode cX10_readSuccessor 14 = .ok (.if_icmp .ge 18, 3) := by decide +kernel
theorem dX10_readSuccessor_17 : decode cX10_readSuccessor 17 = .ok (.aload_n 0, 1) := by decide +kernel
theorem dX10_readSuccessor_18 : decode cX10_readSuccessor 18 = .ok (.getfield 7, 3) := by decide +kernel
theorem dX10_readSuccessor_21 : decode cX10_readSuccessor 21 = .ok (.aload_n 0, 1) := by decide +kernel
theorem dX10_readSuccessor_22 : decode cX10_readSuccessor 22 = .ok (.getfield 70, 3) := by decide +kernel
theorem dX10_readSuccessor_25 : decode cX10_readSuccessor 25 = .ok (.iaload, 1) := by decide +kernel
theorem dX10_readSuccessor_26 : decode cX10_readSuccessor 26 = .ok (.bipush 48, 2) := by decide +kernel
theorem dX10_readSuccessor_28 : decode cX10_readSuccessor 28 = .ok (.isub, 1) := by decide +kernel
theorem dX10_readSuccessor_29 : decode cX10_readSuccessor 29 = .ok (.goto 5, 3) := by decide +kernel
theorem dX10_readSuccessor_32 : decode cX10_readSuccessor 32 = .ok (.bipush (-9), 2) := by decide +kernel
theorem dX10_readSuccessor_34 : decode cX10_readSuccessor 34 = .ok (.istore 4, 2) := by decide +kernel
theorem dX10_readSuccessor_36 : decode cX10_readSuccessor 36 = .ok (.iload 4, 2) := by decide +kernel
theorem dX10_readSuccessor_38 : decode cX10_readSuccessor 38 = .ok (.i2l, 1) := by decide +kernel
theorem dX10_readSuccessor_39 : decode cX10_readSuccessor 39 = .ok (.lconst 0, 1) := by decide +kernel
theorem dX10_readSuccessor_40 : decode cX10_readSuccessor 40 = .ok (.aload_n 0, 1) := by decide +kernel
theorem dX10_readSuccessor_41 : decode cX10_readSuccessor 41 = .ok (.getfield 77, 3) := by decide +kernel
theorem dX10_readSuccessor_44 : decode cX10_readSuccessor 44 = .ok (.iconst 1, 1) := by decide +kernel
theorem dX10_readSuccessor_45 : decode cX10_readSuccessor 45 = .ok (.isub, 1) := by decide +kernel
theorem dX10_readSuccessor_46 : decode cX10_readSuccessor 46 = .ok (.i2l, 1) := by decide +kernel
theorem dX10_readSuccessor_47 : decode cX10_readSuccessor 47 = .ok (.invokestatic 57, 3) := by decide +kernel
theorem dX10_readSuccessor_50 : decode cX10_readSuccessor 50 = .ok (.ifCond .eq 24, 3) := by decide +kernel
theorem dX10_readSuccessor_53 : decode cX10_readSuccessor 53 = .ok (.iload_n 2, 1) := by decide +kernel
theorem dX10_readSuccessor_54 : decode cX10_readSuccessor 54 = .ok (.iconst 1, 1) := by decide +kernel
theorem dX10_readSuccessor_55 : decode cX10_readSuccessor 55 = .ok (.if_icmp .ne 21, 3) := by decide +kernel
theorem dX10_readSuccessor_58 : decode cX10_readSuccessor 58 = .ok (.iload 4, 2) := by decide +kernel
theorem dX10_readSuccessor_60 : decode cX10_readSuccessor 60 = .ok (.aload_n 0, 1) := by decide +kernel
theorem dX10_readSuccessor_61 : decode cX10_readSuccessor 61 = .ok (.getfield 38, 3) := by decide +kernel
theorem dX10_readSuccessor_64 : decode cX10_readSuccessor 64 = .ok (.bipush 18, 2) := by decide +kernel
theorem dX10_readSuccessor_66 : decode cX10_readSuccessor 66 = .ok (.iload_n 3, 1) := by decide +kernel
theorem dX10_readSuccessor_67 : decode cX10_readSuccessor 67 = .ok (.iadd, 1) := by decide +kernel
theorem dX10_readSuccessor_68 : decode cX10_readSuccessor 68 = .ok (.iconst 1, 1) := by decide +kernel
theorem dX10_readSuccessor_69 : decode cX10_readSuccessor 69 = .ok (.isub, 1) := by decide +kernel
theorem dX10_readSuccessor_70 : decode cX10_readSuccessor 70 = .ok (.iaload, 1) := by decide +kernel
theorem dX10_readSuccessor_71 : decode cX10_readSuccessor 71 = .ok (.if_icmp .ne 5, 3) := by decide +kernel
theorem dX10_readSuccessor_74 : decode cX10_readSuccessor 74 = .ok (.iconst 0, 1) := by decide +kernel
theorem dX10_readSuccessor_75 : decode cX10_readSuccessor 75 = .ok (.ireturn, 1) := by decide +kernel
theorem dX10_readSuccessor_76 : decode cX10_readSuccessor 76 = .ok (.aload_n 0, 1) := by decide +kernel
theorem dX10_readSuccessor_77 : decode cX10_readSuccessor 77 = .ok (.dup, 1) := by decide +kernel
theorem dX10_readSuccessor_78 : decode cX10_readSuccessor 78 = .ok (.getfield 70, 3) := by decide +kernel
theorem dX10_readSuccessor_81 : decode cX10_readSuccessor 81 = .ok (.iconst 1, 1) := by decide +kernel
theorem dX10_readSuccessor_82 : decode cX10_readSuccessor 82 = .ok (.iadd, 1) := by decide +kernel
theorem dX10_readSuccessor_83 : decode cX10_readSuccessor 83 = .ok (.putfield 70, 3) := by decide +kernel
theorem dX10_readSuccessor_86 : decode cX10_readSuccessor 86 = .ok (.aload_n 0, 1) := by decide +kernel
theorem dX10_readSuccessor_87 : decode cX10_readSuccessor 87 = .ok (.getfield 38, 3) := by decide +kernel
theorem dX10_readSuccessor_90 : decode cX10_readSuccessor 90 = .ok (.bipush 18, 2) := by decide +kernel
theorem dX10_readSuccessor_92 : decode cX10_readSuccessor 92 = .ok (.iload_n 3, 1) := by decide +kernel
theorem dX10_readSuccessor_93 : decode cX10_readSuccessor 93 = .ok (.iadd, 1) := by decide +kernel
theorem dX10_readSuccessor_94 : decode cX10_readSuccessor 94 = .ok (.iload 4, 2) := by decide +kernel
theorem dX10_readSuccessor_96 : decode cX10_readSuccessor 96 = .ok (.iastore, 1) := by decide +kernel
theorem dX10_readSuccessor_97 : decode cX10_readSuccessor 97 = .ok (.aload_n 0, 1) := by decide +kernel
theorem dX10_readSuccessor_98 : decode cX10_readSuccessor 98 = .ok (.getfield 38, 3) := by decide +kernel
theorem dX10_readSuccessor_101 : decode cX10_readSuccessor 101 = .ok (.bipush 34, 2) := by decide +kernel
theorem dX10_readSuccessor_103 : decode cX10_readSuccessor 103 = .ok (.iload_n 3, 1) := by decide +kernel
theorem dX10_readSuccessor_104 : decode cX10_readSuccessor 104 = .ok (.iadd, 1) := by decide +kernel
theorem dX10_readSuccessor_105 : decode cX10_readSuccessor 105 = .ok (.aload_n 0, 1) := by decide +kernel
theorem dX10_readSuccessor_106 : decode cX10_readSuccessor 106 = .ok (.invokevirtual 80, 3) := by decide +kernel
theorem dX10_readSuccessor_109 : decode cX10_readSuccessor 109 = .ok (.iastore, 1) := by decide +kernel
theorem dX10_readSuccessor_110 : decode cX10_readSuccessor 110 = .ok (.aload_n 0, 1) := by decide +kernel
theorem dX10_readSuccessor_111 : decode cX10_readSuccessor 111 = .ok (.getfield 38, 3) := by decide +kernel
theorem dX10_readSuccessor_114 : decode cX10_readSuccessor 114 = .ok (.bipush 34, 2) := by decide +kernel
theorem dX10_readSuccessor_116 : decode cX10_readSuccessor 116 = .ok (.iload_n 3, 1) := by decide +kernel
theorem dX10_readSuccessor_117 : decode cX10_readSuccessor 117 = .ok (.iadd, 1) := by decide +kernel
theorem dX10_readSuccessor_118 : decode cX10_readSuccessor 118 = .ok (.iaload, 1) := by decide +kernel
theorem dX10_readSuccessor_119 : decode cX10_readSuccessor 119 = .ok (.bipush (-9), 2) := by decide +kernel
theorem dX10_readSuccessor_121 : decode cX10_readSuccessor 121 = .ok (.if_icmp .eq 7, 3) := by decide +kernel
theorem dX10_readSuccessor_124 : decode cX10_readSuccessor 124 = .ok (.iconst 1, 1) := by decide +kernel
theorem dX10_readSuccessor_125 : decode cX10_readSuccessor 125 = .ok (.goto 4, 3) := by decide +kernel
theorem dX10_readSuccessor_128 : decode cX10_readSuccessor 128 = .ok (.iconst 0, 1) := by decide +kernel
theorem dX10_readSuccessor_129 : decode cX10_readSuccessor 129 = .ok (.ireturn, 1) := by decide +kernel
theorem dX10_readBlock_0 : decode cX10_readBlock 0 = .ok (.aload_n 0, 1) := by decide +kernel
theorem dX10_readBlock_1 : decode cX10_readBlock 1 = .ok (.getfield 35, 3) := by decide +kernel
theorem dX10_readBlock_4 : decode cX10_readBlock 4 = .ok (.iload_n 1, 1) := by decide +kernel
theorem dX10_readBlock_5 : decode cX10_readBlock 5 = .ok (.aload_n 0, 1) := by decide +kernel
theorem dX10_readBlock_6 : decode cX10_readBlock 6 = .ok (.iconst 0, 1) := by decide +kernel
theorem dX10_readBlock_7 : decode cX10_readBlock 7 = .ok (.bipush 9, 2) := by decide +kernel
theorem dX10_readBlock_9 : decode cX10_readBlock 9 = .ok (.invokevirtual 73, 3) := by decide +kernel
theorem dX10_readBlock_12 : decode cX10_readBlock 12 = .ok (.iastore, 1) := by decide +kernel
theorem dX10_readBlock_13 : decode cX10_readBlock 13 = .ok (.aload_n 0, 1) := by decide +kernel
theorem dX10_readBlock_14 : decode cX10_readBlock 14 = .ok (.getfield 35, 3) := by decide +kernel
theorem dX10_readBlock_17 : decode cX10_readBlock 17 = .ok (.iload_n 1, 1) := by decide +kernel
theorem dX10_readBlock_18 : decode cX10_readBlock 18 = .ok (.iaload, 1) := by decide +kernel
theorem dX10_readBlock_19 : decode cX10_readBlock 19 = .ok (.bipush (-9), 2) := by decide +kernel
theorem dX10_readBlock_21 : decode cX10_readBlock 21 = .ok (.if_icmp .ne 8, 3) := by decide +kernel
theorem dX10_readBlock_24 : decode cX10_readBlock 24 = .ok (.bipush (-9), 2) := by decide +kernel
theorem dX10_readBlock_26 : decode cX10_readBlock 26 = .ok (.goto 21, 3) := by decide +kernel
theorem dX10_readBlock_29 : decode cX10_readBlock 29 = .ok (.aload_n 0, 1) := by decide +kernel
theorem dX10_readBlock_30 : decode cX10_readBlock 30 = .ok (.iconst 0, 1) := by decide +kernel
theorem dX10_readBlock_31 : decode cX10_readBlock 31 = .ok (.aload_n 0, 1) := by decide +kernel
theorem dX10_readBlock_32 : decode cX10_readBlock 32 = .ok (.getfield 77, 3) := by decide +kernel
theorem dX10_readBlock_35 : decode cX10_readBlock 35 = .ok (.iconst 1, 1) := by decide +kernel
theorem dX10_readBlock_36 : decode cX10_readBlock 36 = .ok (.if_icmp .ne 7, 3) := by decide +kernel
theorem dX10_readBlock_39 : decode cX10_readBlock 39 = .ok (.iconst 1, 1) := by decide +kernel
theorem dX10_readBlock_40 : decode cX10_readBlock 40 = .ok (.goto 4, 3) := by decide +kernel
theorem dX10_readBlock_43 : decode cX10_readBlock 43 = .ok (.iconst 2, 1) := by decide +kernel
theorem dX10_readBlock_44 : decode cX10_readBlock 44 = .ok (.invokevirtual 73, 3) := by decide +kernel
theorem dX10_readBlock_47 : decode cX10_readBlock 47 = .ok (.istore_n 2, 1) := by decide +kernel
theorem dX10_readBlock_48 : decode cX10_readBlock 48 = .ok (.aload_n 0, 1) := by decide +kernel
theorem dX10_readBlock_49 : decode cX10_readBlock 49 = .ok (.getfield 38, 3) := by decide +kernel
theorem dX10_readBlock_52 : decode cX10_readBlock 52 = .ok (.bipush 10, 2) := by decide +kernel
theorem dX10_readBlock_54 : decode cX10_readBlock 54 = .ok (.iload_n 1, 1) := by decide +kernel
theorem dX10_readBlock_55 : decode cX10_readBlock 55 = .ok (.iadd, 1) := by decide +kernel
theorem dX10_readBlock_56 : decode cX10_readBlock 56 = .ok (.iload_n 2, 1) := by decide +kernel
theorem dX10_readBlock_57 : decode cX10_readBlock 57 = .ok (.iastore, 1) := by decide +kernel
theorem dX10_readBlock_58 : decode cX10_readBlock 58 = .ok (.iload_n 2, 1) := by decide +kernel
theorem dX10_readBlock_59 : decode cX10_readBlock 59 = .ok (.bipush (-9), 2) := by decide +kernel
theorem dX10_readBlock_61 : decode cX10_readBlock 61 = .ok (.if_icmp .eq 7, 3) := by decide +kernel
theorem dX10_readBlock_64 : decode cX10_readBlock 64 = .ok (.iconst 1, 1) := by decide +kernel
theorem dX10_readBlock_65 : decode cX10_readBlock 65 = .ok (.goto 4, 3) := by decide +kernel
theorem dX10_readBlock_68 : decode cX10_readBlock 68 = .ok (.iconst 0, 1) := by decide +kernel
theorem dX10_readBlock_69 : decode cX10_readBlock 69 = .ok (.istore_n 3, 1) := by decide +kernel
theorem dX10_readBlock_70 : decode cX10_readBlock 70 = .ok (.iconst 0, 1) := by decide +kernel
theorem dX10_readBlock_71 : decode cX10_readBlock 71 = .ok (.istore 4, 2) := by decide +kernel
theorem dX10_readBlock_73 : decode cX10_readBlock 73 = .ok (.iload 4, 2) := by decide +kernel
theorem dX10_readBlock_75 : decode cX10_readBlock 75 = .ok (.iload_n 2, 1) := by decide +kernel
theorem dX10_readBlock_76 : decode cX10_readBlock 76 = .ok (.if_icmp .ge 21, 3) := by decide +kernel
theorem dX10_readBlock_79 : decode cX10_readBlock 79 = .ok (.iload_n 3, 1) := by decide +kernel
theorem dX10_readBlock_80 : decode cX10_readBlock 80 = .ok (.ifCond .eq 17, 3) := by decide +kernel
theorem dX10_readBlock_83 : decode cX10_readBlock 83 = .ok (.aload_n 0, 1) := by decide +kernel
theorem dX10_readBlock_84 : decode cX10_readBlock 84 = .ok (.iload_n 1, 1) := by decide +kernel
theorem dX10_readBlock_85 : decode cX10_readBlock 85 = .ok (.iload 4, 2) := by decide +kernel
theorem dX10_readBlock_87 : decode cX10_readBlock 87 = .ok (.invokevirtual 84, 3) := by decide +kernel
theorem dX10_readBlock_90 : decode cX10_readBlock 90 = .ok (.istore_n 3, 1) := by decide +kernel
theorem dX10_readBlock_91 : decode cX10_readBlock 91 = .ok (.iinc 4 1, 3) := by decide +kernel
theorem dX10_readBlock_94 : decode cX10_readBlock 94 = .ok (.goto (-21), 3) := by decide +kernel
theorem dX10_readBlock_97 : decode cX10_readBlock 97 = .ok (.iload_n 3, 1) := by decide +kernel
theorem dX10_readBlock_98 : decode cX10_readBlock 98 = .ok (.ireturn, 1) := by decide +kernel
theorem dX10_readText_0 : decode cX10_readText 0 = .ok (.iconst 0, 1) := by decide +kernel
theorem dX10_readText_1 : decode cX10_readText 1 = .ok (.istore_n 1, 1) := by decide +kernel
theorem dX10_readText_2 : decode cX10_readText 2 = .ok (.iload_n 1, 1) := by decide +kernel
theorem dX10_readText_3 : decode cX10_readText 3 = .ok (.bipush 50, 2) := by decide +kernel
theorem dX10_readText_5 : decode cX10_readText 5 = .ok (.if_icmp .ge 16, 3) := by decide +kernel
theorem dX10_readText_8 : decode cX10_readText 8 = .ok (.aload_n 0, 1) := by decide +kernel
theorem dX10_readText_9 : decode cX10_readText 9 = .ok (.getfield 38, 3) := by decide +kernel
theorem dX10_readText_12 : decode cX10_readText 12 = .ok (.iload_n 1, 1) := by decide +kernel
theorem dX10_readText_13 : decode cX10_readText 13 = .ok (.iconst 0, 1) := by decide +kernel
theorem dX10_readText_14 : decode cX10_readText 14 = .ok (.iastore, 1) := by decide +kernel
theorem dX10_readText_15 : decode cX10_readText 15 = .ok (.iinc 1 1, 3) := by decide +kernel
theorem dX10_readText_18 : decode cX10_readText 18 = .ok (.goto (-16), 3) := by decide +kernel
theorem dX10_readText_21 : decode cX10_readText 21 = .ok (.aload_n 0, 1) := by decide +kernel
theorem dX10_readText_22 : decode cX10_readText 22 = .ok (.getfield 67, 3) := by decide +kernel
theorem dX10_readText_25 : decode cX10_readText 25 = .ok (.ifCond .eq 14, 3) := by decide +kernel
theorem dX10_readText_28 : decode cX10_readText 28 = .ok (.aload_n 0, 1) := by decide +kernel
theorem dX10_readText_29 : decode cX10_readText 29 = .ok (.getfield 7, 3) := by decide +kernel
theorem dX10_readText_32 : decode cX10_readText 32 = .ok (.iconst 0, 1) := by decide +kernel
theorem dX10_readText_33 : decode cX10_readText 33 = .ok (.iaload, 1) := by decide +kernel
theorem dX10_readText_34 : decode cX10_readText 34 = .ok (.bipush 66, 2) := by decide +kernel
theorem dX10_readText_36 : decode cX10_readText 36 = .ok (.if_icmp .eq 5, 3) := by decide +kernel
theorem dX10_readText_39 : decode cX10_readText 39 = .ok (.iconst 0, 1) := by decide +kernel
theorem dX10_readText_40 : decode cX10_readText 40 = .ok (.ireturn, 1) := by decide +kernel
theorem dX10_readText_41 : decode cX10_readText 41 = .ok (.aload_n 0, 1) := by decide +kernel
theorem dX10_readText_42 : decode cX10_readText 42 = .ok (.iconst 1, 1) := by decide +kernel
theorem dX10_readText_43 : decode cX10_readText 43 = .ok (.putfield 70, 3) := by decide +kernel
theorem dX10_readText_46 : decode cX10_readText 46 = .ok (.aload_n 0, 1) := by decide +kernel
theorem dX10_readText_47 : decode cX10_readText 47 = .ok (.aload_n 0, 1) := by decide +kernel
theorem dX10_readText_48 : decode cX10_readText 48 = .ok (.iconst 1, 1) := by decide +kernel
theorem dX10_readText_49 : decode cX10_readText 49 = .ok (.bipush 8, 2) := by decide +kernel
theorem dX10_readText_51 : decode cX10_readText 51 = .ok (.invokevirtual 73, 3) := by decide +kernel
theorem dX10_readText_54 : decode cX10_readText 54 = .ok (.putfield 77, 3) := by decide +kernel
theorem dX10_readText_57 : decode cX10_readText 57 = .ok (.aload_n 0, 1) := by decide +kernel
theorem dX10_readText_58 : decode cX10_readText 58 = .ok (.aload_n 0, 1) := by decide +kernel
theorem dX10_readText_59 : decode cX10_readText 59 = .ok (.getfield 77, 3) := by decide +kernel
theorem dX10_readText_62 : decode cX10_readText 62 = .ok (.bipush (-9), 2) := by decide +kernel
theorem dX10_readText_64 : decode cX10_readText 64 = .ok (.if_icmp .ne 8, 3) := by decide +kernel
theorem dX10_readText_67 : decode cX10_readText 67 = .ok (.bipush (-9), 2) := by decide +kernel
theorem dX10_readText_69 : decode cX10_readText 69 = .ok (.goto 7, 3) := by decide +kernel
theorem dX10_readText_72 : decode cX10_readText 72 = .ok (.aload_n 0, 1) := by decide +kernel
theorem dX10_readText_73 : decode cX10_readText 73 = .ok (.invokevirtual 80, 3) := by decide +kernel
theorem dX10_readText_76 : decode cX10_readText 76 = .ok (.putfield 88, 3) := by decide +kernel
theorem dX10_readText_79 : decode cX10_readText 79 = .ok (.aload_n 0, 1) := by decide +kernel
theorem dX10_readText_80 : decode cX10_readText 80 = .ok (.getfield 88, 3) := by decide +kernel
theorem dX10_readText_83 : decode cX10_readText 83 = .ok (.bipush (-9), 2) := by decide +kernel
theorem dX10_readText_85 : decode cX10_readText 85 = .ok (.if_icmp .ne 8, 3) := by decide +kernel
theorem dX10_readText_88 : decode cX10_readText 88 = .ok (.aload_n 0, 1) := by decide +kernel
theorem dX10_readText_89 : decode cX10_readText 89 = .ok (.getfield 70, 3) := by decide +kernel
theorem dX10_readText_92 : decode cX10_readText 92 = .ok (.ireturn, 1) := by decide +kernel
theorem dX10_readText_93 : decode cX10_readText 93 = .ok (.iconst 0, 1) := by decide +kernel
theorem dX10_readText_94 : decode cX10_readText 94 = .ok (.istore_n 1, 1) := by decide +kernel
theorem dX10_readText_95 : decode cX10_readText 95 = .ok (.iload_n 1, 1) := by decide +kernel
theorem dX10_readText_96 : decode cX10_readText 96 = .ok (.aload_n 0, 1) := by decide +kernel
theorem dX10_readText_97 : decode cX10_readText 97 = .ok (.getfield 77, 3) := by decide +kernel
theorem dX10_readText_100 : decode cX10_readText 100 = .ok (.if_icmp .ge 22, 3) := by decide +kernel
theorem dX10_readText_103 : decode cX10_readText 103 = .ok (.aload_n 0, 1) := by decide +kernel
theorem dX10_readText_104 : decode cX10_readText 104 = .ok (.iload_n 1, 1) := by decide +kernel
theorem dX10_readText_105 : decode cX10_readText 105 = .ok (.invokevirtual 91, 3) := by decide +kernel
theorem dX10_readText_108 : decode cX10_readText 108 = .ok (.ifCond .ne 8, 3) := by decide +kernel
theorem dX10_readText_111 : decode cX10_readText 111 = .ok (.aload_n 0, 1) := by decide +kernel
theorem dX10_readText_112 : decode cX10_readText 112 = .ok (.getfield 70, 3) := by decide +kernel
theorem dX10_readText_115 : decode cX10_readText 115 = .ok (.ireturn, 1) := by decide +kernel
theorem dX10_readText_116 : decode cX10_readText 116 = .ok (.iinc 1 1, 3) := by decide +kernel
theorem dX10_readText_119 : decode cX10_readText 119 = .ok (.goto (-24), 3) := by decide +kernel
theorem dX10_readText_122 : decode cX10_readText 122 = .ok (.aload_n 0, 1) := by decide +kernel
theorem dX10_readText_123 : decode cX10_readText 123 = .ok (.getfield 70, 3) := by decide +kernel
theorem dX10_readText_126 : decode cX10_readText 126 = .ok (.aload_n 0, 1) := by decide +kernel
theorem dX10_readText_127 : decode cX10_readText 127 = .ok (.getfield 67, 3) := by decide +kernel
theorem dX10_readText_130 : decode cX10_readText 130 = .ok (.if_icmp .ge 10, 3) := by decide +kernel
theorem dX10_readText_133 : decode cX10_readText 133 = .ok (.aload_n 0, 1) := by decide +kernel
theorem dX10_readText_134 : decode cX10_readText 134 = .ok (.getfield 70, 3) := by decide +kernel
theorem dX10_readText_137 : decode cX10_readText 137 = .ok (.goto 5, 3) := by decide +kernel
theorem dX10_readText_140 : decode cX10_readText 140 = .ok (.bipush (-9), 2) := by decide +kernel
theorem dX10_readText_142 : decode cX10_readText 142 = .ok (.ireturn, 1) := by decide +kernel
theorem dX10_errorPosition_0 : decode cX10_errorPosition 0 = .ok (.aload_n 0, 1) := by decide +kernel
theorem dX10_errorPosition_1 : decode cX10_errorPosition 1 = .ok (.invokevirtual 94, 3) := by decide +kernel
theorem dX10_errorPosition_4 : decode cX10_errorPosition 4 = .ok (.ireturn, 1) := by decide +kernel
theorem dX10_load_0 : decode cX10_load 0 = .ok (.aload_n 0, 1) := by decide +kernel
theorem dX10_load_1 : decode cX10_load 1 = .ok (.invokevirtual 94, 3) := by decide +kernel
theorem dX10_load_4 : decode cX10_load 4 = .ok (.bipush (-9), 2) := by decide +kernel
theorem dX10_load_6 : decode cX10_load 6 = .ok (.if_icmp .eq 6, 3) := by decide +kernel
theorem dX10_load_9 : decode cX10_load 9 = .ok (.bipush (-3), 2) := by decide +kernel
theorem dX10_load_11 : decode cX10_load 11 = .ok (.ireturn, 1) := by decide +kernel
theorem dX10_load_12 : decode cX10_load 12 = .ok (.aload_n 0, 1) := by decide +kernel
theorem dX10_load_13 : decode cX10_load 13 = .ok (.aload_n 0, 1) := by decide +kernel
theorem dX10_load_14 : decode cX10_load 14 = .ok (.getfield 77, 3) := by decide +kernel
theorem dX10_load_17 : decode cX10_load 17 = .ok (.putfield 53, 3) := by decide +kernel
theorem dX10_load_20 : decode cX10_load 20 = .ok (.aload_n 0, 1) := by decide +kernel
theorem dX10_load_21 : decode cX10_load 21 = .ok (.aload_n 0, 1) := by decide +kernel
theorem dX10_load_22 : decode cX10_load 22 = .ok (.getfield 88, 3) := by decide +kernel
theorem dX10_load_25 : decode cX10_load 25 = .ok (.putfield 97, 3) := by decide +kernel
theorem dX10_load_28 : decode cX10_load 28 = .ok (.aload_n 0, 1) := by decide +kernel
theorem dX10_load_29 : decode cX10_load 29 = .ok (.getfield 38, 3) := by decide +kernel
theorem dX10_load_32 : decode cX10_load 32 = .ok (.aload_n 0, 1) := by decide +kernel
theorem dX10_load_33 : decode cX10_load 33 = .ok (.getfield 16, 3) := by decide +kernel
theorem dX10_load_36 : decode cX10_load 36 = .ok (.invokestatic 100, 3) := by decide +kernel
theorem dX10_load_39 : decode cX10_load 39 = .ok (.aload_n 0, 1) := by decide +kernel
theorem dX10_load_40 : decode cX10_load 40 = .ok (.getfield 16, 3) := by decide +kernel
theorem dX10_load_43 : decode cX10_load 43 = .ok (.iconst 0, 1) := by decide +kernel
theorem dX10_load_44 : decode cX10_load 44 = .ok (.aload_n 0, 1) := by decide +kernel
theorem dX10_load_45 : decode cX10_load 45 = .ok (.getfield 53, 3) := by decide +kernel
theorem dX10_load_48 : decode cX10_load 48 = .ok (.iastore, 1) := by decide +kernel
theorem dX10_load_49 : decode cX10_load 49 = .ok (.aload_n 0, 1) := by decide +kernel
theorem dX10_load_50 : decode cX10_load 50 = .ok (.getfield 16, 3) := by decide +kernel
theorem dX10_load_53 : decode cX10_load 53 = .ok (.iconst 1, 1) := by decide +kernel
theorem dX10_load_54 : decode cX10_load 54 = .ok (.iconst 1, 1) := by decide +kernel
theorem dX10_load_55 : decode cX10_load 55 = .ok (.iastore, 1) := by decide +kernel
theorem dX10_load_56 : decode cX10_load 56 = .ok (.iconst 0, 1) := by decide +kernel
theorem dX10_load_57 : decode cX10_load 57 = .ok (.istore_n 1, 1) := by decide +kernel
theorem dX10_load_58 : decode cX10_load 58 = .ok (.iload_n 1, 1) := by decide +kernel
theorem dX10_load_59 : decode cX10_load 59 = .ok (.aload_n 0, 1) := by decide +kernel
theorem dX10_load_60 : decode cX10_load 60 = .ok (.getfield 53, 3) := by decide +kernel
theorem dX10_load_63 : decode cX10_load 63 = .ok (.if_icmp .ge 30, 3) := by decide +kernel
theorem dX10_load_66 : decode cX10_load 66 = .ok (.aload_n 0, 1) := by decide +kernel
theorem dX10_load_67 : decode cX10_load 67 = .ok (.getfield 13, 3) := by decide +kernel
theorem dX10_load_70 : decode cX10_load 70 = .ok (.iload_n 1, 1) := by decide +kernel
theorem dX10_load_71 : decode cX10_load 71 = .ok (.aload_n 0, 1) := by decide +kernel
theorem dX10_load_72 : decode cX10_load 72 = .ok (.getfield 35, 3) := by decide +kernel
theorem dX10_load_75 : decode cX10_load 75 = .ok (.iload_n 1, 1) := by decide +kernel
theorem dX10_load_76 : decode cX10_load 76 = .ok (.iaload, 1) := by decide +kernel
theorem dX10_load_77 : decode cX10_load 77 = .ok (.iastore, 1) := by decide +kernel
theorem dX10_load_78 : decode cX10_load 78 = .ok (.aload_n 0, 1) := by decide +kernel
theorem dX10_load_79 : decode cX10_load 79 = .ok (.getfield 16, 3) := by decide +kernel
theorem dX10_load_82 : decode cX10_load 82 = .ok (.iconst 2, 1) := by decide +kernel
theorem dX10_load_83 : decode cX10_load 83 = .ok (.iload_n 1, 1) := by decide +kernel
theorem dX10_load_84 : decode cX10_load 84 = .ok (.iadd, 1) := by decide +kernel
theorem dX10_load_85 : decode cX10_load 85 = .ok (.iload_n 1, 1) := by decide +kernel
theorem dX10_load_86 : decode cX10_load 86 = .ok (.iastore, 1) := by decide +kernel
theorem dX10_load_87 : decode cX10_load 87 = .ok (.iinc 1 1, 3) := by decide +kernel
theorem dX10_load_90 : decode cX10_load 90 = .ok (.goto (-32), 3) := by decide +kernel
theorem dX10_load_93 : decode cX10_load 93 = .ok (.aload_n 0, 1) := by decide +kernel
theorem dX10_load_94 : decode cX10_load 94 = .ok (.iconst 0, 1) := by decide +kernel
theorem dX10_load_95 : decode cX10_load 95 = .ok (.putfield 104, 3) := by decide +kernel
theorem dX10_load_98 : decode cX10_load 98 = .ok (.aload_n 0, 1) := by decide +kernel
theorem dX10_load_99 : decode cX10_load 99 = .ok (.getfield 31, 3) := by decide +kernel
theorem dX10_load_102 : decode cX10_load 102 = .ok (.iconst 0, 1) := by decide +kernel
theorem dX10_load_103 : decode cX10_load 103 = .ok (.iconst 0, 1) := by decide +kernel
theorem dX10_load_104 : decode cX10_load 104 = .ok (.bastore, 1) := by decide +kernel
theorem dX10_load_105 : decode cX10_load 105 = .ok (.aload_n 0, 1) := by decide +kernel
theorem dX10_load_106 : decode cX10_load 106 = .ok (.getfield 31, 3) := by decide +kernel
theorem dX10_load_109 : decode cX10_load 109 = .ok (.iconst 1, 1) := by decide +kernel
theorem dX10_load_110 : decode cX10_load 110 = .ok (.iconst 0, 1) := by decide +kernel
theorem dX10_load_111 : decode cX10_load 111 = .ok (.bastore, 1) := by decide +kernel
theorem dX10_load_112 : decode cX10_load 112 = .ok (.aload_n 0, 1) := by decide +kernel
theorem dX10_load_113 : decode cX10_load 113 = .ok (.getfield 53, 3) := by decide +kernel
theorem dX10_load_116 : decode cX10_load 116 = .ok (.ireturn, 1) := by decide +kernel
theorem dX10_blockCount_0 : decode cX10_blockCount 0 = .ok (.aload_n 0, 1) := by decide +kernel
theorem dX10_blockCount_1 : decode cX10_blockCount 1 = .ok (.getfield 53, 3) := by decide +kernel
theorem dX10_blockCount_4 : decode cX10_blockCount 4 = .ok (.ireturn, 1) := by decide +kernel
theorem dX10_size_0 : decode cX10_size 0 = .ok (.aload_n 0, 1) := by decide +kernel
theorem dX10_size_1 : decode cX10_size 1 = .ok (.iload_n 1, 1) := by decide +kernel
theorem dX10_size_2 : decode cX10_size 2 = .ok (.invokevirtual 61, 3) := by decide +kernel
theorem dX10_size_5 : decode cX10_size 5 = .ok (.ifCond .eq 12, 3) := by decide +kernel
theorem dX10_size_8 : decode cX10_size 8 = .ok (.aload_n 0, 1) := by decide +kernel
theorem dX10_size_9 : decode cX10_size 9 = .ok (.getfield 13, 3) := by decide +kernel
theorem dX10_size_12 : decode cX10_size 12 = .ok (.iload_n 1, 1) := by decide +kernel
theorem dX10_size_13 : decode cX10_size 13 = .ok (.iaload, 1) := by decide +kernel
theorem dX10_size_14 : decode cX10_size 14 = .ok (.goto 4, 3) := by decide +kernel
theorem dX10_size_17 : decode cX10_size 17 = .ok (.iconst (-1), 1) := by decide +kernel
theorem dX10_size_18 : decode cX10_size 18 = .ok (.ireturn, 1) := by decide +kernel
theorem dX10_successor_0 : decode cX10_successor 0 = .ok (.aload_n 0, 1) := by decide +kernel
theorem dX10_successor_1 : decode cX10_successor 1 = .ok (.iload_n 1, 1) := by decide +kernel
theorem dX10_successor_2 : decode cX10_successor 2 = .ok (.iload_n 2, 1) := by decide +kernel
theorem dX10_successor_3 : decode cX10_successor 3 = .ok (.invokevirtual 107, 3) := by decide +kernel
theorem dX10_successor_6 : decode cX10_successor 6 = .ok (.ifCond .eq 19, 3) := by decide +kernel
theorem dX10_successor_9 : decode cX10_successor 9 = .ok (.aload_n 0, 1) := by decide +kernel
theorem dX10_successor_10 : decode cX10_successor 10 = .ok (.getfield 16, 3) := by decide +kernel
theorem dX10_successor_13 : decode cX10_successor 13 = .ok (.bipush 18, 2) := by decide +kernel
theorem dX10_successor_15 : decode cX10_successor 15 = .ok (.iconst 2, 1) := by decide +kernel
theorem dX10_successor_16 : decode cX10_successor 16 = .ok (.iload_n 1, 1) := by decide +kernel
theorem dX10_successor_17 : decode cX10_successor 17 = .ok (.imul, 1) := by decide +kernel
theorem dX10_successor_18 : decode cX10_successor 18 = .ok (.iadd, 1) := by decide +kernel
theorem dX10_successor_19 : decode cX10_successor 19 = .ok (.iload_n 2, 1) := by decide +kernel
theorem dX10_successor_20 : decode cX10_successor 20 = .ok (.iadd, 1) := by decide +kernel
theorem dX10_successor_21 : decode cX10_successor 21 = .ok (.iaload, 1) := by decide +kernel
theorem dX10_successor_22 : decode cX10_successor 22 = .ok (.goto 4, 3) := by decide +kernel
theorem dX10_successor_25 : decode cX10_successor 25 = .ok (.iconst (-1), 1) := by decide +kernel
theorem dX10_successor_26 : decode cX10_successor 26 = .ok (.ireturn, 1) := by decide +kernel
theorem dX10_edgeCount_0 : decode cX10_edgeCount 0 = .ok (.aload_n 0, 1) := by decide +kernel
theorem dX10_edgeCount_1 : decode cX10_edgeCount 1 = .ok (.iload_n 1, 1) := by decide +kernel
theorem dX10_edgeCount_2 : decode cX10_edgeCount 2 = .ok (.iload_n 2, 1) := by decide +kernel
theorem dX10_edgeCount_3 : decode cX10_edgeCount 3 = .ok (.invokevirtual 107, 3) := by decide +kernel
theorem dX10_edgeCount_6 : decode cX10_edgeCount 6 = .ok (.ifCond .eq 19, 3) := by decide +kernel
theorem dX10_edgeCount_9 : decode cX10_edgeCount 9 = .ok (.aload_n 0, 1) := by decide +kernel
theorem dX10_edgeCount_10 : decode cX10_edgeCount 10 = .ok (.getfield 16, 3) := by decide +kernel
theorem dX10_edgeCount_13 : decode cX10_edgeCount 13 = .ok (.bipush 34, 2) := by decide +kernel
theorem dX10_edgeCount_15 : decode cX10_edgeCount 15 = .ok (.iconst 2, 1) := by decide +kernel
theorem dX10_edgeCount_16 : decode cX10_edgeCount 16 = .ok (.iload_n 1, 1) := by decide +kernel
theorem dX10_edgeCount_17 : decode cX10_edgeCount 17 = .ok (.imul, 1) := by decide +kernel
theorem dX10_edgeCount_18 : decode cX10_edgeCount 18 = .ok (.iadd, 1) := by decide +kernel
theorem dX10_edgeCount_19 : decode cX10_edgeCount 19 = .ok (.iload_n 2, 1) := by decide +kernel
theorem dX10_edgeCount_20 : decode cX10_edgeCount 20 = .ok (.iadd, 1) := by decide +kernel
theorem dX10_edgeCount_21 : decode cX10_edgeCount 21 = .ok (.iaload, 1) := by decide +kernel
theorem dX10_edgeCount_22 : decode cX10_edgeCount 22 = .ok (.goto 4, 3) := by decide +kernel
theorem dX10_edgeCount_25 : decode cX10_edgeCount 25 = .ok (.iconst (-1), 1) := by decide +kernel
theorem dX10_edgeCount_26 : decode cX10_edgeCount 26 = .ok (.ireturn, 1) := by decide +kernel
theorem dX10_executionsOf_0 : decode cX10_executionsOf 0 = .ok (.iload_n 2, 1) := by decide +kernel
theorem dX10_executionsOf_1 : decode cX10_executionsOf 1 = .ok (.ifCond .ne 10, 3) := by decide +kernel
theorem dX10_executionsOf_4 : decode cX10_executionsOf 4 = .ok (.aload_n 0, 1) := by decide +kernel
theorem dX10_executionsOf_5 : decode cX10_executionsOf 5 = .ok (.getfield 97, 3) := by decide +kernel
theorem dX10_executionsOf_8 : decode cX10_executionsOf 8 = .ok (.goto 4, 3) := by decide +kernel
theorem dX10_executionsOf_11 : decode cX10_executionsOf 11 = .ok (.iconst 0, 1) := by decide +kernel
theorem dX10_executionsOf_12 : decode cX10_executionsOf 12 = .ok (.istore_n 3, 1) := by decide +kernel
theorem dX10_executionsOf_13 : decode cX10_executionsOf 13 = .ok (.iconst 0, 1) := by decide +kernel
theorem dX10_executionsOf_14 : decode cX10_executionsOf 14 = .ok (.istore 4, 2) := by decide +kernel
theorem dX10_executionsOf_16 : decode cX10_executionsOf 16 = .ok (.iload 4, 2) := by decide +kernel
theorem dX10_executionsOf_18 : decode cX10_executionsOf 18 = .ok (.aload_n 0, 1) := by decide +kernel
theorem dX10_executionsOf_19 : decode cX10_executionsOf 19 = .ok (.getfield 53, 3) := by decide +kernel
theorem dX10_executionsOf_22 : decode cX10_executionsOf 22 = .ok (.if_icmp .ge 65, 3) := by decide +kernel
theorem dX10_executionsOf_25 : decode cX10_executionsOf 25 = .ok (.iconst 0, 1) := by decide +kernel
theorem dX10_executionsOf_26 : decode cX10_executionsOf 26 = .ok (.istore 5, 2) := by decide +kernel
theorem dX10_executionsOf_28 : decode cX10_executionsOf 28 = .ok (.iload 5, 2) := by decide +kernel
theorem dX10_executionsOf_30 : decode cX10_executionsOf 30 = .ok (.aload_n 1, 1) := by decide +kernel
theorem dX10_executionsOf_31 : decode cX10_executionsOf 31 = .ok (.bipush 10, 2) := by decide +kernel
theorem dX10_executionsOf_33 : decode cX10_executionsOf 33 = .ok (.iload 4, 2) := by decide +kernel
theorem dX10_executionsOf_35 : decode cX10_executionsOf 35 = .ok (.iadd, 1) := by decide +kernel
theorem dX10_executionsOf_36 : decode cX10_executionsOf 36 = .ok (.iaload, 1) := by decide +kernel
theorem dX10_executionsOf_37 : decode cX10_executionsOf 37 = .ok (.if_icmp .ge 44, 3) := by decide +kernel
theorem dX10_executionsOf_40 : decode cX10_executionsOf 40 = .ok (.iload_n 3, 1) := by decide +kernel
theorem dX10_executionsOf_41 : decode cX10_executionsOf 41 = .ok (.aload_n 1, 1) := by decide +kernel
theorem dX10_executionsOf_42 : decode cX10_executionsOf 42 = .ok (.bipush 18, 2) := by decide +kernel
theorem dX10_executionsOf_44 : decode cX10_executionsOf 44 = .ok (.iconst 2, 1) := by decide +kernel
theorem dX10_executionsOf_45 : decode cX10_executionsOf 45 = .ok (.iload 4, 2) := by decide +kernel
theorem dX10_executionsOf_47 : decode cX10_executionsOf 47 = .ok (.imul, 1) := by decide +kernel
theorem dX10_executionsOf_48 : decode cX10_executionsOf 48 = .ok (.iadd, 1) := by decide +kernel
theorem dX10_executionsOf_49 : decode cX10_executionsOf 49 = .ok (.iload 5, 2) := by decide +kernel
theorem dX10_executionsOf_51 : decode cX10_executionsOf 51 = .ok (.iadd, 1) := by decide +kernel
theorem dX10_executionsOf_52 : decode cX10_executionsOf 52 = .ok (.iaload, 1) := by decide +kernel
theorem dX10_executionsOf_53 : decode cX10_executionsOf 53 = .ok (.iload_n 2, 1) := by decide +kernel
theorem dX10_executionsOf_54 : decode cX10_executionsOf 54 = .ok (.if_icmp .ne 18, 3) := by decide +kernel
theorem dX10_executionsOf_57 : decode cX10_executionsOf 57 = .ok (.aload_n 1, 1) := by decide +kernel
theorem dX10_executionsOf_58 : decode cX10_executionsOf 58 = .ok (.bipush 34, 2) := by decide +kernel
theorem dX10_executionsOf_60 : decode cX10_executionsOf 60 = .ok (.iconst 2, 1) := by decide +kernel
theorem dX10_executionsOf_61 : decode cX10_executionsOf 61 = .ok (.iload 4, 2) := by decide +kernel
theorem dX10_executionsOf_63 : decode cX10_executionsOf 63 = .ok (.imul, 1) := by decide +kernel
theorem dX10_executionsOf_64 : decode cX10_executionsOf 64 = .ok (.iadd, 1) := by decide +kernel
theorem dX10_executionsOf_65 : decode cX10_executionsOf 65 = .ok (.iload 5, 2) := by decide +kernel
theorem dX10_executionsOf_67 : decode cX10_executionsOf 67 = .ok (.iadd, 1) := by decide +kernel
theorem dX10_executionsOf_68 : decode cX10_executionsOf 68 = .ok (.iaload, 1) := by decide +kernel
theorem dX10_executionsOf_69 : decode cX10_executionsOf 69 = .ok (.goto 4, 3) := by decide +kernel
theorem dX10_executionsOf_72 : decode cX10_executionsOf 72 = .ok (.iconst 0, 1) := by decide +kernel
theorem dX10_executionsOf_73 : decode cX10_executionsOf 73 = .ok (.iadd, 1) := by decide +kernel
theorem dX10_executionsOf_74 : decode cX10_executionsOf 74 = .ok (.istore_n 3, 1) := by decide +kernel
theorem dX10_executionsOf_75 : decode cX10_executionsOf 75 = .ok (.iinc 5 1, 3) := by decide +kernel
theorem dX10_executionsOf_78 : decode cX10_executionsOf 78 = .ok (.goto (-50), 3) := by decide +kernel
theorem dX10_executionsOf_81 : decode cX10_executionsOf 81 = .ok (.iinc 4 1, 3) := by decide +kernel
theorem dX10_executionsOf_84 : decode cX10_executionsOf 84 = .ok (.goto (-68), 3) := by decide +kernel
theorem dX10_executionsOf_87 : decode cX10_executionsOf 87 = .ok (.iload_n 3, 1) := by decide +kernel
theorem dX10_executionsOf_88 : decode cX10_executionsOf 88 = .ok (.ireturn, 1) := by decide +kernel
theorem dX10_executions_0 : decode cX10_executions 0 = .ok (.aload_n 0, 1) := by decide +kernel
theorem dX10_executions_1 : decode cX10_executions 1 = .ok (.iload_n 1, 1) := by decide +kernel
theorem dX10_executions_2 : decode cX10_executions 2 = .ok (.invokevirtual 61, 3) := by decide +kernel
theorem dX10_executions_5 : decode cX10_executions 5 = .ok (.ifCond .eq 15, 3) := by decide +kernel
theorem dX10_executions_8 : decode cX10_executions 8 = .ok (.aload_n 0, 1) := by decide +kernel
theorem dX10_executions_9 : decode cX10_executions 9 = .ok (.aload_n 0, 1) := by decide +kernel
theorem dX10_executions_10 : decode cX10_executions 10 = .ok (.getfield 16, 3) := by decide +kernel
theorem dX10_executions_13 : decode cX10_executions 13 = .ok (.iload_n 1, 1) := by decide +kernel
theorem dX10_executions_14 : decode cX10_executions 14 = .ok (.invokevirtual 110, 3) := by decide +kernel
theorem dX10_executions_17 : decode cX10_executions 17 = .ok (.goto 4, 3) := by decide +kernel
theorem dX10_executions_20 : decode cX10_executions 20 = .ok (.iconst (-1), 1) := by decide +kernel
theorem dX10_executions_21 : decode cX10_executions 21 = .ok (.ireturn, 1) := by decide +kernel
theorem dX10_positionOf_0 : decode cX10_positionOf 0 = .ok (.iconst 0, 1) := by decide +kernel
theorem dX10_positionOf_1 : decode cX10_positionOf 1 = .ok (.istore_n 3, 1) := by decide +kernel
theorem dX10_positionOf_2 : decode cX10_positionOf 2 = .ok (.iconst 0, 1) := by decide +kernel
theorem dX10_positionOf_3 : decode cX10_positionOf 3 = .ok (.istore 4, 2) := by decide +kernel
theorem dX10_positionOf_5 : decode cX10_positionOf 5 = .ok (.iload 4, 2) := by decide +kernel
theorem dX10_positionOf_7 : decode cX10_positionOf 7 = .ok (.aload_n 0, 1) := by decide +kernel
theorem dX10_positionOf_8 : decode cX10_positionOf 8 = .ok (.getfield 53, 3) := by decide +kernel
theorem dX10_positionOf_11 : decode cX10_positionOf 11 = .ok (.if_icmp .ge 26, 3) := by decide +kernel
theorem dX10_positionOf_14 : decode cX10_positionOf 14 = .ok (.aload_n 1, 1) := by decide +kernel
theorem dX10_positionOf_15 : decode cX10_positionOf 15 = .ok (.iconst 2, 1) := by decide +kernel
theorem dX10_positionOf_16 : decode cX10_positionOf 16 = .ok (.iload 4, 2) := by decide +kernel
theorem dX10_positionOf_18 : decode cX10_positionOf 18 = .ok (.iadd, 1) := by decide +kernel
theorem dX10_positionOf_19 : decode cX10_positionOf 19 = .ok (.iaload, 1) := by decide +kernel
theorem dX10_positionOf_20 : decode cX10_positionOf 20 = .ok (.iload_n 2, 1) := by decide +kernel
theorem dX10_positionOf_21 : decode cX10_positionOf 21 = .ok (.if_icmp .ne 8, 3) := by decide +kernel
theorem dX10_positionOf_24 : decode cX10_positionOf 24 = .ok (.iload 4, 2) := by decide +kernel
theorem dX10_positionOf_26 : decode cX10_positionOf 26 = .ok (.goto 4, 3) := by decide +kernel
theorem dX10_positionOf_29 : decode cX10_positionOf 29 = .ok (.iload_n 3, 1) := by decide +kernel
theorem dX10_positionOf_30 : decode cX10_positionOf 30 = .ok (.istore_n 3, 1) := by decide +kernel
theorem dX10_positionOf_31 : decode cX10_positionOf 31 = .ok (.iinc 4 1, 3) := by decide +kernel
theorem dX10_positionOf_34 : decode cX10_positionOf 34 = .ok (.goto (-29), 3) := by decide +kernel
theorem dX10_positionOf_37 : decode cX10_positionOf 37 = .ok (.iload_n 3, 1) := by decide +kernel
theorem dX10_positionOf_38 : decode cX10_positionOf 38 = .ok (.ireturn, 1) := by decide +kernel
theorem dX10_followerOf_0 : decode cX10_followerOf 0 = .ok (.aload_n 0, 1) := by decide +kernel
theorem dX10_followerOf_1 : decode cX10_followerOf 1 = .ok (.aload_n 1, 1) := by decide +kernel
theorem dX10_followerOf_2 : decode cX10_followerOf 2 = .ok (.iload_n 2, 1) := by decide +kernel
theorem dX10_followerOf_3 : decode cX10_followerOf 3 = .ok (.invokevirtual 114, 3) := by decide +kernel
theorem dX10_followerOf_6 : decode cX10_followerOf 6 = .ok (.istore_n 3, 1) := by decide +kernel
theorem dX10_followerOf_7 : decode cX10_followerOf 7 = .ok (.iload_n 3, 1) := by decide +kernel
theorem dX10_followerOf_8 : decode cX10_followerOf 8 = .ok (.iconst 1, 1) := by decide +kernel
theorem dX10_followerOf_9 : decode cX10_followerOf 9 = .ok (.iadd, 1) := by decide +kernel
theorem dX10_followerOf_10 : decode cX10_followerOf 10 = .ok (.aload_n 0, 1) := by decide +kernel
theorem dX10_followerOf_11 : decode cX10_followerOf 11 = .ok (.getfield 53, 3) := by decide +kernel
theorem dX10_followerOf_14 : decode cX10_followerOf 14 = .ok (.if_icmp .ge 36, 3) := by decide +kernel
theorem dX10_followerOf_17 : decode cX10_followerOf 17 = .ok (.iload_n 3, 1) := by decide +kernel
theorem dX10_followerOf_18 : decode cX10_followerOf 18 = .ok (.aload_n 1, 1) := by decide +kernel
theorem dX10_followerOf_19 : decode cX10_followerOf 19 = .ok (.iconst 0, 1) := by decide +kernel
theorem dX10_followerOf_20 : decode cX10_followerOf 20 = .ok (.iaload, 1) := by decide +kernel
theorem dX10_followerOf_21 : decode cX10_followerOf 21 = .ok (.if_icmp .ge 7, 3) := by decide +kernel
theorem dX10_followerOf_24 : decode cX10_followerOf 24 = .ok (.iconst 1, 1) := by decide +kernel
theorem dX10_followerOf_25 : decode cX10_followerOf 25 = .ok (.goto 4, 3) := by decide +kernel
theorem dX10_followerOf_28 : decode cX10_followerOf 28 = .ok (.iconst 0, 1) := by decide +kernel
theorem dX10_followerOf_29 : decode cX10_followerOf 29 = .ok (.iload_n 3, 1) := by decide +kernel
theorem dX10_followerOf_30 : decode cX10_followerOf 30 = .ok (.iconst 1, 1) := by decide +kernel
theorem dX10_followerOf_31 : decode cX10_followerOf 31 = .ok (.iadd, 1) := by decide +kernel
theorem dX10_followerOf_32 : decode cX10_followerOf 32 = .ok (.aload_n 1, 1) := by decide +kernel
theorem dX10_followerOf_33 : decode cX10_followerOf 33 = .ok (.iconst 0, 1) := by decide +kernel
theorem dX10_followerOf_34 : decode cX10_followerOf 34 = .ok (.iaload, 1) := by decide +kernel
theorem dX10_followerOf_35 : decode cX10_followerOf 35 = .ok (.if_icmp .ge 7, 3) := by decide +kernel
theorem dX10_followerOf_38 : decode cX10_followerOf 38 = .ok (.iconst 1, 1) := by decide +kernel
theorem dX10_followerOf_39 : decode cX10_followerOf 39 = .ok (.goto 4, 3) := by decide +kernel
theorem dX10_followerOf_42 : decode cX10_followerOf 42 = .ok (.iconst 0, 1) := by decide +kernel
theorem dX10_followerOf_43 : decode cX10_followerOf 43 = .ok (.if_icmp .ne 7, 3) := by decide +kernel
theorem dX10_followerOf_46 : decode cX10_followerOf 46 = .ok (.iconst 1, 1) := by decide +kernel
theorem dX10_followerOf_47 : decode cX10_followerOf 47 = .ok (.goto 4, 3) := by decide +kernel
theorem dX10_followerOf_50 : decode cX10_followerOf 50 = .ok (.iconst 0, 1) := by decide +kernel
theorem dX10_followerOf_51 : decode cX10_followerOf 51 = .ok (.istore 4, 2) := by decide +kernel
theorem dX10_followerOf_53 : decode cX10_followerOf 53 = .ok (.iload 4, 2) := by decide +kernel
theorem dX10_followerOf_55 : decode cX10_followerOf 55 = .ok (.ifCond .eq 13, 3) := by decide +kernel
theorem dX10_followerOf_58 : decode cX10_followerOf 58 = .ok (.aload_n 1, 1) := by decide +kernel
theorem dX10_followerOf_59 : decode cX10_followerOf 59 = .ok (.iconst 2, 1) := by decide +kernel
theorem dX10_followerOf_60 : decode cX10_followerOf 60 = .ok (.iload_n 3, 1) := by decide +kernel
theorem dX10_followerOf_61 : decode cX10_followerOf 61 = .ok (.iadd, 1) := by decide +kernel
theorem dX10_followerOf_62 : decode cX10_followerOf 62 = .ok (.iconst 1, 1) := by decide +kernel
theorem dX10_followerOf_63 : decode cX10_followerOf 63 = .ok (.iadd, 1) := by decide +kernel
theorem dX10_followerOf_64 : decode cX10_followerOf 64 = .ok (.iaload, 1) := by decide +kernel
theorem dX10_followerOf_65 : decode cX10_followerOf 65 = .ok (.goto 5, 3) := by decide +kernel
theorem dX10_followerOf_68 : decode cX10_followerOf 68 = .ok (.bipush (-9), 2) := by decide +kernel
theorem dX10_followerOf_70 : decode cX10_followerOf 70 = .ok (.ireturn, 1) := by decide +kernel
theorem dX10_edgeCostOf_0 : decode cX10_edgeCostOf 0 = .ok (.aload_n 0, 1) := by decide +kernel
theorem dX10_edgeCostOf_1 : decode cX10_edgeCostOf 1 = .ok (.aload_n 1, 1) := by decide +kernel
theorem dX10_edgeCostOf_2 : decode cX10_edgeCostOf 2 = .ok (.iload_n 2, 1) := by decide +kernel
theorem dX10_edgeCostOf_3 : decode cX10_edgeCostOf 3 = .ok (.invokevirtual 117, 3) := by decide +kernel
theorem dX10_edgeCostOf_6 : decode cX10_edgeCostOf 6 = .ok (.istore 4, 2) := by decide +kernel
theorem dX10_edgeCostOf_8 : decode cX10_edgeCostOf 8 = .ok (.aload_n 1, 1) := by decide +kernel
theorem dX10_edgeCostOf_9 : decode cX10_edgeCostOf 9 = .ok (.bipush 18, 2) := by decide +kernel
theorem dX10_edgeCostOf_11 : decode cX10_edgeCostOf 11 = .ok (.iconst 2, 1) := by decide +kernel
theorem dX10_edgeCostOf_12 : decode cX10_edgeCostOf 12 = .ok (.iload_n 2, 1) := by decide +kernel
theorem dX10_edgeCostOf_13 : decode cX10_edgeCostOf 13 = .ok (.imul, 1) := by decide +kernel
theorem dX10_edgeCostOf_14 : decode cX10_edgeCostOf 14 = .ok (.iadd, 1) := by decide +kernel
theorem dX10_edgeCostOf_15 : decode cX10_edgeCostOf 15 = .ok (.iload_n 3, 1) := by decide +kernel
theorem dX10_edgeCostOf_16 : decode cX10_edgeCostOf 16 = .ok (.iadd, 1) := by decide +kernel
theorem dX10_edgeCostOf_17 : decode cX10_edgeCostOf 17 = .ok (.iaload, 1) := by decide +kernel
theorem dX10_edgeCostOf_18 : decode cX10_edgeCostOf 18 = .ok (.iload 4, 2) := by decide +kernel
theorem dX10_edgeCostOf_20 : decode cX10_edgeCostOf 20 = .ok (.if_icmp .ne 5, 3) := by decide +kernel
theorem dX10_edgeCostOf_23 : decode cX10_edgeCostOf 23 = .ok (.iconst 0, 1) := by decide +kernel
theorem dX10_edgeCostOf_24 : decode cX10_edgeCostOf 24 = .ok (.ireturn, 1) := by decide +kernel
theorem dX10_edgeCostOf_25 : decode cX10_edgeCostOf 25 = .ok (.aload_n 1, 1) := by decide +kernel
theorem dX10_edgeCostOf_26 : decode cX10_edgeCostOf 26 = .ok (.bipush 10, 2) := by decide +kernel
theorem dX10_edgeCostOf_28 : decode cX10_edgeCostOf 28 = .ok (.iload_n 2, 1) := by decide +kernel
theorem dX10_edgeCostOf_29 : decode cX10_edgeCostOf 29 = .ok (.iadd, 1) := by decide +kernel
theorem dX10_edgeCostOf_30 : decode cX10_edgeCostOf 30 = .ok (.iaload, 1) := by decide +kernel
theorem dX10_edgeCostOf_31 : decode cX10_edgeCostOf 31 = .ok (.iconst 1, 1) := by decide +kernel
theorem dX10_edgeCostOf_32 : decode cX10_edgeCostOf 32 = .ok (.if_icmp .ne 5, 3) := by decide +kernel
theorem dX10_edgeCostOf_35 : decode cX10_edgeCostOf 35 = .ok (.iconst 2, 1) := by decide +kernel
theorem dX10_edgeCostOf_36 : decode cX10_edgeCostOf 36 = .ok (.ireturn, 1) := by decide +kernel
theorem dX10_edgeCostOf_37 : decode cX10_edgeCostOf 37 = .ok (.aload_n 1, 1) := by decide +kernel
theorem dX10_edgeCostOf_38 : decode cX10_edgeCostOf 38 = .ok (.bipush 18, 2) := by decide +kernel
theorem dX10_edgeCostOf_40 : decode cX10_edgeCostOf 40 = .ok (.iconst 2, 1) := by decide +kernel
theorem dX10_edgeCostOf_41 : decode cX10_edgeCostOf 41 = .ok (.iload_n 2, 1) := by decide +kernel
theorem dX10_edgeCostOf_42 : decode cX10_edgeCostOf 42 = .ok (.imul, 1) := by decide +kernel
theorem dX10_edgeCostOf_43 : decode cX10_edgeCostOf 43 = .ok (.iadd, 1) := by decide +kernel
theorem dX10_edgeCostOf_44 : decode cX10_edgeCostOf 44 = .ok (.iconst 1, 1) := by decide +kernel
theorem dX10_edgeCostOf_45 : decode cX10_edgeCostOf 45 = .ok (.iadd, 1) := by decide +kernel
theorem dX10_edgeCostOf_46 : decode cX10_edgeCostOf 46 = .ok (.iload_n 3, 1) := by decide +kernel
theorem dX10_edgeCostOf_47 : decode cX10_edgeCostOf 47 = .ok (.isub, 1) := by decide +kernel
theorem dX10_edgeCostOf_48 : decode cX10_edgeCostOf 48 = .ok (.iaload, 1) := by decide +kernel
theorem dX10_edgeCostOf_49 : decode cX10_edgeCostOf 49 = .ok (.iload 4, 2) := by decide +kernel
theorem dX10_edgeCostOf_51 : decode cX10_edgeCostOf 51 = .ok (.if_icmp .ne 5, 3) := by decide +kernel
theorem dX10_edgeCostOf_54 : decode cX10_edgeCostOf 54 = .ok (.iconst 3, 1) := by decide +kernel
theorem dX10_edgeCostOf_55 : decode cX10_edgeCostOf 55 = .ok (.ireturn, 1) := by decide +kernel
theorem dX10_edgeCostOf_56 : decode cX10_edgeCostOf 56 = .ok (.aload_n 1, 1) := by decide +kernel
theorem dX10_edgeCostOf_57 : decode cX10_edgeCostOf 57 = .ok (.bipush 34, 2) := by decide +kernel
theorem dX10_edgeCostOf_59 : decode cX10_edgeCostOf 59 = .ok (.iconst 2, 1) := by decide +kernel
theorem dX10_edgeCostOf_60 : decode cX10_edgeCostOf 60 = .ok (.iload_n 2, 1) := by decide +kernel
theorem dX10_edgeCostOf_61 : decode cX10_edgeCostOf 61 = .ok (.imul, 1) := by decide +kernel
theorem dX10_edgeCostOf_62 : decode cX10_edgeCostOf 62 = .ok (.iadd, 1) := by decide +kernel
theorem dX10_edgeCostOf_63 : decode cX10_edgeCostOf 63 = .ok (.iconst 1, 1) := by decide +kernel
theorem dX10_edgeCostOf_64 : decode cX10_edgeCostOf 64 = .ok (.iadd, 1) := by decide +kernel
theorem dX10_edgeCostOf_65 : decode cX10_edgeCostOf 65 = .ok (.iaload, 1) := by decide +kernel
theorem dX10_edgeCostOf_66 : decode cX10_edgeCostOf 66 = .ok (.aload_n 1, 1) := by decide +kernel
theorem dX10_edgeCostOf_67 : decode cX10_edgeCostOf 67 = .ok (.bipush 34, 2) := by decide +kernel
theorem dX10_edgeCostOf_69 : decode cX10_edgeCostOf 69 = .ok (.iconst 2, 1) := by decide +kernel
theorem dX10_edgeCostOf_70 : decode cX10_edgeCostOf 70 = .ok (.iload_n 2, 1) := by decide +kernel
theorem dX10_edgeCostOf_71 : decode cX10_edgeCostOf 71 = .ok (.imul, 1) := by decide +kernel
theorem dX10_edgeCostOf_72 : decode cX10_edgeCostOf 72 = .ok (.iadd, 1) := by decide +kernel
theorem dX10_edgeCostOf_73 : decode cX10_edgeCostOf 73 = .ok (.iaload, 1) := by decide +kernel
theorem dX10_edgeCostOf_74 : decode cX10_edgeCostOf 74 = .ok (.if_icmp .le 7, 3) := by decide +kernel
theorem dX10_edgeCostOf_77 : decode cX10_edgeCostOf 77 = .ok (.iconst 1, 1) := by decide +kernel
theorem dX10_edgeCostOf_78 : decode cX10_edgeCostOf 78 = .ok (.goto 4, 3) := by decide +kernel
theorem dX10_edgeCostOf_81 : decode cX10_edgeCostOf 81 = .ok (.iconst 0, 1) := by decide +kernel
theorem dX10_edgeCostOf_82 : decode cX10_edgeCostOf 82 = .ok (.istore 5, 2) := by decide +kernel
theorem dX10_edgeCostOf_84 : decode cX10_edgeCostOf 84 = .ok (.iload_n 3, 1) := by decide +kernel
theorem dX10_edgeCostOf_85 : decode cX10_edgeCostOf 85 = .ok (.iload 5, 2) := by decide +kernel
theorem dX10_edgeCostOf_87 : decode cX10_edgeCostOf 87 = .ok (.if_icmp .ne 7, 3) := by decide +kernel
theorem dX10_edgeCostOf_90 : decode cX10_edgeCostOf 90 = .ok (.iconst 3, 1) := by decide +kernel
theorem dX10_edgeCostOf_91 : decode cX10_edgeCostOf 91 = .ok (.goto 4, 3) := by decide +kernel
theorem dX10_edgeCostOf_94 : decode cX10_edgeCostOf 94 = .ok (.iconst 2, 1) := by decide +kernel
theorem dX10_edgeCostOf_95 : decode cX10_edgeCostOf 95 = .ok (.ireturn, 1) := by decide +kernel
theorem dX10_branchBytesOf_0 : decode cX10_branchBytesOf 0 = .ok (.aload_n 1, 1) := by decide +kernel
theorem dX10_branchBytesOf_1 : decode cX10_branchBytesOf 1 = .ok (.bipush 10, 2) := by decide +kernel
theorem dX10_branchBytesOf_3 : decode cX10_branchBytesOf 3 = .ok (.iload_n 2, 1) := by decide +kernel
theorem dX10_branchBytesOf_4 : decode cX10_branchBytesOf 4 = .ok (.iadd, 1) := by decide +kernel
theorem dX10_branchBytesOf_5 : decode cX10_branchBytesOf 5 = .ok (.iaload, 1) := by decide +kernel
theorem dX10_branchBytesOf_6 : decode cX10_branchBytesOf 6 = .ok (.istore_n 3, 1) := by decide +kernel
theorem dX10_branchBytesOf_7 : decode cX10_branchBytesOf 7 = .ok (.iconst 0, 1) := by decide +kernel
theorem dX10_branchBytesOf_8 : decode cX10_branchBytesOf 8 = .ok (.istore 4, 2) := by decide +kernel
theorem dX10_branchBytesOf_10 : decode cX10_branchBytesOf 10 = .ok (.iconst 0, 1) := by decide +kernel
theorem dX10_branchBytesOf_11 : decode cX10_branchBytesOf 11 = .ok (.istore 5, 2) := by decide +kernel
theorem dX10_branchBytesOf_13 : decode cX10_branchBytesOf 13 = .ok (.iload 5, 2) := by decide +kernel
theorem dX10_branchBytesOf_15 : decode cX10_branchBytesOf 15 = .ok (.iload_n 3, 1) := by decide +kernel
theorem dX10_branchBytesOf_16 : decode cX10_branchBytesOf 16 = .ok (.if_icmp .ge 41, 3) := by decide +kernel
theorem dX10_branchBytesOf_19 : decode cX10_branchBytesOf 19 = .ok (.iload 4, 2) := by decide +kernel
theorem dX10_branchBytesOf_21 : decode cX10_branchBytesOf 21 = .ok (.ifCond .ne 23, 3) := by decide +kernel
theorem dX10_branchBytesOf_24 : decode cX10_branchBytesOf 24 = .ok (.aload_n 1, 1) := by decide +kernel
theorem dX10_branchBytesOf_25 : decode cX10_branchBytesOf 25 = .ok (.bipush 18, 2) := by decide +kernel
theorem dX10_branchBytesOf_27 : decode cX10_branchBytesOf 27 = .ok (.iconst 2, 1) := by decide +kernel
theorem dX10_branchBytesOf_28 : decode cX10_branchBytesOf 28 = .ok (.iload_n 2, 1) := by decide +kernel
theorem dX10_branchBytesOf_29 : decode cX10_branchBytesOf 29 = .ok (.imul, 1) := by decide +kernel
theorem dX10_branchBytesOf_30 : decode cX10_branchBytesOf 30 = .ok (.iadd, 1) := by decide +kernel
theorem dX10_branchBytesOf_31 : decode cX10_branchBytesOf 31 = .ok (.iload 5, 2) := by decide +kernel
theorem dX10_branchBytesOf_33 : decode cX10_branchBytesOf 33 = .ok (.iadd, 1) := by decide +kernel
theorem dX10_branchBytesOf_34 : decode cX10_branchBytesOf 34 = .ok (.iaload, 1) := by decide +kernel
theorem dX10_branchBytesOf_35 : decode cX10_branchBytesOf 35 = .ok (.aload_n 0, 1) := by decide +kernel
theorem dX10_branchBytesOf_36 : decode cX10_branchBytesOf 36 = .ok (.aload_n 1, 1) := by decide +kernel
theorem dX10_branchBytesOf_37 : decode cX10_branchBytesOf 37 = .ok (.iload_n 2, 1) := by decide +kernel
theorem dX10_branchBytesOf_38 : decode cX10_branchBytesOf 38 = .ok (.invokevirtual 117, 3) := by decide +kernel
theorem dX10_branchBytesOf_41 : decode cX10_branchBytesOf 41 = .ok (.if_icmp .ne 7, 3) := by decide +kernel
theorem dX10_branchBytesOf_44 : decode cX10_branchBytesOf 44 = .ok (.iconst 1, 1) := by decide +kernel
theorem dX10_branchBytesOf_45 : decode cX10_branchBytesOf 45 = .ok (.goto 4, 3) := by decide +kernel
theorem dX10_branchBytesOf_48 : decode cX10_branchBytesOf 48 = .ok (.iconst 0, 1) := by decide +kernel
theorem dX10_branchBytesOf_49 : decode cX10_branchBytesOf 49 = .ok (.istore 4, 2) := by decide +kernel
theorem dX10_branchBytesOf_51 : decode cX10_branchBytesOf 51 = .ok (.iinc 5 1, 3) := by decide +kernel
theorem dX10_branchBytesOf_54 : decode cX10_branchBytesOf 54 = .ok (.goto (-41), 3) := by decide +kernel
theorem dX10_branchBytesOf_57 : decode cX10_branchBytesOf 57 = .ok (.iconst 2, 1) := by decide +kernel
theorem dX10_branchBytesOf_58 : decode cX10_branchBytesOf 58 = .ok (.iload 4, 2) := by decide +kernel
theorem dX10_branchBytesOf_60 : decode cX10_branchBytesOf 60 = .ok (.ifCond .eq 9, 3) := by decide +kernel
theorem dX10_branchBytesOf_63 : decode cX10_branchBytesOf 63 = .ok (.iload_n 3, 1) := by decide +kernel
theorem dX10_branchBytesOf_64 : decode cX10_branchBytesOf 64 = .ok (.iconst 1, 1) := by decide +kernel
theorem dX10_branchBytesOf_65 : decode cX10_branchBytesOf 65 = .ok (.isub, 1) := by decide +kernel
theorem dX10_branchBytesOf_66 : decode cX10_branchBytesOf 66 = .ok (.goto 4, 3) := by decide +kernel
theorem dX10_branchBytesOf_69 : decode cX10_branchBytesOf 69 = .ok (.iload_n 3, 1) := by decide +kernel
theorem dX10_branchBytesOf_70 : decode cX10_branchBytesOf 70 = .ok (.imul, 1) := by decide +kernel
theorem dX10_branchBytesOf_71 : decode cX10_branchBytesOf 71 = .ok (.ireturn, 1) := by decide +kernel
theorem dX10_costOf_0 : decode cX10_costOf 0 = .ok (.iconst 0, 1) := by decide +kernel
theorem dX10_costOf_1 : decode cX10_costOf 1 = .ok (.istore_n 2, 1) := by decide +kernel
theorem dX10_costOf_2 : decode cX10_costOf 2 = .ok (.iconst 0, 1) := by decide +kernel
theorem dX10_costOf_3 : decode cX10_costOf 3 = .ok (.istore_n 3, 1) := by decide +kernel
theorem dX10_costOf_4 : decode cX10_costOf 4 = .ok (.iload_n 3, 1) := by decide +kernel
theorem dX10_costOf_5 : decode cX10_costOf 5 = .ok (.aload_n 0, 1) := by decide +kernel
theorem dX10_costOf_6 : decode cX10_costOf 6 = .ok (.getfield 53, 3) := by decide +kernel
theorem dX10_costOf_9 : decode cX10_costOf 9 = .ok (.if_icmp .ge 52, 3) := by decide +kernel
theorem dX10_costOf_12 : decode cX10_costOf 12 = .ok (.iconst 0, 1) := by decide +kernel
theorem dX10_costOf_13 : decode cX10_costOf 13 = .ok (.istore 4, 2) := by decide +kernel
theorem dX10_costOf_15 : decode cX10_costOf 15 = .ok (.iload 4, 2) := by decide +kernel
theorem dX10_costOf_17 : decode cX10_costOf 17 = .ok (.aload_n 1, 1) := by decide +kernel
theorem dX10_costOf_18 : decode cX10_costOf 18 = .ok (.bipush 10, 2) := by decide +kernel
theorem dX10_costOf_20 : decode cX10_costOf 20 = .ok (.iload_n 3, 1) := by decide +kernel
theorem dX10_costOf_21 : decode cX10_costOf 21 = .ok (.iadd, 1) := by decide +kernel
theorem dX10_costOf_22 : decode cX10_costOf 22 = .ok (.iaload, 1) := by decide +kernel
theorem dX10_costOf_23 : decode cX10_costOf 23 = .ok (.if_icmp .ge 32, 3) := by decide +kernel
theorem dX10_costOf_26 : decode cX10_costOf 26 = .ok (.iload_n 2, 1) := by decide +kernel
theorem dX10_costOf_27 : decode cX10_costOf 27 = .ok (.aload_n 1, 1) := by decide +kernel
theorem dX10_costOf_28 : decode cX10_costOf 28 = .ok (.bipush 34, 2) := by decide +kernel
theorem dX10_costOf_30 : decode cX10_costOf 30 = .ok (.iconst 2, 1) := by decide +kernel
theorem dX10_costOf_31 : decode cX10_costOf 31 = .ok (.iload_n 3, 1) := by decide +kernel
theorem dX10_costOf_32 : decode cX10_costOf 32 = .ok (.imul, 1) := by decide +kernel
theorem dX10_costOf_33 : decode cX10_costOf 33 = .ok (.iadd, 1) := by decide +kernel
theorem dX10_costOf_34 : decode cX10_costOf 34 = .ok (.iload 4, 2) := by decide +kernel
theorem dX10_costOf_36 : decode cX10_costOf 36 = .ok (.iadd, 1) := by decide +kernel
theorem dX10_costOf_37 : decode cX10_costOf 37 = .ok (.iaload, 1) := by decide +kernel
theorem dX10_costOf_38 : decode cX10_costOf 38 = .ok (.aload_n 0, 1) := by decide +kernel
theorem dX10_costOf_39 : decode cX10_costOf 39 = .ok (.aload_n 1, 1) := by decide +kernel
theorem dX10_costOf_40 : decode cX10_costOf 40 = .ok (.iload_n 3, 1) := by decide +kernel
theorem dX10_costOf_41 : decode cX10_costOf 41 = .ok (.iload 4, 2) := by decide +kernel
theorem dX10_costOf_43 : decode cX10_costOf 43 = .ok (.invokevirtual 120, 3) := by decide +kernel
theorem dX10_costOf_46 : decode cX10_costOf 46 = .ok (.imul, 1) := by decide +kernel
theorem dX10_costOf_47 : decode cX10_costOf 47 = .ok (.iadd, 1) := by decide +kernel
theorem dX10_costOf_48 : decode cX10_costOf 48 = .ok (.istore_n 2, 1) := by decide +kernel
theorem dX10_costOf_49 : decode cX10_costOf 49 = .ok (.iinc 4 1, 3) := by decide +kernel
theorem dX10_costOf_52 : decode cX10_costOf 52 = .ok (.goto (-37), 3) := by decide +kernel
theorem dX10_costOf_55 : decode cX10_costOf 55 = .ok (.iinc 3 1, 3) := by decide +kernel
theorem dX10_costOf_58 : decode cX10_costOf 58 = .ok (.goto (-54), 3) := by decide +kernel
theorem dX10_costOf_61 : decode cX10_costOf 61 = .ok (.iload_n 2, 1) := by decide +kernel
theorem dX10_costOf_62 : decode cX10_costOf 62 = .ok (.ireturn, 1) := by decide +kernel
theorem dX10_isLoopHead_0 : decode cX10_isLoopHead 0 = .ok (.iconst 0, 1) := by decide +kernel
theorem dX10_isLoopHead_1 : decode cX10_isLoopHead 1 = .ok (.istore_n 3, 1) := by decide +kernel
theorem dX10_isLoopHead_2 : decode cX10_isLoopHead 2 = .ok (.iload_n 2, 1) := by decide +kernel
theorem dX10_isLoopHead_3 : decode cX10_isLoopHead 3 = .ok (.istore 4, 2) := by decide +kernel
theorem dX10_isLoopHead_5 : decode cX10_isLoopHead 5 = .ok (.iload 4, 2) := by decide +kernel
theorem dX10_isLoopHead_7 : decode cX10_isLoopHead 7 = .ok (.aload_n 1, 1) := by decide +kernel
theorem dX10_isLoopHead_8 : decode cX10_isLoopHead 8 = .ok (.iconst 0, 1) := by decide +kernel
theorem dX10_isLoopHead_9 : decode cX10_isLoopHead 9 = .ok (.iaload, 1) := by decide +kernel
theorem dX10_isLoopHead_10 : decode cX10_isLoopHead 10 = .ok (.if_icmp .ge 68, 3) := by decide +kernel
theorem dX10_isLoopHead_13 : decode cX10_isLoopHead 13 = .ok (.aload_n 1, 1) := by decide +kernel
theorem dX10_isLoopHead_14 : decode cX10_isLoopHead 14 = .ok (.iconst 2, 1) := by decide +kernel
theorem dX10_isLoopHead_15 : decode cX10_isLoopHead 15 = .ok (.iload 4, 2) := by decide +kernel
theorem dX10_isLoopHead_17 : decode cX10_isLoopHead 17 = .ok (.iadd, 1) := by decide +kernel
theorem dX10_isLoopHead_18 : decode cX10_isLoopHead 18 = .ok (.iaload, 1) := by decide +kernel
theorem dX10_isLoopHead_19 : decode cX10_isLoopHead 19 = .ok (.istore 5, 2) := by decide +kernel
theorem dX10_isLoopHead_21 : decode cX10_isLoopHead 21 = .ok (.iconst 0, 1) := by decide +kernel
theorem dX10_isLoopHead_22 : decode cX10_isLoopHead 22 = .ok (.istore 6, 2) := by decide +kernel
theorem dX10_isLoopHead_24 : decode cX10_isLoopHead 24 = .ok (.iload 6, 2) := by decide +kernel
theorem dX10_isLoopHead_26 : decode cX10_isLoopHead 26 = .ok (.aload_n 1, 1) := by decide +kernel
theorem dX10_isLoopHead_27 : decode cX10_isLoopHead 27 = .ok (.bipush 10, 2) := by decide +kernel
theorem dX10_isLoopHead_29 : decode cX10_isLoopHead 29 = .ok (.iload 5, 2) := by decide +kernel
theorem dX10_isLoopHead_31 : decode cX10_isLoopHead 31 = .ok (.iadd, 1) := by decide +kernel
theorem dX10_isLoopHead_32 : decode cX10_isLoopHead 32 = .ok (.iaload, 1) := by decide +kernel
theorem dX10_isLoopHead_33 : decode cX10_isLoopHead 33 = .ok (.if_icmp .ge 39, 3) := by decide +kernel
theorem dX10_isLoopHead_36 : decode cX10_isLoopHead 36 = .ok (.iload_n 3, 1) := by decide +kernel
theorem dX10_isLoopHead_37 : decode cX10_isLoopHead 37 = .ok (.ifCond .ne 23, 3) := by decide +kernel
theorem dX10_isLoopHead_40 : decode cX10_isLoopHead 40 = .ok (.aload_n 1, 1) := by decide +kernel
theorem dX10_isLoopHead_41 : decode cX10_isLoopHead 41 = .ok (.bipush 18, 2) := by decide +kernel
theorem dX10_isLoopHead_43 : decode cX10_isLoopHead 43 = .ok (.iconst 2, 1) := by decide +kernel
theorem dX10_isLoopHead_44 : decode cX10_isLoopHead 44 = .ok (.iload 5, 2) := by decide +kernel
theorem dX10_isLoopHead_46 : decode cX10_isLoopHead 46 = .ok (.imul, 1) := by decide +kernel
theorem dX10_isLoopHead_47 : decode cX10_isLoopHead 47 = .ok (.iadd, 1) := by decide +kernel
theorem dX10_isLoopHead_48 : decode cX10_isLoopHead 48 = .ok (.iload 6, 2) := by decide +kernel
theorem dX10_isLoopHead_50 : decode cX10_isLoopHead 50 = .ok (.iadd, 1) := by decide +kernel
theorem dX10_isLoopHead_51 : decode cX10_isLoopHead 51 = .ok (.iaload, 1) := by decide +kernel
theorem dX10_isLoopHead_52 : decode cX10_isLoopHead 52 = .ok (.aload_n 1, 1) := by decide +kernel
theorem dX10_isLoopHead_53 : decode cX10_isLoopHead 53 = .ok (.iconst 2, 1) := by decide +kernel
theorem dX10_isLoopHead_54 : decode cX10_isLoopHead 54 = .ok (.iload_n 2, 1) := by decide +kernel
theorem dX10_isLoopHead_55 : decode cX10_isLoopHead 55 = .ok (.iadd, 1) := by decide +kernel
theorem dX10_isLoopHead_56 : decode cX10_isLoopHead 56 = .ok (.iaload, 1) := by decide +kernel
theorem dX10_isLoopHead_57 : decode cX10_isLoopHead 57 = .ok (.if_icmp .ne 7, 3) := by decide +kernel
theorem dX10_isLoopHead_60 : decode cX10_isLoopHead 60 = .ok (.iconst 1, 1) := by decide +kernel
theorem dX10_isLoopHead_61 : decode cX10_isLoopHead 61 = .ok (.goto 4, 3) := by decide +kernel
theorem dX10_isLoopHead_64 : decode cX10_isLoopHead 64 = .ok (.iconst 0, 1) := by decide +kernel
theorem dX10_isLoopHead_65 : decode cX10_isLoopHead 65 = .ok (.istore_n 3, 1) := by decide +kernel
theorem dX10_isLoopHead_66 : decode cX10_isLoopHead 66 = .ok (.iinc 6 1, 3) := by decide +kernel
theorem dX10_isLoopHead_69 : decode cX10_isLoopHead 69 = .ok (.goto (-45), 3) := by decide +kernel
theorem dX10_isLoopHead_72 : decode cX10_isLoopHead 72 = .ok (.iinc 4 1, 3) := by decide +kernel
theorem dX10_isLoopHead_75 : decode cX10_isLoopHead 75 = .ok (.goto (-70), 3) := by decide +kernel
theorem dX10_isLoopHead_78 : decode cX10_isLoopHead 78 = .ok (.iload_n 3, 1) := by decide +kernel
theorem dX10_isLoopHead_79 : decode cX10_isLoopHead 79 = .ok (.ireturn, 1) := by decide +kernel
theorem dX10_up_0 : decode cX10_up 0 = .ok (.iload_n 0, 1) := by decide +kernel
theorem dX10_up_1 : decode cX10_up 1 = .ok (.iload_n 1, 1) := by decide +kernel
theorem dX10_up_2 : decode cX10_up 2 = .ok (.iadd, 1) := by decide +kernel
theorem dX10_up_3 : decode cX10_up 3 = .ok (.iconst 1, 1) := by decide +kernel
theorem dX10_up_4 : decode cX10_up 4 = .ok (.isub, 1) := by decide +kernel
theorem dX10_up_5 : decode cX10_up 5 = .ok (.iload_n 1, 1) := by decide +kernel
theorem dX10_up_6 : decode cX10_up 6 = .ok (.idiv, 1) := by decide +kernel
theorem dX10_up_7 : decode cX10_up 7 = .ok (.iload_n 1, 1) := by decide +kernel
theorem dX10_up_8 : decode cX10_up 8 = .ok (.imul, 1) := by decide +kernel
theorem dX10_up_9 : decode cX10_up 9 = .ok (.ireturn, 1) := by decide +kernel
theorem dX10_addressOf_0 : decode cX10_addressOf 0 = .ok (.iconst 0, 1) := by decide +kernel
theorem dX10_addressOf_1 : decode cX10_addressOf 1 = .ok (.istore_n 3, 1) := by decide +kernel
theorem dX10_addressOf_2 : decode cX10_addressOf 2 = .ok (.iconst 0, 1) := by decide +kernel
theorem dX10_addressOf_3 : decode cX10_addressOf 3 = .ok (.istore 4, 2) := by decide +kernel
theorem dX10_addressOf_5 : decode cX10_addressOf 5 = .ok (.iconst 0, 1) := by decide +kernel
theorem dX10_addressOf_6 : decode cX10_addressOf 6 = .ok (.istore 5, 2) := by decide +kernel
theorem dX10_addressOf_8 : decode cX10_addressOf 8 = .ok (.iload 5, 2) := by decide +kernel
theorem dX10_addressOf_10 : decode cX10_addressOf 10 = .ok (.aload_n 0, 1) := by decide +kernel
theorem dX10_addressOf_11 : decode cX10_addressOf 11 = .ok (.getfield 53, 3) := by decide +kernel
theorem dX10_addressOf_14 : decode cX10_addressOf 14 = .ok (.if_icmp .ge 103, 3) := by decide +kernel
theorem dX10_addressOf_17 : decode cX10_addressOf 17 = .ok (.iload 5, 2) := by decide +kernel
theorem dX10_addressOf_19 : decode cX10_addressOf 19 = .ok (.aload_n 1, 1) := by decide +kernel
theorem dX10_addressOf_20 : decode cX10_addressOf 20 = .ok (.iconst 0, 1) := by decide +kernel
theorem dX10_addressOf_21 : decode cX10_addressOf 21 = .ok (.iaload, 1) := by decide +kernel
theorem dX10_addressOf_22 : decode cX10_addressOf 22 = .ok (.if_icmp .ge 31, 3) := by decide +kernel
theorem dX10_addressOf_25 : decode cX10_addressOf 25 = .ok (.aload_n 0, 1) := by decide +kernel
theorem dX10_addressOf_26 : decode cX10_addressOf 26 = .ok (.aload_n 1, 1) := by decide +kernel
theorem dX10_addressOf_27 : decode cX10_addressOf 27 = .ok (.iload 5, 2) := by decide +kernel
theorem dX10_addressOf_29 : decode cX10_addressOf 29 = .ok (.invokevirtual 124, 3) := by decide +kernel
theorem dX10_addressOf_32 : decode cX10_addressOf 32 = .ok (.ifCond .eq 14, 3) := by decide +kernel
theorem dX10_addressOf_35 : decode cX10_addressOf 35 = .ok (.iload 4, 2) := by decide +kernel
theorem dX10_addressOf_37 : decode cX10_addressOf 37 = .ok (.aload_n 1, 1) := by decide +kernel
theorem dX10_addressOf_38 : decode cX10_addressOf 38 = .ok (.iconst 1, 1) := by decide +kernel
theorem dX10_addressOf_39 : decode cX10_addressOf 39 = .ok (.iaload, 1) := by decide +kernel
theorem dX10_addressOf_40 : decode cX10_addressOf 40 = .ok (.invokestatic 128, 3) := by decide +kernel
theorem dX10_addressOf_43 : decode cX10_addressOf 43 = .ok (.goto 5, 3) := by decide +kernel
theorem dX10_addressOf_46 : decode cX10_addressOf 46 = .ok (.iload 4, 2) := by decide +kernel
theorem dX10_addressOf_48 : decode cX10_addressOf 48 = .ok (.istore 4, 2) := by decide +kernel
theorem dX10_addressOf_50 : decode cX10_addressOf 50 = .ok (.goto 20, 3) := by decide +kernel
theorem dX10_addressOf_53 : decode cX10_addressOf 53 = .ok (.iload 5, 2) := by decide +kernel
theorem dX10_addressOf_55 : decode cX10_addressOf 55 = .ok (.aload_n 1, 1) := by decide +kernel
theorem dX10_addressOf_56 : decode cX10_addressOf 56 = .ok (.iconst 0, 1) := by decide +kernel
theorem dX10_addressOf_57 : decode cX10_addressOf 57 = .ok (.iaload, 1) := by decide +kernel
theorem dX10_addressOf_58 : decode cX10_addressOf 58 = .ok (.if_icmp .ne 12, 3) := by decide +kernel
theorem dX10_addressOf_61 : decode cX10_addressOf 61 = .ok (.iload 4, 2) := by decide +kernel
theorem dX10_addressOf_63 : decode cX10_addressOf 63 = .ok (.bipush 16, 2) := by decide +kernel
theorem dX10_addressOf_65 : decode cX10_addressOf 65 = .ok (.invokestatic 128, 3) := by decide +kernel
theorem dX10_addressOf_68 : decode cX10_addressOf 68 = .ok (.istore 4, 2) := by decide +kernel
theorem dX10_addressOf_70 : decode cX10_addressOf 70 = .ok (.aload_n 1, 1) := by decide +kernel
theorem dX10_addressOf_71 : decode cX10_addressOf 71 = .ok (.iconst 2, 1) := by decide +kernel
theorem dX10_addressOf_72 : decode cX10_addressOf 72 = .ok (.iload 5, 2) := by decide +kernel
theorem dX10_addressOf_74 : decode cX10_addressOf 74 = .ok (.iadd, 1) := by decide +kernel
theorem dX10_addressOf_75 : decode cX10_addressOf 75 = .ok (.iaload, 1) := by decide +kernel
theorem dX10_addressOf_76 : decode cX10_addressOf 76 = .ok (.istore 6, 2) := by decide +kernel
theorem dX10_addressOf_78 : decode cX10_addressOf 78 = .ok (.iload 6, 2) := by decide +kernel
theorem dX10_addressOf_80 : decode cX10_addressOf 80 = .ok (.iload_n 2, 1) := by decide +kernel
theorem dX10_addressOf_81 : decode cX10_addressOf 81 = .ok (.if_icmp .ne 8, 3) := by decide +kernel
theorem dX10_addressOf_84 : decode cX10_addressOf 84 = .ok (.iload 4, 2) := by decide +kernel
theorem dX10_addressOf_86 : decode cX10_addressOf 86 = .ok (.goto 4, 3) := by decide +kernel
theorem dX10_addressOf_89 : decode cX10_addressOf 89 = .ok (.iload_n 3, 1) := by decide +kernel
theorem dX10_addressOf_90 : decode cX10_addressOf 90 = .ok (.istore_n 3, 1) := by decide +kernel
theorem dX10_addressOf_91 : decode cX10_addressOf 91 = .ok (.iload 4, 2) := by decide +kernel
theorem dX10_addressOf_93 : decode cX10_addressOf 93 = .ok (.aload_n 0, 1) := by decide +kernel
theorem dX10_addressOf_94 : decode cX10_addressOf 94 = .ok (.getfield 13, 3) := by decide +kernel
theorem dX10_addressOf_97 : decode cX10_addressOf 97 = .ok (.iload 6, 2) := by decide +kernel
theorem dX10_addressOf_99 : decode cX10_addressOf 99 = .ok (.iaload, 1) := by decide +kernel
theorem dX10_addressOf_100 : decode cX10_addressOf 100 = .ok (.aload_n 0, 1) := by decide +kernel
theorem dX10_addressOf_101 : decode cX10_addressOf 101 = .ok (.aload_n 1, 1) := by decide +kernel
theorem dX10_addressOf_102 : decode cX10_addressOf 102 = .ok (.iload 6, 2) := by decide +kernel
theorem dX10_addressOf_104 : decode cX10_addressOf 104 = .ok (.invokevirtual 131, 3) := by decide +kernel
theorem dX10_addressOf_107 : decode cX10_addressOf 107 = .ok (.iadd, 1) := by decide +kernel
theorem dX10_addressOf_108 : decode cX10_addressOf 108 = .ok (.iadd, 1) := by decide +kernel
theorem dX10_addressOf_109 : decode cX10_addressOf 109 = .ok (.istore 4, 2) := by decide +kernel
theorem dX10_addressOf_111 : decode cX10_addressOf 111 = .ok (.iinc 5 1, 3) := by decide +kernel
theorem dX10_addressOf_114 : decode cX10_addressOf 114 = .ok (.goto (-106), 3) := by decide +kernel
theorem dX10_addressOf_117 : decode cX10_addressOf 117 = .ok (.aload_n 0, 1) := by decide +kernel
theorem dX10_addressOf_118 : decode cX10_addressOf 118 = .ok (.iload 4, 2) := by decide +kernel
theorem dX10_addressOf_120 : decode cX10_addressOf 120 = .ok (.putfield 134, 3) := by decide +kernel
theorem dX10_addressOf_123 : decode cX10_addressOf 123 = .ok (.iload_n 3, 1) := by decide +kernel
theorem dX10_addressOf_124 : decode cX10_addressOf 124 = .ok (.ireturn, 1) := by decide +kernel
theorem dX10_isPosition_0 : decode cX10_isPosition 0 = .ok (.aload_n 0, 1) := by decide +kernel
theorem dX10_isPosition_1 : decode cX10_isPosition 1 = .ok (.iload_n 1, 1) := by decide +kernel
theorem dX10_isPosition_2 : decode cX10_isPosition 2 = .ok (.invokevirtual 61, 3) := by decide +kernel
theorem dX10_isPosition_5 : decode cX10_isPosition 5 = .ok (.ireturn, 1) := by decide +kernel
theorem dX10_blockAt_0 : decode cX10_blockAt 0 = .ok (.aload_n 0, 1) := by decide +kernel
theorem dX10_blockAt_1 : decode cX10_blockAt 1 = .ok (.iload_n 1, 1) := by decide +kernel
theorem dX10_blockAt_2 : decode cX10_blockAt 2 = .ok (.invokevirtual 137, 3) := by decide +kernel
theorem dX10_blockAt_5 : decode cX10_blockAt 5 = .ok (.ifCond .eq 14, 3) := by decide +kernel
theorem dX10_blockAt_8 : decode cX10_blockAt 8 = .ok (.aload_n 0, 1) := by decide +kernel
theorem dX10_blockAt_9 : decode cX10_blockAt 9 = .ok (.getfield 16, 3) := by decide +kernel
theorem dX10_blockAt_12 : decode cX10_blockAt 12 = .ok (.iconst 2, 1) := by decide +kernel
theorem dX10_blockAt_13 : decode cX10_blockAt 13 = .ok (.iload_n 1, 1) := by decide +kernel
theorem dX10_blockAt_14 : decode cX10_blockAt 14 = .ok (.iadd, 1) := by decide +kernel
theorem dX10_blockAt_15 : decode cX10_blockAt 15 = .ok (.iaload, 1) := by decide +kernel
theorem dX10_blockAt_16 : decode cX10_blockAt 16 = .ok (.goto 4, 3) := by decide +kernel
theorem dX10_blockAt_19 : decode cX10_blockAt 19 = .ok (.iconst (-1), 1) := by decide +kernel
theorem dX10_blockAt_20 : decode cX10_blockAt 20 = .ok (.ireturn, 1) := by decide +kernel
theorem dX10_hotCount_0 : decode cX10_hotCount 0 = .ok (.aload_n 0, 1) := by decide +kernel
theorem dX10_hotCount_1 : decode cX10_hotCount 1 = .ok (.getfield 16, 3) := by decide +kernel
theorem dX10_hotCount_4 : decode cX10_hotCount 4 = .ok (.iconst 0, 1) := by decide +kernel
theorem dX10_hotCount_5 : decode cX10_hotCount 5 = .ok (.iaload, 1) := by decide +kernel
theorem dX10_hotCount_6 : decode cX10_hotCount 6 = .ok (.ireturn, 1) := by decide +kernel
theorem dX10_cost_0 : decode cX10_cost 0 = .ok (.aload_n 0, 1) := by decide +kernel
theorem dX10_cost_1 : decode cX10_cost 1 = .ok (.aload_n 0, 1) := by decide +kernel
theorem dX10_cost_2 : decode cX10_cost 2 = .ok (.getfield 16, 3) := by decide +kernel
theorem dX10_cost_5 : decode cX10_cost 5 = .ok (.invokevirtual 140, 3) := by decide +kernel
theorem dX10_cost_8 : decode cX10_cost 8 = .ok (.ireturn, 1) := by decide +kernel
theorem dX10_codeSize_0 : decode cX10_codeSize 0 = .ok (.aload_n 0, 1) := by decide +kernel
theorem dX10_codeSize_1 : decode cX10_codeSize 1 = .ok (.aload_n 0, 1) := by decide +kernel
theorem dX10_codeSize_2 : decode cX10_codeSize 2 = .ok (.getfield 16, 3) := by decide +kernel
theorem dX10_codeSize_5 : decode cX10_codeSize 5 = .ok (.iconst 0, 1) := by decide +kernel
theorem dX10_codeSize_6 : decode cX10_codeSize 6 = .ok (.invokevirtual 144, 3) := by decide +kernel
theorem dX10_codeSize_9 : decode cX10_codeSize 9 = .ok (.istore_n 1, 1) := by decide +kernel
theorem dX10_codeSize_10 : decode cX10_codeSize 10 = .ok (.aload_n 0, 1) := by decide +kernel
theorem dX10_codeSize_11 : decode cX10_codeSize 11 = .ok (.getfield 134, 3) := by decide +kernel
theorem dX10_codeSize_14 : decode cX10_codeSize 14 = .ok (.ireturn, 1) := by decide +kernel
theorem dX10_address_0 : decode cX10_address 0 = .ok (.aload_n 0, 1) := by decide +kernel
theorem dX10_address_1 : decode cX10_address 1 = .ok (.iload_n 1, 1) := by decide +kernel
theorem dX10_address_2 : decode cX10_address 2 = .ok (.invokevirtual 61, 3) := by decide +kernel
theorem dX10_address_5 : decode cX10_address 5 = .ok (.ifCond .eq 15, 3) := by decide +kernel
theorem dX10_address_8 : decode cX10_address 8 = .ok (.aload_n 0, 1) := by decide +kernel
theorem dX10_address_9 : decode cX10_address 9 = .ok (.aload_n 0, 1) := by decide +kernel
theorem dX10_address_10 : decode cX10_address 10 = .ok (.getfield 16, 3) := by decide +kernel
theorem dX10_address_13 : decode cX10_address 13 = .ok (.iload_n 1, 1) := by decide +kernel
theorem dX10_address_14 : decode cX10_address 14 = .ok (.invokevirtual 144, 3) := by decide +kernel
theorem dX10_address_17 : decode cX10_address 17 = .ok (.goto 4, 3) := by decide +kernel
theorem dX10_address_20 : decode cX10_address 20 = .ok (.iconst (-1), 1) := by decide +kernel
theorem dX10_address_21 : decode cX10_address 21 = .ok (.ireturn, 1) := by decide +kernel
theorem dX10_branchBytes_0 : decode cX10_branchBytes 0 = .ok (.aload_n 0, 1) := by decide +kernel
theorem dX10_branchBytes_1 : decode cX10_branchBytes 1 = .ok (.iload_n 1, 1) := by decide +kernel
theorem dX10_branchBytes_2 : decode cX10_branchBytes 2 = .ok (.invokevirtual 61, 3) := by decide +kernel
theorem dX10_branchBytes_5 : decode cX10_branchBytes 5 = .ok (.ifCond .eq 15, 3) := by decide +kernel
theorem dX10_branchBytes_8 : decode cX10_branchBytes 8 = .ok (.aload_n 0, 1) := by decide +kernel
theorem dX10_branchBytes_9 : decode cX10_branchBytes 9 = .ok (.aload_n 0, 1) := by decide +kernel
theorem dX10_branchBytes_10 : decode cX10_branchBytes 10 = .ok (.getfield 16, 3) := by decide +kernel
theorem dX10_branchBytes_13 : decode cX10_branchBytes 13 = .ok (.iload_n 1, 1) := by decide +kernel
theorem dX10_branchBytes_14 : decode cX10_branchBytes 14 = .ok (.invokevirtual 131, 3) := by decide +kernel
theorem dX10_branchBytes_17 : decode cX10_branchBytes 17 = .ok (.goto 4, 3) := by decide +kernel
theorem dX10_branchBytes_20 : decode cX10_branchBytes 20 = .ok (.iconst (-1), 1) := by decide +kernel
theorem dX10_branchBytes_21 : decode cX10_branchBytes 21 = .ok (.ireturn, 1) := by decide +kernel
theorem dX10_edgeCost_0 : decode cX10_edgeCost 0 = .ok (.aload_n 0, 1) := by decide +kernel
theorem dX10_edgeCost_1 : decode cX10_edgeCost 1 = .ok (.iload_n 1, 1) := by decide +kernel
theorem dX10_edgeCost_2 : decode cX10_edgeCost 2 = .ok (.iload_n 2, 1) := by decide +kernel
theorem dX10_edgeCost_3 : decode cX10_edgeCost 3 = .ok (.invokevirtual 107, 3) := by decide +kernel
theorem dX10_edgeCost_6 : decode cX10_edgeCost 6 = .ok (.ifCond .eq 16, 3) := by decide +kernel
theorem dX10_edgeCost_9 : decode cX10_edgeCost 9 = .ok (.aload_n 0, 1) := by decide +kernel
theorem dX10_edgeCost_10 : decode cX10_edgeCost 10 = .ok (.aload_n 0, 1) := by decide +kernel
theorem dX10_edgeCost_11 : decode cX10_edgeCost 11 = .ok (.getfield 16, 3) := by decide +kernel
theorem dX10_edgeCost_14 : decode cX10_edgeCost 14 = .ok (.iload_n 1, 1) := by decide +kernel
theorem dX10_edgeCost_15 : decode cX10_edgeCost 15 = .ok (.iload_n 2, 1) := by decide +kernel
theorem dX10_edgeCost_16 : decode cX10_edgeCost 16 = .ok (.invokevirtual 120, 3) := by decide +kernel
theorem dX10_edgeCost_19 : decode cX10_edgeCost 19 = .ok (.goto 4, 3) := by decide +kernel
theorem dX10_edgeCost_22 : decode cX10_edgeCost 22 = .ok (.iconst (-1), 1) := by decide +kernel
theorem dX10_edgeCost_23 : decode cX10_edgeCost 23 = .ok (.ireturn, 1) := by decide +kernel
theorem dX10_layChains_0 : decode cX10_layChains 0 = .ok (.iconst 0, 1) := by decide +kernel
theorem dX10_layChains_1 : decode cX10_layChains 1 = .ok (.istore_n 1, 1) := by decide +kernel
theorem dX10_layChains_2 : decode cX10_layChains 2 = .ok (.iload_n 1, 1) := by decide +kernel
theorem dX10_layChains_3 : decode cX10_layChains 3 = .ok (.aload_n 0, 1) := by decide +kernel
theorem dX10_layChains_4 : decode cX10_layChains 4 = .ok (.getfield 53, 3) := by decide +kernel
theorem dX10_layChains_7 : decode cX10_layChains 7 = .ok (.if_icmp .ge 24, 3) := by decide +kernel
theorem dX10_layChains_10 : decode cX10_layChains 10 = .ok (.aload_n 0, 1) := by decide +kernel
theorem dX10_layChains_11 : decode cX10_layChains 11 = .ok (.getfield 41, 3) := by decide +kernel
theorem dX10_layChains_14 : decode cX10_layChains 14 = .ok (.iload_n 1, 1) := by decide +kernel
theorem dX10_layChains_15 : decode cX10_layChains 15 = .ok (.iload_n 1, 1) := by decide +kernel
theorem dX10_layChains_16 : decode cX10_layChains 16 = .ok (.iastore, 1) := by decide +kernel
theorem dX10_layChains_17 : decode cX10_layChains 17 = .ok (.aload_n 0, 1) := by decide +kernel
theorem dX10_layChains_18 : decode cX10_layChains 18 = .ok (.getfield 44, 3) := by decide +kernel
theorem dX10_layChains_21 : decode cX10_layChains 21 = .ok (.iload_n 1, 1) := by decide +kernel
theorem dX10_layChains_22 : decode cX10_layChains 22 = .ok (.bipush (-9), 2) := by decide +kernel
theorem dX10_layChains_24 : decode cX10_layChains 24 = .ok (.iastore, 1) := by decide +kernel
theorem dX10_layChains_25 : decode cX10_layChains 25 = .ok (.iinc 1 1, 3) := by decide +kernel
theorem dX10_layChains_28 : decode cX10_layChains 28 = .ok (.goto (-26), 3) := by decide +kernel
theorem dX10_layChains_31 : decode cX10_layChains 31 = .ok (.bipush 99, 2) := by decide +kernel
theorem dX10_layChains_33 : decode cX10_layChains 33 = .ok (.istore_n 1, 1) := by decide +kernel
theorem dX10_layChains_34 : decode cX10_layChains 34 = .ok (.iload_n 1, 1) := by decide +kernel
theorem dX10_layChains_35 : decode cX10_layChains 35 = .ok (.ifCond .le 182, 3) := by decide +kernel
theorem dX10_layChains_38 : decode cX10_layChains 38 = .ok (.iconst 0, 1) := by decide +kernel
theorem dX10_layChains_39 : decode cX10_layChains 39 = .ok (.istore_n 2, 1) := by decide +kernel
theorem dX10_layChains_40 : decode cX10_layChains 40 = .ok (.iload_n 2, 1) := by decide +kernel
theorem dX10_layChains_41 : decode cX10_layChains 41 = .ok (.iconst 2, 1) := by decide +kernel
theorem dX10_layChains_42 : decode cX10_layChains 42 = .ok (.aload_n 0, 1) := by decide +kernel
theorem dX10_layChains_43 : decode cX10_layChains 43 = .ok (.getfield 53, 3) := by decide +kernel
theorem dX10_layChains_46 : decode cX10_layChains 46 = .ok (.imul, 1) := by decide +kernel
theorem dX10_layChains_47 : decode cX10_layChains 47 = .ok (.if_icmp .ge 164, 3) := by decide +kernel
theorem dX10_layChains_50 : decode cX10_layChains 50 = .ok (.iload_n 2, 1) := by decide +kernel
theorem dX10_layChains_51 : decode cX10_layChains 51 = .ok (.iconst 2, 1) := by decide +kernel
theorem dX10_layChains_52 : decode cX10_layChains 52 = .ok (.idiv, 1) := by decide +kernel
theorem dX10_layChains_53 : decode cX10_layChains 53 = .ok (.istore_n 3, 1) := by decide +kernel
theorem dX10_layChains_54 : decode cX10_layChains 54 = .ok (.iload_n 2, 1) := by decide +kernel
theorem dX10_layChains_55 : decode cX10_layChains 55 = .ok (.iconst 2, 1) := by decide +kernel
theorem dX10_layChains_56 : decode cX10_layChains 56 = .ok (.irem, 1) := by decide +kernel
theorem dX10_layChains_57 : decode cX10_layChains 57 = .ok (.aload_n 0, 1) := by decide +kernel
theorem dX10_layChains_58 : decode cX10_layChains 58 = .ok (.getfield 16, 3) := by decide +kernel
theorem dX10_layChains_61 : decode cX10_layChains 61 = .ok (.bipush 10, 2) := by decide +kernel
theorem dX10_layChains_63 : decode cX10_layChains 63 = .ok (.iload_n 3, 1) := by decide +kernel
theorem dX10_layChains_64 : decode cX10_layChains 64 = .ok (.iadd, 1) := by decide +kernel
theorem dX10_layChains_65 : decode cX10_layChains 65 = .ok (.iaload, 1) := by decide +kernel
theorem dX10_layChains_66 : decode cX10_layChains 66 = .ok (.if_icmp .ge 20, 3) := by decide +kernel
theorem dX10_layChains_69 : decode cX10_layChains 69 = .ok (.aload_n 0, 1) := by decide +kernel
theorem dX10_layChains_70 : decode cX10_layChains 70 = .ok (.getfield 16, 3) := by decide +kernel
theorem dX10_layChains_73 : decode cX10_layChains 73 = .ok (.bipush 34, 2) := by decide +kernel
theorem dX10_layChains_75 : decode cX10_layChains 75 = .ok (.iload_n 2, 1) := by decide +kernel
theorem dX10_layChains_76 : decode cX10_layChains 76 = .ok (.iadd, 1) := by decide +kernel
theorem dX10_layChains_77 : decode cX10_layChains 77 = .ok (.iaload, 1) := by decide +kernel
theorem dX10_layChains_78 : decode cX10_layChains 78 = .ok (.iload_n 1, 1) := by decide +kernel
theorem dX10_layChains_79 : decode cX10_layChains 79 = .ok (.if_icmp .ne 7, 3) := by decide +kernel
theorem dX10_layChains_82 : decode cX10_layChains 82 = .ok (.iconst 1, 1) := by decide +kernel
theorem dX10_layChains_83 : decode cX10_layChains 83 = .ok (.goto 4, 3) := by decide +kernel
theorem dX10_layChains_86 : decode cX10_layChains 86 = .ok (.iconst 0, 1) := by decide +kernel
theorem dX10_layChains_87 : decode cX10_layChains 87 = .ok (.istore 4, 2) := by decide +kernel
theorem dX10_layChains_89 : decode cX10_layChains 89 = .ok (.aload_n 0, 1) := by decide +kernel
theorem dX10_layChains_90 : decode cX10_layChains 90 = .ok (.getfield 16, 3) := by decide +kernel
theorem dX10_layChains_93 : decode cX10_layChains 93 = .ok (.bipush 18, 2) := by decide +kernel
theorem dX10_layChains_95 : decode cX10_layChains 95 = .ok (.iload_n 2, 1) := by decide +kernel
theorem dX10_layChains_96 : decode cX10_layChains 96 = .ok (.iadd, 1) := by decide +kernel
theorem dX10_layChains_97 : decode cX10_layChains 97 = .ok (.iaload, 1) := by decide +kernel
theorem dX10_layChains_98 : decode cX10_layChains 98 = .ok (.istore 5, 2) := by decide +kernel
theorem dX10_layChains_100 : decode cX10_layChains 100 = .ok (.iload 4, 2) := by decide +kernel
theorem dX10_layChains_102 : decode cX10_layChains 102 = .ok (.ifCond .eq 103, 3) := by decide +kernel
theorem dX10_layChains_105 : decode cX10_layChains 105 = .ok (.aload_n 0, 1) := by decide +kernel
theorem dX10_layChains_106 : decode cX10_layChains 106 = .ok (.getfield 44, 3) := by decide +kernel
theorem dX10_layChains_109 : decode cX10_layChains 109 = .ok (.iload_n 3, 1) := by decide +kernel
theorem dX10_layChains_110 : decode cX10_layChains 110 = .ok (.iaload, 1) := by decide +kernel
theorem dX10_layChains_111 : decode cX10_layChains 111 = .ok (.bipush (-9), 2) := by decide +kernel
theorem dX10_layChains_113 : decode cX10_layChains 113 = .ok (.if_icmp .ne 92, 3) := by decide +kernel
theorem dX10_layChains_116 : decode cX10_layChains 116 = .ok (.iload 5, 2) := by decide +kernel
theorem dX10_layChains_118 : decode cX10_layChains 118 = .ok (.ifCond .eq 87, 3) := by decide +kernel
theorem dX10_layChains_121 : decode cX10_layChains 121 = .ok (.aload_n 0, 1) := by decide +kernel
theorem dX10_layChains_122 : decode cX10_layChains 122 = .ok (.getfield 41, 3) := by decide +kernel
theorem dX10_layChains_125 : decode cX10_layChains 125 = .ok (.iload 5, 2) := by decide +kernel
theorem dX10_layChains_127 : decode cX10_layChains 127 = .ok (.iaload, 1) := by decide +kernel
theorem dX10_layChains_128 : decode cX10_layChains 128 = .ok (.iload 5, 2) := by decide +kernel
theorem dX10_layChains_130 : decode cX10_layChains 130 = .ok (.if_icmp .ne 75, 3) := by decide +kernel
theorem dX10_layChains_133 : decode cX10_layChains 133 = .ok (.aload_n 0, 1) := by decide +kernel
theorem dX10_layChains_134 : decode cX10_layChains 134 = .ok (.getfield 41, 3) := by decide +kernel
theorem dX10_layChains_137 : decode cX10_layChains 137 = .ok (.iload_n 3, 1) := by decide +kernel
theorem dX10_layChains_138 : decode cX10_layChains 138 = .ok (.iaload, 1) := by decide +kernel
theorem dX10_layChains_139 : decode cX10_layChains 139 = .ok (.iload 5, 2) := by decide +kernel
theorem dX10_layChains_141 : decode cX10_layChains 141 = .ok (.if_icmp .eq 64, 3) := by decide +kernel
theorem dX10_layChains_144 : decode cX10_layChains 144 = .ok (.aload_n 0, 1) := by decide +kernel
theorem dX10_layChains_145 : decode cX10_layChains 145 = .ok (.getfield 44, 3) := by decide +kernel
theorem dX10_layChains_148 : decode cX10_layChains 148 = .ok (.iload_n 3, 1) := by decide +kernel
theorem dX10_layChains_149 : decode cX10_layChains 149 = .ok (.iload 5, 2) := by decide +kernel
theorem dX10_layChains_151 : decode cX10_layChains 151 = .ok (.iastore, 1) := by decide +kernel
theorem dX10_layChains_152 : decode cX10_layChains 152 = .ok (.iconst 0, 1) := by decide +kernel
theorem dX10_layChains_153 : decode cX10_layChains 153 = .ok (.istore 6, 2) := by decide +kernel
theorem dX10_layChains_155 : decode cX10_layChains 155 = .ok (.iload 6, 2) := by decide +kernel
theorem dX10_layChains_157 : decode cX10_layChains 157 = .ok (.aload_n 0, 1) := by decide +kernel
theorem dX10_layChains_158 : decode cX10_layChains 158 = .ok (.getfield 53, 3) := by decide +kernel
theorem dX10_layChains_161 : decode cX10_layChains 161 = .ok (.if_icmp .ge 44, 3) := by decide +kernel
theorem dX10_layChains_164 : decode cX10_layChains 164 = .ok (.aload_n 0, 1) := by decide +kernel
theorem dX10_layChains_165 : decode cX10_layChains 165 = .ok (.getfield 41, 3) := by decide +kernel
theorem dX10_layChains_168 : decode cX10_layChains 168 = .ok (.iload 6, 2) := by decide +kernel
theorem dX10_layChains_170 : decode cX10_layChains 170 = .ok (.aload_n 0, 1) := by decide +kernel
theorem dX10_layChains_171 : decode cX10_layChains 171 = .ok (.getfield 41, 3) := by decide +kernel
theorem dX10_layChains_174 : decode cX10_layChains 174 = .ok (.iload 6, 2) := by decide +kernel
theorem dX10_layChains_176 : decode cX10_layChains 176 = .ok (.iaload, 1) := by decide +kernel
theorem dX10_layChains_177 : decode cX10_layChains 177 = .ok (.iload 5, 2) := by decide +kernel
theorem dX10_layChains_179 : decode cX10_layChains 179 = .ok (.if_icmp .ne 12, 3) := by decide +kernel
theorem dX10_layChains_182 : decode cX10_layChains 182 = .ok (.aload_n 0, 1) := by decide +kernel
theorem dX10_layChains_183 : decode cX10_layChains 183 = .ok (.getfield 41, 3) := by decide +kernel
theorem dX10_layChains_186 : decode cX10_layChains 186 = .ok (.iload_n 3, 1) := by decide +kernel
theorem dX10_layChains_187 : decode cX10_layChains 187 = .ok (.iaload, 1) := by decide +kernel
theorem dX10_layChains_188 : decode cX10_layChains 188 = .ok (.goto 10, 3) := by decide +kernel
theorem dX10_layChains_191 : decode cX10_layChains 191 = .ok (.aload_n 0, 1) := by decide +kernel
theorem dX10_layChains_192 : decode cX10_layChains 192 = .ok (.getfield 41, 3) := by decide +kernel
theorem dX10_layChains_195 : decode cX10_layChains 195 = .ok (.iload 6, 2) := by decide +kernel
theorem dX10_layChains_197 : decode cX10_layChains 197 = .ok (.iaload, 1) := by decide +kernel
theorem dX10_layChains_198 : decode cX10_layChains 198 = .ok (.iastore, 1) := by decide +kernel
theorem dX10_layChains_199 : decode cX10_layChains 199 = .ok (.iinc 6 1, 3) := by decide +kernel
theorem dX10_layChains_202 : decode cX10_layChains 202 = .ok (.goto (-47), 3) := by decide +kernel
theorem dX10_layChains_205 : decode cX10_layChains 205 = .ok (.iinc 2 1, 3) := by decide +kernel
theorem dX10_layChains_208 : decode cX10_layChains 208 = .ok (.goto (-168), 3) := by decide +kernel
theorem dX10_layChains_211 : decode cX10_layChains 211 = .ok (.iinc 1 (-1), 3) := by decide +kernel
theorem dX10_layChains_214 : decode cX10_layChains 214 = .ok (.goto (-180), 3) := by decide +kernel
theorem dX10_layChains_217 : decode cX10_layChains 217 = .ok (.return_, 1) := by decide +kernel
theorem dX10_chainHead_0 : decode cX10_chainHead 0 = .ok (.aload_n 0, 1) := by decide +kernel
theorem dX10_chainHead_1 : decode cX10_chainHead 1 = .ok (.iload_n 1, 1) := by decide +kernel
theorem dX10_chainHead_2 : decode cX10_chainHead 2 = .ok (.invokevirtual 61, 3) := by decide +kernel
theorem dX10_chainHead_5 : decode cX10_chainHead 5 = .ok (.ifCond .ne 5, 3) := by decide +kernel
theorem dX10_chainHead_8 : decode cX10_chainHead 8 = .ok (.iconst (-1), 1) := by decide +kernel
theorem dX10_chainHead_9 : decode cX10_chainHead 9 = .ok (.ireturn, 1) := by decide +kernel
theorem dX10_chainHead_10 : decode cX10_chainHead 10 = .ok (.aload_n 0, 1) := by decide +kernel
theorem dX10_chainHead_11 : decode cX10_chainHead 11 = .ok (.invokevirtual 147, 3) := by decide +kernel
theorem dX10_chainHead_14 : decode cX10_chainHead 14 = .ok (.aload_n 0, 1) := by decide +kernel
theorem dX10_chainHead_15 : decode cX10_chainHead 15 = .ok (.getfield 41, 3) := by decide +kernel
theorem dX10_chainHead_18 : decode cX10_chainHead 18 = .ok (.iload_n 1, 1) := by decide +kernel
theorem dX10_chainHead_19 : decode cX10_chainHead 19 = .ok (.iaload, 1) := by decide +kernel
theorem dX10_chainHead_20 : decode cX10_chainHead 20 = .ok (.ireturn, 1) := by decide +kernel
theorem dX10_weightOf_0 : decode cX10_weightOf 0 = .ok (.iconst 0, 1) := by decide +kernel
theorem dX10_weightOf_1 : decode cX10_weightOf 1 = .ok (.istore_n 2, 1) := by decide +kernel
theorem dX10_weightOf_2 : decode cX10_weightOf 2 = .ok (.iconst 0, 1) := by decide +kernel
theorem dX10_weightOf_3 : decode cX10_weightOf 3 = .ok (.istore_n 3, 1) := by decide +kernel
theorem dX10_weightOf_4 : decode cX10_weightOf 4 = .ok (.iload_n 3, 1) := by decide +kernel
theorem dX10_weightOf_5 : decode cX10_weightOf 5 = .ok (.aload_n 0, 1) := by decide +kernel
theorem dX10_weightOf_6 : decode cX10_weightOf 6 = .ok (.getfield 53, 3) := by decide +kernel
theorem dX10_weightOf_9 : decode cX10_weightOf 9 = .ok (.if_icmp .ge 121, 3) := by decide +kernel
theorem dX10_weightOf_12 : decode cX10_weightOf 12 = .ok (.iconst 0, 1) := by decide +kernel
theorem dX10_weightOf_13 : decode cX10_weightOf 13 = .ok (.istore 4, 2) := by decide +kernel
theorem dX10_weightOf_15 : decode cX10_weightOf 15 = .ok (.iload 4, 2) := by decide +kernel
theorem dX10_weightOf_17 : decode cX10_weightOf 17 = .ok (.aload_n 0, 1) := by decide +kernel
theorem dX10_weightOf_18 : decode cX10_weightOf 18 = .ok (.getfield 16, 3) := by decide +kernel
theorem dX10_weightOf_21 : decode cX10_weightOf 21 = .ok (.bipush 10, 2) := by decide +kernel
theorem dX10_weightOf_23 : decode cX10_weightOf 23 = .ok (.iload_n 3, 1) := by decide +kernel
theorem dX10_weightOf_24 : decode cX10_weightOf 24 = .ok (.iadd, 1) := by decide +kernel
theorem dX10_weightOf_25 : decode cX10_weightOf 25 = .ok (.iaload, 1) := by decide +kernel
theorem dX10_weightOf_26 : decode cX10_weightOf 26 = .ok (.if_icmp .ge 98, 3) := by decide +kernel
theorem dX10_weightOf_29 : decode cX10_weightOf 29 = .ok (.aload_n 0, 1) := by decide +kernel
theorem dX10_weightOf_30 : decode cX10_weightOf 30 = .ok (.getfield 16, 3) := by decide +kernel
theorem dX10_weightOf_33 : decode cX10_weightOf 33 = .ok (.bipush 18, 2) := by decide +kernel
theorem dX10_weightOf_35 : decode cX10_weightOf 35 = .ok (.iconst 2, 1) := by decide +kernel
theorem dX10_weightOf_36 : decode cX10_weightOf 36 = .ok (.iload_n 3, 1) := by decide +kernel
theorem dX10_weightOf_37 : decode cX10_weightOf 37 = .ok (.imul, 1) := by decide +kernel
theorem dX10_weightOf_38 : decode cX10_weightOf 38 = .ok (.iadd, 1) := by decide +kernel
theorem dX10_weightOf_39 : decode cX10_weightOf 39 = .ok (.iload 4, 2) := by decide +kernel
theorem dX10_weightOf_41 : decode cX10_weightOf 41 = .ok (.iadd, 1) := by decide +kernel
theorem dX10_weightOf_42 : decode cX10_weightOf 42 = .ok (.iaload, 1) := by decide +kernel
theorem dX10_weightOf_43 : decode cX10_weightOf 43 = .ok (.istore 5, 2) := by decide +kernel
theorem dX10_weightOf_45 : decode cX10_weightOf 45 = .ok (.aload_n 0, 1) := by decide +kernel
theorem dX10_weightOf_46 : decode cX10_weightOf 46 = .ok (.getfield 47, 3) := by decide +kernel
theorem dX10_weightOf_49 : decode cX10_weightOf 49 = .ok (.iload_n 3, 1) := by decide +kernel
theorem dX10_weightOf_50 : decode cX10_weightOf 50 = .ok (.baload, 1) := by decide +kernel
theorem dX10_weightOf_51 : decode cX10_weightOf 51 = .ok (.ifCond .eq 14, 3) := by decide +kernel
theorem dX10_weightOf_54 : decode cX10_weightOf 54 = .ok (.aload_n 0, 1) := by decide +kernel
theorem dX10_weightOf_55 : decode cX10_weightOf 55 = .ok (.getfield 41, 3) := by decide +kernel
theorem dX10_weightOf_58 : decode cX10_weightOf 58 = .ok (.iload 5, 2) := by decide +kernel
theorem dX10_weightOf_60 : decode cX10_weightOf 60 = .ok (.iaload, 1) := by decide +kernel
theorem dX10_weightOf_61 : decode cX10_weightOf 61 = .ok (.iload_n 1, 1) := by decide +kernel
theorem dX10_weightOf_62 : decode cX10_weightOf 62 = .ok (.if_icmp .eq 23, 3) := by decide +kernel
theorem dX10_weightOf_65 : decode cX10_weightOf 65 = .ok (.aload_n 0, 1) := by decide +kernel
theorem dX10_weightOf_66 : decode cX10_weightOf 66 = .ok (.getfield 47, 3) := by decide +kernel
theorem dX10_weightOf_69 : decode cX10_weightOf 69 = .ok (.iload 5, 2) := by decide +kernel
theorem dX10_weightOf_71 : decode cX10_weightOf 71 = .ok (.baload, 1) := by decide +kernel
theorem dX10_weightOf_72 : decode cX10_weightOf 72 = .ok (.ifCond .eq 17, 3) := by decide +kernel
theorem dX10_weightOf_75 : decode cX10_weightOf 75 = .ok (.aload_n 0, 1) := by decide +kernel
theorem dX10_weightOf_76 : decode cX10_weightOf 76 = .ok (.getfield 41, 3) := by decide +kernel
theorem dX10_weightOf_79 : decode cX10_weightOf 79 = .ok (.iload_n 3, 1) := by decide +kernel
theorem dX10_weightOf_80 : decode cX10_weightOf 80 = .ok (.iaload, 1) := by decide +kernel
theorem dX10_weightOf_81 : decode cX10_weightOf 81 = .ok (.iload_n 1, 1) := by decide +kernel
theorem dX10_weightOf_82 : decode cX10_weightOf 82 = .ok (.if_icmp .ne 7, 3) := by decide +kernel
theorem dX10_weightOf_85 : decode cX10_weightOf 85 = .ok (.iconst 1, 1) := by decide +kernel
theorem dX10_weightOf_86 : decode cX10_weightOf 86 = .ok (.goto 4, 3) := by decide +kernel
theorem dX10_weightOf_89 : decode cX10_weightOf 89 = .ok (.iconst 0, 1) := by decide +kernel
theorem dX10_weightOf_90 : decode cX10_weightOf 90 = .ok (.istore 6, 2) := by decide +kernel
theorem dX10_weightOf_92 : decode cX10_weightOf 92 = .ok (.iload_n 2, 1) := by decide +kernel
theorem dX10_weightOf_93 : decode cX10_weightOf 93 = .ok (.iload 6, 2) := by decide +kernel
theorem dX10_weightOf_95 : decode cX10_weightOf 95 = .ok (.ifCond .eq 20, 3) := by decide +kernel
theorem dX10_weightOf_98 : decode cX10_weightOf 98 = .ok (.aload_n 0, 1) := by decide +kernel
theorem dX10_weightOf_99 : decode cX10_weightOf 99 = .ok (.getfield 16, 3) := by decide +kernel
theorem dX10_weightOf_102 : decode cX10_weightOf 102 = .ok (.bipush 34, 2) := by decide +kernel
theorem dX10_weightOf_104 : decode cX10_weightOf 104 = .ok (.iconst 2, 1) := by decide +kernel
theorem dX10_weightOf_105 : decode cX10_weightOf 105 = .ok (.iload_n 3, 1) := by decide +kernel
theorem dX10_weightOf_106 : decode cX10_weightOf 106 = .ok (.imul, 1) := by decide +kernel
theorem dX10_weightOf_107 : decode cX10_weightOf 107 = .ok (.iadd, 1) := by decide +kernel
theorem dX10_weightOf_108 : decode cX10_weightOf 108 = .ok (.iload 4, 2) := by decide +kernel
theorem dX10_weightOf_110 : decode cX10_weightOf 110 = .ok (.iadd, 1) := by decide +kernel
theorem dX10_weightOf_111 : decode cX10_weightOf 111 = .ok (.iaload, 1) := by decide +kernel
theorem dX10_weightOf_112 : decode cX10_weightOf 112 = .ok (.goto 4, 3) := by decide +kernel
theorem dX10_weightOf_115 : decode cX10_weightOf 115 = .ok (.iconst 0, 1) := by decide +kernel
theorem dX10_weightOf_116 : decode cX10_weightOf 116 = .ok (.iadd, 1) := by decide +kernel
theorem dX10_weightOf_117 : decode cX10_weightOf 117 = .ok (.istore_n 2, 1) := by decide +kernel
theorem dX10_weightOf_118 : decode cX10_weightOf 118 = .ok (.iinc 4 1, 3) := by decide +kernel
theorem dX10_weightOf_121 : decode cX10_weightOf 121 = .ok (.goto (-106), 3) := by decide +kernel
theorem dX10_weightOf_124 : decode cX10_weightOf 124 = .ok (.iinc 3 1, 3) := by decide +kernel
theorem dX10_weightOf_127 : decode cX10_weightOf 127 = .ok (.goto (-123), 3) := by decide +kernel
theorem dX10_weightOf_130 : decode cX10_weightOf 130 = .ok (.iload_n 2, 1) := by decide +kernel
theorem dX10_weightOf_131 : decode cX10_weightOf 131 = .ok (.ireturn, 1) := by decide +kernel
theorem dX10_orderByChains_0 : decode cX10_orderByChains 0 = .ok (.aload_n 0, 1) := by decide +kernel
theorem dX10_orderByChains_1 : decode cX10_orderByChains 1 = .ok (.invokevirtual 150, 3) := by decide +kernel
theorem dX10_orderByChains_4 : decode cX10_orderByChains 4 = .ok (.aload_n 0, 1) := by decide +kernel
theorem dX10_orderByChains_5 : decode cX10_orderByChains 5 = .ok (.invokevirtual 147, 3) := by decide +kernel
theorem dX10_orderByChains_8 : decode cX10_orderByChains 8 = .ok (.iconst 0, 1) := by decide +kernel
theorem dX10_orderByChains_9 : decode cX10_orderByChains 9 = .ok (.istore_n 1, 1) := by decide +kernel
theorem dX10_orderByChains_10 : decode cX10_orderByChains 10 = .ok (.iload_n 1, 1) := by decide +kernel
theorem dX10_orderByChains_11 : decode cX10_orderByChains 11 = .ok (.aload_n 0, 1) := by decide +kernel
theorem dX10_orderByChains_12 : decode cX10_orderByChains 12 = .ok (.getfield 53, 3) := by decide +kernel
theorem dX10_orderByChains_15 : decode cX10_orderByChains 15 = .ok (.if_icmp .ge 16, 3) := by decide +kernel
theorem dX10_orderByChains_18 : decode cX10_orderByChains 18 = .ok (.aload_n 0, 1) := by decide +kernel
theorem dX10_orderByChains_19 : decode cX10_orderByChains 19 = .ok (.getfield 47, 3) := by decide +kernel
theorem dX10_orderByChains_22 : decode cX10_orderByChains 22 = .ok (.iload_n 1, 1) := by decide +kernel
theorem dX10_orderByChains_23 : decode cX10_orderByChains 23 = .ok (.iconst 0, 1) := by decide +kernel
theorem dX10_orderByChains_24 : decode cX10_orderByChains 24 = .ok (.bastore, 1) := by decide +kernel
theorem dX10_orderByChains_25 : decode cX10_orderByChains 25 = .ok (.iinc 1 1, 3) := by decide +kernel
theorem dX10_orderByChains_28 : decode cX10_orderByChains 28 = .ok (.goto (-18), 3) := by decide +kernel
theorem dX10_orderByChains_31 : decode cX10_orderByChains 31 = .ok (.iconst 0, 1) := by decide +kernel
theorem dX10_orderByChains_32 : decode cX10_orderByChains 32 = .ok (.istore_n 1, 1) := by decide +kernel
theorem dX10_orderByChains_33 : decode cX10_orderByChains 33 = .ok (.iconst 0, 1) := by decide +kernel
theorem dX10_orderByChains_34 : decode cX10_orderByChains 34 = .ok (.istore_n 2, 1) := by decide +kernel
theorem dX10_orderByChains_35 : decode cX10_orderByChains 35 = .ok (.iload_n 1, 1) := by decide +kernel
theorem dX10_orderByChains_36 : decode cX10_orderByChains 36 = .ok (.aload_n 0, 1) := by decide +kernel
theorem dX10_orderByChains_37 : decode cX10_orderByChains 37 = .ok (.getfield 53, 3) := by decide +kernel
theorem dX10_orderByChains_40 : decode cX10_orderByChains 40 = .ok (.if_icmp .ge 105, 3) := by decide +kernel
theorem dX10_orderByChains_43 : decode cX10_orderByChains 43 = .ok (.iload_n 2, 1) := by decide +kernel
theorem dX10_orderByChains_44 : decode cX10_orderByChains 44 = .ok (.istore_n 3, 1) := by decide +kernel
theorem dX10_orderByChains_45 : decode cX10_orderByChains 45 = .ok (.iload_n 3, 1) := by decide +kernel
theorem dX10_orderByChains_46 : decode cX10_orderByChains 46 = .ok (.bipush (-9), 2) := by decide +kernel
theorem dX10_orderByChains_48 : decode cX10_orderByChains 48 = .ok (.if_icmp .eq 32, 3) := by decide +kernel
theorem dX10_orderByChains_51 : decode cX10_orderByChains 51 = .ok (.aload_n 0, 1) := by decide +kernel
theorem dX10_orderByChains_52 : decode cX10_orderByChains 52 = .ok (.getfield 16, 3) := by decide +kernel
theorem dX10_orderByChains_55 : decode cX10_orderByChains 55 = .ok (.iconst 2, 1) := by decide +kernel
theorem dX10_orderByChains_56 : decode cX10_orderByChains 56 = .ok (.iload_n 1, 1) := by decide +kernel
theorem dX10_orderByChains_57 : decode cX10_orderByChains 57 = .ok (.iadd, 1) := by decide +kernel
theorem dX10_orderByChains_58 : decode cX10_orderByChains 58 = .ok (.iload_n 3, 1) := by decide +kernel
theorem dX10_orderByChains_59 : decode cX10_orderByChains 59 = .ok (.iastore, 1) := by decide +kernel
theorem dX10_orderByChains_60 : decode cX10_orderByChains 60 = .ok (.aload_n 0, 1) := by decide +kernel
theorem dX10_orderByChains_61 : decode cX10_orderByChains 61 = .ok (.getfield 47, 3) := by decide +kernel
end
section
theorem dX10_orderByChains_64 : decode cX10_orderByChains 64 = .ok (.iload_n 3, 1) := by decide +kernel
theorem dX10_orderByChains_65 : decode cX10_orderByChains 65 = .ok (.iconst 1, 1) := by decide +kernel
theorem dX10_orderByChains_66 : decode cX10_orderByChains 66 = .ok (.bastore, 1) := by decide +kernel
theorem dX10_orderByChains_67 : decode cX10_orderByChains 67 = .ok (.iinc 1 1, 3) := by decide +kernel
theorem dX10_orderByChains_70 : decode cX10_orderByChains 70 = .ok (.aload_n 0, 1) := by decide +kernel
theorem dX10_orderByChains_71 : decode cX10_orderByChains 71 = .ok (.getfield 44, 3) := by decide +kernel
theorem dX10_orderByChains_74 : decode cX10_orderByChains 74 = .ok (.iload_n 3, 1) := by decide +kernel
theorem dX10_orderByChains_75 : decode cX10_orderByChains 75 = .ok (.iaload, 1) := by decide +kernel
theorem dX10_orderByChains_76 : decode cX10_orderByChains 76 = .ok (.istore_n 3, 1) := by decide +kernel
theorem dX10_orderByChains_77 : decode cX10_orderByChains 77 = .ok (.goto (-32), 3) := by decide +kernel
theorem dX10_orderByChains_80 : decode cX10_orderByChains 80 = .ok (.iconst (-1), 1) := by decide +kernel
theorem dX10_orderByChains_81 : decode cX10_orderByChains 81 = .ok (.istore_n 3, 1) := by decide +kernel
theorem dX10_orderByChains_82 : decode cX10_orderByChains 82 = .ok (.iconst 0, 1) := by decide +kernel
theorem dX10_orderByChains_83 : decode cX10_orderByChains 83 = .ok (.istore 4, 2) := by decide +kernel
theorem dX10_orderByChains_85 : decode cX10_orderByChains 85 = .ok (.iload 4, 2) := by decide +kernel
theorem dX10_orderByChains_87 : decode cX10_orderByChains 87 = .ok (.aload_n 0, 1) := by decide +kernel
theorem dX10_orderByChains_88 : decode cX10_orderByChains 88 = .ok (.getfield 53, 3) := by decide +kernel
theorem dX10_orderByChains_91 : decode cX10_orderByChains 91 = .ok (.if_icmp .ge 51, 3) := by decide +kernel
theorem dX10_orderByChains_94 : decode cX10_orderByChains 94 = .ok (.aload_n 0, 1) := by decide +kernel
theorem dX10_orderByChains_95 : decode cX10_orderByChains 95 = .ok (.getfield 41, 3) := by decide +kernel
theorem dX10_orderByChains_98 : decode cX10_orderByChains 98 = .ok (.iload 4, 2) := by decide +kernel
theorem dX10_orderByChains_100 : decode cX10_orderByChains 100 = .ok (.iaload, 1) := by decide +kernel
theorem dX10_orderByChains_101 : decode cX10_orderByChains 101 = .ok (.iload 4, 2) := by decide +kernel
theorem dX10_orderByChains_103 : decode cX10_orderByChains 103 = .ok (.if_icmp .ne 33, 3) := by decide +kernel
theorem dX10_orderByChains_106 : decode cX10_orderByChains 106 = .ok (.aload_n 0, 1) := by decide +kernel
theorem dX10_orderByChains_107 : decode cX10_orderByChains 107 = .ok (.getfield 47, 3) := by decide +kernel
theorem dX10_orderByChains_110 : decode cX10_orderByChains 110 = .ok (.iload 4, 2) := by decide +kernel
theorem dX10_orderByChains_112 : decode cX10_orderByChains 112 = .ok (.baload, 1) := by decide +kernel
theorem dX10_orderByChains_113 : decode cX10_orderByChains 113 = .ok (.ifCond .ne 23, 3) := by decide +kernel
theorem dX10_orderByChains_116 : decode cX10_orderByChains 116 = .ok (.aload_n 0, 1) := by decide +kernel
theorem dX10_orderByChains_117 : decode cX10_orderByChains 117 = .ok (.iload 4, 2) := by decide +kernel
theorem dX10_orderByChains_119 : decode cX10_orderByChains 119 = .ok (.invokevirtual 153, 3) := by decide +kernel
theorem dX10_orderByChains_122 : decode cX10_orderByChains 122 = .ok (.iload_n 3, 1) := by decide +kernel
theorem dX10_orderByChains_123 : decode cX10_orderByChains 123 = .ok (.if_icmp .le 13, 3) := by decide +kernel
theorem dX10_orderByChains_126 : decode cX10_orderByChains 126 = .ok (.aload_n 0, 1) := by decide +kernel
theorem dX10_orderByChains_127 : decode cX10_orderByChains 127 = .ok (.iload 4, 2) := by decide +kernel
theorem dX10_orderByChains_129 : decode cX10_orderByChains 129 = .ok (.invokevirtual 153, 3) := by decide +kernel
theorem dX10_orderByChains_132 : decode cX10_orderByChains 132 = .ok (.istore_n 3, 1) := by decide +kernel
theorem dX10_orderByChains_133 : decode cX10_orderByChains 133 = .ok (.iload 4, 2) := by decide +kernel
theorem dX10_orderByChains_135 : decode cX10_orderByChains 135 = .ok (.istore_n 2, 1) := by decide +kernel
theorem dX10_orderByChains_136 : decode cX10_orderByChains 136 = .ok (.iinc 4 1, 3) := by decide +kernel
theorem dX10_orderByChains_139 : decode cX10_orderByChains 139 = .ok (.goto (-54), 3) := by decide +kernel
theorem dX10_orderByChains_142 : decode cX10_orderByChains 142 = .ok (.goto (-107), 3) := by decide +kernel
theorem dX10_orderByChains_145 : decode cX10_orderByChains 145 = .ok (.aload_n 0, 1) := by decide +kernel
theorem dX10_orderByChains_146 : decode cX10_orderByChains 146 = .ok (.getfield 16, 3) := by decide +kernel
theorem dX10_orderByChains_149 : decode cX10_orderByChains 149 = .ok (.iconst 0, 1) := by decide +kernel
theorem dX10_orderByChains_150 : decode cX10_orderByChains 150 = .ok (.aload_n 0, 1) := by decide +kernel
theorem dX10_orderByChains_151 : decode cX10_orderByChains 151 = .ok (.getfield 53, 3) := by decide +kernel
theorem dX10_orderByChains_154 : decode cX10_orderByChains 154 = .ok (.iastore, 1) := by decide +kernel
theorem dX10_orderByChains_155 : decode cX10_orderByChains 155 = .ok (.aload_n 0, 1) := by decide +kernel
theorem dX10_orderByChains_156 : decode cX10_orderByChains 156 = .ok (.aload_n 0, 1) := by decide +kernel
theorem dX10_orderByChains_157 : decode cX10_orderByChains 157 = .ok (.getfield 16, 3) := by decide +kernel
theorem dX10_orderByChains_160 : decode cX10_orderByChains 160 = .ok (.invokevirtual 140, 3) := by decide +kernel
theorem dX10_orderByChains_163 : decode cX10_orderByChains 163 = .ok (.ireturn, 1) := by decide +kernel
theorem dX10_layOrder_0 : decode cX10_layOrder 0 = .ok (.aload_n 0, 1) := by decide +kernel
theorem dX10_layOrder_1 : decode cX10_layOrder 1 = .ok (.getfield 16, 3) := by decide +kernel
theorem dX10_layOrder_4 : decode cX10_layOrder 4 = .ok (.aload_n 0, 1) := by decide +kernel
theorem dX10_layOrder_5 : decode cX10_layOrder 5 = .ok (.getfield 19, 3) := by decide +kernel
theorem dX10_layOrder_8 : decode cX10_layOrder 8 = .ok (.invokestatic 100, 3) := by decide +kernel
theorem dX10_layOrder_11 : decode cX10_layOrder 11 = .ok (.iconst 0, 1) := by decide +kernel
theorem dX10_layOrder_12 : decode cX10_layOrder 12 = .ok (.istore_n 3, 1) := by decide +kernel
theorem dX10_layOrder_13 : decode cX10_layOrder 13 = .ok (.iconst 1, 1) := by decide +kernel
theorem dX10_layOrder_14 : decode cX10_layOrder 14 = .ok (.istore 4, 2) := by decide +kernel
theorem dX10_layOrder_16 : decode cX10_layOrder 16 = .ok (.iload 4, 2) := by decide +kernel
theorem dX10_layOrder_18 : decode cX10_layOrder 18 = .ok (.aload_n 0, 1) := by decide +kernel
theorem dX10_layOrder_19 : decode cX10_layOrder 19 = .ok (.getfield 53, 3) := by decide +kernel
theorem dX10_layOrder_22 : decode cX10_layOrder 22 = .ok (.if_icmp .ge 39, 3) := by decide +kernel
theorem dX10_layOrder_25 : decode cX10_layOrder 25 = .ok (.aload_n 0, 1) := by decide +kernel
theorem dX10_layOrder_26 : decode cX10_layOrder 26 = .ok (.aload_n 0, 1) := by decide +kernel
theorem dX10_layOrder_27 : decode cX10_layOrder 27 = .ok (.getfield 16, 3) := by decide +kernel
theorem dX10_layOrder_30 : decode cX10_layOrder 30 = .ok (.iload 4, 2) := by decide +kernel
theorem dX10_layOrder_32 : decode cX10_layOrder 32 = .ok (.invokevirtual 114, 3) := by decide +kernel
theorem dX10_layOrder_35 : decode cX10_layOrder 35 = .ok (.aload_n 0, 1) := by decide +kernel
theorem dX10_layOrder_36 : decode cX10_layOrder 36 = .ok (.getfield 16, 3) := by decide +kernel
theorem dX10_layOrder_39 : decode cX10_layOrder 39 = .ok (.iconst 0, 1) := by decide +kernel
theorem dX10_layOrder_40 : decode cX10_layOrder 40 = .ok (.iaload, 1) := by decide +kernel
theorem dX10_layOrder_41 : decode cX10_layOrder 41 = .ok (.if_icmp .ge 14, 3) := by decide +kernel
theorem dX10_layOrder_44 : decode cX10_layOrder 44 = .ok (.aload_n 0, 1) := by decide +kernel
theorem dX10_layOrder_45 : decode cX10_layOrder 45 = .ok (.getfield 50, 3) := by decide +kernel
theorem dX10_layOrder_48 : decode cX10_layOrder 48 = .ok (.iload_n 3, 1) := by decide +kernel
theorem dX10_layOrder_49 : decode cX10_layOrder 49 = .ok (.iload 4, 2) := by decide +kernel
theorem dX10_layOrder_51 : decode cX10_layOrder 51 = .ok (.iastore, 1) := by decide +kernel
theorem dX10_layOrder_52 : decode cX10_layOrder 52 = .ok (.iinc 3 1, 3) := by decide +kernel
theorem dX10_layOrder_55 : decode cX10_layOrder 55 = .ok (.iinc 4 1, 3) := by decide +kernel
theorem dX10_layOrder_58 : decode cX10_layOrder 58 = .ok (.goto (-42), 3) := by decide +kernel
theorem dX10_layOrder_61 : decode cX10_layOrder 61 = .ok (.iload_n 1, 1) := by decide +kernel
theorem dX10_layOrder_62 : decode cX10_layOrder 62 = .ok (.istore 4, 2) := by decide +kernel
theorem dX10_layOrder_64 : decode cX10_layOrder 64 = .ok (.iload_n 2, 1) := by decide +kernel
theorem dX10_layOrder_65 : decode cX10_layOrder 65 = .ok (.istore 5, 2) := by decide +kernel
theorem dX10_layOrder_67 : decode cX10_layOrder 67 = .ok (.iconst 1, 1) := by decide +kernel
theorem dX10_layOrder_68 : decode cX10_layOrder 68 = .ok (.istore 6, 2) := by decide +kernel
theorem dX10_layOrder_70 : decode cX10_layOrder 70 = .ok (.iload_n 3, 1) := by decide +kernel
theorem dX10_layOrder_71 : decode cX10_layOrder 71 = .ok (.ifCond .le 80, 3) := by decide +kernel
theorem dX10_layOrder_74 : decode cX10_layOrder 74 = .ok (.iload 5, 2) := by decide +kernel
theorem dX10_layOrder_76 : decode cX10_layOrder 76 = .ok (.iload_n 3, 1) := by decide +kernel
theorem dX10_layOrder_77 : decode cX10_layOrder 77 = .ok (.idiv, 1) := by decide +kernel
theorem dX10_layOrder_78 : decode cX10_layOrder 78 = .ok (.istore 5, 2) := by decide +kernel
theorem dX10_layOrder_80 : decode cX10_layOrder 80 = .ok (.iload 4, 2) := by decide +kernel
theorem dX10_layOrder_82 : decode cX10_layOrder 82 = .ok (.iload 5, 2) := by decide +kernel
theorem dX10_layOrder_84 : decode cX10_layOrder 84 = .ok (.idiv, 1) := by decide +kernel
theorem dX10_layOrder_85 : decode cX10_layOrder 85 = .ok (.istore 7, 2) := by decide +kernel
theorem dX10_layOrder_87 : decode cX10_layOrder 87 = .ok (.iload 4, 2) := by decide +kernel
theorem dX10_layOrder_89 : decode cX10_layOrder 89 = .ok (.iload 5, 2) := by decide +kernel
theorem dX10_layOrder_91 : decode cX10_layOrder 91 = .ok (.irem, 1) := by decide +kernel
theorem dX10_layOrder_92 : decode cX10_layOrder 92 = .ok (.istore 4, 2) := by decide +kernel
theorem dX10_layOrder_94 : decode cX10_layOrder 94 = .ok (.aload_n 0, 1) := by decide +kernel
theorem dX10_layOrder_95 : decode cX10_layOrder 95 = .ok (.getfield 19, 3) := by decide +kernel
theorem dX10_layOrder_98 : decode cX10_layOrder 98 = .ok (.iconst 2, 1) := by decide +kernel
theorem dX10_layOrder_99 : decode cX10_layOrder 99 = .ok (.iload 6, 2) := by decide +kernel
theorem dX10_layOrder_101 : decode cX10_layOrder 101 = .ok (.iadd, 1) := by decide +kernel
theorem dX10_layOrder_102 : decode cX10_layOrder 102 = .ok (.aload_n 0, 1) := by decide +kernel
theorem dX10_layOrder_103 : decode cX10_layOrder 103 = .ok (.getfield 50, 3) := by decide +kernel
theorem dX10_layOrder_106 : decode cX10_layOrder 106 = .ok (.iload 7, 2) := by decide +kernel
theorem dX10_layOrder_108 : decode cX10_layOrder 108 = .ok (.iaload, 1) := by decide +kernel
theorem dX10_layOrder_109 : decode cX10_layOrder 109 = .ok (.iastore, 1) := by decide +kernel
theorem dX10_layOrder_110 : decode cX10_layOrder 110 = .ok (.iinc 3 (-1), 3) := by decide +kernel
theorem dX10_layOrder_113 : decode cX10_layOrder 113 = .ok (.iload 7, 2) := by decide +kernel
theorem dX10_layOrder_115 : decode cX10_layOrder 115 = .ok (.istore 8, 2) := by decide +kernel
theorem dX10_layOrder_117 : decode cX10_layOrder 117 = .ok (.iload 8, 2) := by decide +kernel
theorem dX10_layOrder_119 : decode cX10_layOrder 119 = .ok (.iload_n 3, 1) := by decide +kernel
theorem dX10_layOrder_120 : decode cX10_layOrder 120 = .ok (.if_icmp .ge 25, 3) := by decide +kernel
theorem dX10_layOrder_123 : decode cX10_layOrder 123 = .ok (.aload_n 0, 1) := by decide +kernel
theorem dX10_layOrder_124 : decode cX10_layOrder 124 = .ok (.getfield 50, 3) := by decide +kernel
theorem dX10_layOrder_127 : decode cX10_layOrder 127 = .ok (.iload 8, 2) := by decide +kernel
theorem dX10_layOrder_129 : decode cX10_layOrder 129 = .ok (.aload_n 0, 1) := by decide +kernel
theorem dX10_layOrder_130 : decode cX10_layOrder 130 = .ok (.getfield 50, 3) := by decide +kernel
theorem dX10_layOrder_133 : decode cX10_layOrder 133 = .ok (.iload 8, 2) := by decide +kernel
theorem dX10_layOrder_135 : decode cX10_layOrder 135 = .ok (.iconst 1, 1) := by decide +kernel
theorem dX10_layOrder_136 : decode cX10_layOrder 136 = .ok (.iadd, 1) := by decide +kernel
theorem dX10_layOrder_137 : decode cX10_layOrder 137 = .ok (.iaload, 1) := by decide +kernel
theorem dX10_layOrder_138 : decode cX10_layOrder 138 = .ok (.iastore, 1) := by decide +kernel
theorem dX10_layOrder_139 : decode cX10_layOrder 139 = .ok (.iinc 8 1, 3) := by decide +kernel
theorem dX10_layOrder_142 : decode cX10_layOrder 142 = .ok (.goto (-25), 3) := by decide +kernel
theorem dX10_layOrder_145 : decode cX10_layOrder 145 = .ok (.iinc 6 1, 3) := by decide +kernel
theorem dX10_layOrder_148 : decode cX10_layOrder 148 = .ok (.goto (-78), 3) := by decide +kernel
theorem dX10_layOrder_151 : decode cX10_layOrder 151 = .ok (.return_, 1) := by decide +kernel
theorem dX10_findOptimal_0 : decode cX10_findOptimal 0 = .ok (.iconst 1, 1) := by decide +kernel
theorem dX10_findOptimal_1 : decode cX10_findOptimal 1 = .ok (.istore_n 1, 1) := by decide +kernel
theorem dX10_findOptimal_2 : decode cX10_findOptimal 2 = .ok (.iconst 2, 1) := by decide +kernel
theorem dX10_findOptimal_3 : decode cX10_findOptimal 3 = .ok (.istore_n 2, 1) := by decide +kernel
theorem dX10_findOptimal_4 : decode cX10_findOptimal 4 = .ok (.iload_n 2, 1) := by decide +kernel
theorem dX10_findOptimal_5 : decode cX10_findOptimal 5 = .ok (.aload_n 0, 1) := by decide +kernel
theorem dX10_findOptimal_6 : decode cX10_findOptimal 6 = .ok (.getfield 16, 3) := by decide +kernel
theorem dX10_findOptimal_9 : decode cX10_findOptimal 9 = .ok (.iconst 0, 1) := by decide +kernel
theorem dX10_findOptimal_10 : decode cX10_findOptimal 10 = .ok (.iaload, 1) := by decide +kernel
theorem dX10_findOptimal_11 : decode cX10_findOptimal 11 = .ok (.if_icmp .ge 13, 3) := by decide +kernel
theorem dX10_findOptimal_14 : decode cX10_findOptimal 14 = .ok (.iload_n 1, 1) := by decide +kernel
theorem dX10_findOptimal_15 : decode cX10_findOptimal 15 = .ok (.iload_n 2, 1) := by decide +kernel
theorem dX10_findOptimal_16 : decode cX10_findOptimal 16 = .ok (.imul, 1) := by decide +kernel
theorem dX10_findOptimal_17 : decode cX10_findOptimal 17 = .ok (.istore_n 1, 1) := by decide +kernel
theorem dX10_findOptimal_18 : decode cX10_findOptimal 18 = .ok (.iinc 2 1, 3) := by decide +kernel
theorem dX10_findOptimal_21 : decode cX10_findOptimal 21 = .ok (.goto (-17), 3) := by decide +kernel
theorem dX10_findOptimal_24 : decode cX10_findOptimal 24 = .ok (.bipush (-9), 2) := by decide +kernel
theorem dX10_findOptimal_26 : decode cX10_findOptimal 26 = .ok (.istore_n 2, 1) := by decide +kernel
theorem dX10_findOptimal_27 : decode cX10_findOptimal 27 = .ok (.iconst 0, 1) := by decide +kernel
theorem dX10_findOptimal_28 : decode cX10_findOptimal 28 = .ok (.istore_n 3, 1) := by decide +kernel
theorem dX10_findOptimal_29 : decode cX10_findOptimal 29 = .ok (.iload_n 3, 1) := by decide +kernel
theorem dX10_findOptimal_30 : decode cX10_findOptimal 30 = .ok (.iload_n 1, 1) := by decide +kernel
theorem dX10_findOptimal_31 : decode cX10_findOptimal 31 = .ok (.if_icmp .ge 51, 3) := by decide +kernel
theorem dX10_findOptimal_34 : decode cX10_findOptimal 34 = .ok (.aload_n 0, 1) := by decide +kernel
theorem dX10_findOptimal_35 : decode cX10_findOptimal 35 = .ok (.iload_n 3, 1) := by decide +kernel
theorem dX10_findOptimal_36 : decode cX10_findOptimal 36 = .ok (.iload_n 1, 1) := by decide +kernel
theorem dX10_findOptimal_37 : decode cX10_findOptimal 37 = .ok (.invokevirtual 157, 3) := by decide +kernel
theorem dX10_findOptimal_40 : decode cX10_findOptimal 40 = .ok (.aload_n 0, 1) := by decide +kernel
theorem dX10_findOptimal_41 : decode cX10_findOptimal 41 = .ok (.aload_n 0, 1) := by decide +kernel
theorem dX10_findOptimal_42 : decode cX10_findOptimal 42 = .ok (.getfield 19, 3) := by decide +kernel
theorem dX10_findOptimal_45 : decode cX10_findOptimal 45 = .ok (.invokevirtual 140, 3) := by decide +kernel
theorem dX10_findOptimal_48 : decode cX10_findOptimal 48 = .ok (.istore 4, 2) := by decide +kernel
theorem dX10_findOptimal_50 : decode cX10_findOptimal 50 = .ok (.iload_n 2, 1) := by decide +kernel
theorem dX10_findOptimal_51 : decode cX10_findOptimal 51 = .ok (.bipush (-9), 2) := by decide +kernel
theorem dX10_findOptimal_53 : decode cX10_findOptimal 53 = .ok (.if_icmp .eq 9, 3) := by decide +kernel
theorem dX10_findOptimal_56 : decode cX10_findOptimal 56 = .ok (.iload 4, 2) := by decide +kernel
theorem dX10_findOptimal_58 : decode cX10_findOptimal 58 = .ok (.iload_n 2, 1) := by decide +kernel
theorem dX10_findOptimal_59 : decode cX10_findOptimal 59 = .ok (.if_icmp .ge 17, 3) := by decide +kernel
theorem dX10_findOptimal_62 : decode cX10_findOptimal 62 = .ok (.iload 4, 2) := by decide +kernel
theorem dX10_findOptimal_64 : decode cX10_findOptimal 64 = .ok (.istore_n 2, 1) := by decide +kernel
theorem dX10_findOptimal_65 : decode cX10_findOptimal 65 = .ok (.aload_n 0, 1) := by decide +kernel
theorem dX10_findOptimal_66 : decode cX10_findOptimal 66 = .ok (.getfield 19, 3) := by decide +kernel
theorem dX10_findOptimal_69 : decode cX10_findOptimal 69 = .ok (.aload_n 0, 1) := by decide +kernel
theorem dX10_findOptimal_70 : decode cX10_findOptimal 70 = .ok (.getfield 22, 3) := by decide +kernel
theorem dX10_findOptimal_73 : decode cX10_findOptimal 73 = .ok (.invokestatic 100, 3) := by decide +kernel
theorem dX10_findOptimal_76 : decode cX10_findOptimal 76 = .ok (.iinc 3 1, 3) := by decide +kernel
theorem dX10_findOptimal_79 : decode cX10_findOptimal 79 = .ok (.goto (-50), 3) := by decide +kernel
theorem dX10_findOptimal_82 : decode cX10_findOptimal 82 = .ok (.iload_n 2, 1) := by decide +kernel
theorem dX10_findOptimal_83 : decode cX10_findOptimal 83 = .ok (.ireturn, 1) := by decide +kernel
theorem dX10_optimalCost_0 : decode cX10_optimalCost 0 = .ok (.aload_n 0, 1) := by decide +kernel
theorem dX10_optimalCost_1 : decode cX10_optimalCost 1 = .ok (.invokevirtual 161, 3) := by decide +kernel
theorem dX10_optimalCost_4 : decode cX10_optimalCost 4 = .ok (.ireturn, 1) := by decide +kernel
theorem dX10_orderOptimally_0 : decode cX10_orderOptimally 0 = .ok (.aload_n 0, 1) := by decide +kernel
theorem dX10_orderOptimally_1 : decode cX10_orderOptimally 1 = .ok (.invokevirtual 161, 3) := by decide +kernel
theorem dX10_orderOptimally_4 : decode cX10_orderOptimally 4 = .ok (.istore_n 1, 1) := by decide +kernel
theorem dX10_orderOptimally_5 : decode cX10_orderOptimally 5 = .ok (.aload_n 0, 1) := by decide +kernel
theorem dX10_orderOptimally_6 : decode cX10_orderOptimally 6 = .ok (.invokevirtual 150, 3) := by decide +kernel
theorem dX10_orderOptimally_9 : decode cX10_orderOptimally 9 = .ok (.aload_n 0, 1) := by decide +kernel
theorem dX10_orderOptimally_10 : decode cX10_orderOptimally 10 = .ok (.getfield 22, 3) := by decide +kernel
theorem dX10_orderOptimally_13 : decode cX10_orderOptimally 13 = .ok (.aload_n 0, 1) := by decide +kernel
theorem dX10_orderOptimally_14 : decode cX10_orderOptimally 14 = .ok (.getfield 16, 3) := by decide +kernel
theorem dX10_orderOptimally_17 : decode cX10_orderOptimally 17 = .ok (.invokestatic 100, 3) := by decide +kernel
theorem dX10_orderOptimally_20 : decode cX10_orderOptimally 20 = .ok (.iload_n 1, 1) := by decide +kernel
theorem dX10_orderOptimally_21 : decode cX10_orderOptimally 21 = .ok (.ireturn, 1) := by decide +kernel
theorem dX10_rangeError_0 : decode cX10_rangeError 0 = .ok (.aload_n 0, 1) := by decide +kernel
theorem dX10_rangeError_1 : decode cX10_rangeError 1 = .ok (.iload_n 2, 1) := by decide +kernel
theorem dX10_rangeError_2 : decode cX10_rangeError 2 = .ok (.invokevirtual 137, 3) := by decide +kernel
theorem dX10_rangeError_5 : decode cX10_rangeError 5 = .ok (.ifCond .eq 11, 3) := by decide +kernel
theorem dX10_rangeError_8 : decode cX10_rangeError 8 = .ok (.aload_n 0, 1) := by decide +kernel
theorem dX10_rangeError_9 : decode cX10_rangeError 9 = .ok (.iload_n 3, 1) := by decide +kernel
theorem dX10_rangeError_10 : decode cX10_rangeError 10 = .ok (.invokevirtual 137, 3) := by decide +kernel
theorem dX10_rangeError_13 : decode cX10_rangeError 13 = .ok (.ifCond .ne 5, 3) := by decide +kernel
theorem dX10_rangeError_16 : decode cX10_rangeError 16 = .ok (.iconst (-1), 1) := by decide +kernel
theorem dX10_rangeError_17 : decode cX10_rangeError 17 = .ok (.ireturn, 1) := by decide +kernel
theorem dX10_rangeError_18 : decode cX10_rangeError 18 = .ok (.iload_n 2, 1) := by decide +kernel
theorem dX10_rangeError_19 : decode cX10_rangeError 19 = .ok (.ifCond .eq 15, 3) := by decide +kernel
theorem dX10_rangeError_22 : decode cX10_rangeError 22 = .ok (.iload_n 2, 1) := by decide +kernel
theorem dX10_rangeError_23 : decode cX10_rangeError 23 = .ok (.iload_n 3, 1) := by decide +kernel
theorem dX10_rangeError_24 : decode cX10_rangeError 24 = .ok (.if_icmp .gt 10, 3) := by decide +kernel
theorem dX10_rangeError_27 : decode cX10_rangeError 27 = .ok (.iload_n 3, 1) := by decide +kernel
theorem dX10_rangeError_28 : decode cX10_rangeError 28 = .ok (.aload_n 1, 1) := by decide +kernel
theorem dX10_rangeError_29 : decode cX10_rangeError 29 = .ok (.iconst 0, 1) := by decide +kernel
theorem dX10_rangeError_30 : decode cX10_rangeError 30 = .ok (.iaload, 1) := by decide +kernel
theorem dX10_rangeError_31 : decode cX10_rangeError 31 = .ok (.if_icmp .lt 8, 3) := by decide +kernel
theorem dX10_rangeError_34 : decode cX10_rangeError 34 = .ok (.bipush (-3), 2) := by decide +kernel
theorem dX10_rangeError_36 : decode cX10_rangeError 36 = .ok (.goto 4, 3) := by decide +kernel
theorem dX10_rangeError_39 : decode cX10_rangeError 39 = .ok (.iconst 0, 1) := by decide +kernel
theorem dX10_rangeError_40 : decode cX10_rangeError 40 = .ok (.ireturn, 1) := by decide +kernel
theorem dX10_layRotated_0 : decode cX10_layRotated 0 = .ok (.aload_n 1, 1) := by decide +kernel
theorem dX10_layRotated_1 : decode cX10_layRotated 1 = .ok (.aload_n 0, 1) := by decide +kernel
theorem dX10_layRotated_2 : decode cX10_layRotated 2 = .ok (.getfield 19, 3) := by decide +kernel
theorem dX10_layRotated_5 : decode cX10_layRotated 5 = .ok (.invokestatic 100, 3) := by decide +kernel
theorem dX10_layRotated_8 : decode cX10_layRotated 8 = .ok (.iload_n 3, 1) := by decide +kernel
theorem dX10_layRotated_9 : decode cX10_layRotated 9 = .ok (.iload_n 2, 1) := by decide +kernel
theorem dX10_layRotated_10 : decode cX10_layRotated 10 = .ok (.isub, 1) := by decide +kernel
theorem dX10_layRotated_11 : decode cX10_layRotated 11 = .ok (.iconst 1, 1) := by decide +kernel
theorem dX10_layRotated_12 : decode cX10_layRotated 12 = .ok (.iadd, 1) := by decide +kernel
theorem dX10_layRotated_13 : decode cX10_layRotated 13 = .ok (.istore 5, 2) := by decide +kernel
theorem dX10_layRotated_15 : decode cX10_layRotated 15 = .ok (.iconst 0, 1) := by decide +kernel
theorem dX10_layRotated_16 : decode cX10_layRotated 16 = .ok (.istore 6, 2) := by decide +kernel
theorem dX10_layRotated_18 : decode cX10_layRotated 18 = .ok (.iload 6, 2) := by decide +kernel
theorem dX10_layRotated_20 : decode cX10_layRotated 20 = .ok (.iload 5, 2) := by decide +kernel
theorem dX10_layRotated_22 : decode cX10_layRotated 22 = .ok (.if_icmp .ge 37, 3) := by decide +kernel
theorem dX10_layRotated_25 : decode cX10_layRotated 25 = .ok (.aload_n 0, 1) := by decide +kernel
theorem dX10_layRotated_26 : decode cX10_layRotated 26 = .ok (.getfield 19, 3) := by decide +kernel
theorem dX10_layRotated_29 : decode cX10_layRotated 29 = .ok (.iconst 2, 1) := by decide +kernel
theorem dX10_layRotated_30 : decode cX10_layRotated 30 = .ok (.iload_n 2, 1) := by decide +kernel
theorem dX10_layRotated_31 : decode cX10_layRotated 31 = .ok (.iadd, 1) := by decide +kernel
theorem dX10_layRotated_32 : decode cX10_layRotated 32 = .ok (.iload 6, 2) := by decide +kernel
theorem dX10_layRotated_34 : decode cX10_layRotated 34 = .ok (.iload 4, 2) := by decide +kernel
theorem dX10_layRotated_36 : decode cX10_layRotated 36 = .ok (.isub, 1) := by decide +kernel
theorem dX10_layRotated_37 : decode cX10_layRotated 37 = .ok (.iload 5, 2) := by decide +kernel
theorem dX10_layRotated_39 : decode cX10_layRotated 39 = .ok (.iadd, 1) := by decide +kernel
theorem dX10_layRotated_40 : decode cX10_layRotated 40 = .ok (.iload 5, 2) := by decide +kernel
theorem dX10_layRotated_42 : decode cX10_layRotated 42 = .ok (.irem, 1) := by decide +kernel
theorem dX10_layRotated_43 : decode cX10_layRotated 43 = .ok (.iadd, 1) := by decide +kernel
theorem dX10_layRotated_44 : decode cX10_layRotated 44 = .ok (.aload_n 1, 1) := by decide +kernel
theorem dX10_layRotated_45 : decode cX10_layRotated 45 = .ok (.iconst 2, 1) := by decide +kernel
theorem dX10_layRotated_46 : decode cX10_layRotated 46 = .ok (.iload_n 2, 1) := by decide +kernel
theorem dX10_layRotated_47 : decode cX10_layRotated 47 = .ok (.iadd, 1) := by decide +kernel
theorem dX10_layRotated_48 : decode cX10_layRotated 48 = .ok (.iload 6, 2) := by decide +kernel
theorem dX10_layRotated_50 : decode cX10_layRotated 50 = .ok (.iadd, 1) := by decide +kernel
theorem dX10_layRotated_51 : decode cX10_layRotated 51 = .ok (.iaload, 1) := by decide +kernel
theorem dX10_layRotated_52 : decode cX10_layRotated 52 = .ok (.iastore, 1) := by decide +kernel
theorem dX10_layRotated_53 : decode cX10_layRotated 53 = .ok (.iinc 6 1, 3) := by decide +kernel
theorem dX10_layRotated_56 : decode cX10_layRotated 56 = .ok (.goto (-38), 3) := by decide +kernel
theorem dX10_layRotated_59 : decode cX10_layRotated 59 = .ok (.return_, 1) := by decide +kernel
theorem dX10_bestRotation_0 : decode cX10_bestRotation 0 = .ok (.aload_n 0, 1) := by decide +kernel
theorem dX10_bestRotation_1 : decode cX10_bestRotation 1 = .ok (.aload_n 0, 1) := by decide +kernel
theorem dX10_bestRotation_2 : decode cX10_bestRotation 2 = .ok (.getfield 16, 3) := by decide +kernel
theorem dX10_bestRotation_5 : decode cX10_bestRotation 5 = .ok (.iload_n 1, 1) := by decide +kernel
theorem dX10_bestRotation_6 : decode cX10_bestRotation 6 = .ok (.iload_n 2, 1) := by decide +kernel
theorem dX10_bestRotation_7 : decode cX10_bestRotation 7 = .ok (.invokevirtual 164, 3) := by decide +kernel
theorem dX10_bestRotation_10 : decode cX10_bestRotation 10 = .ok (.istore_n 3, 1) := by decide +kernel
theorem dX10_bestRotation_11 : decode cX10_bestRotation 11 = .ok (.iload_n 3, 1) := by decide +kernel
theorem dX10_bestRotation_12 : decode cX10_bestRotation 12 = .ok (.ifCond .eq 5, 3) := by decide +kernel
theorem dX10_bestRotation_15 : decode cX10_bestRotation 15 = .ok (.iload_n 3, 1) := by decide +kernel
theorem dX10_bestRotation_16 : decode cX10_bestRotation 16 = .ok (.ireturn, 1) := by decide +kernel
theorem dX10_bestRotation_17 : decode cX10_bestRotation 17 = .ok (.iconst 0, 1) := by decide +kernel
theorem dX10_bestRotation_18 : decode cX10_bestRotation 18 = .ok (.istore 4, 2) := by decide +kernel
theorem dX10_bestRotation_20 : decode cX10_bestRotation 20 = .ok (.aload_n 0, 1) := by decide +kernel
theorem dX10_bestRotation_21 : decode cX10_bestRotation 21 = .ok (.aload_n 0, 1) := by decide +kernel
theorem dX10_bestRotation_22 : decode cX10_bestRotation 22 = .ok (.getfield 16, 3) := by decide +kernel
theorem dX10_bestRotation_25 : decode cX10_bestRotation 25 = .ok (.invokevirtual 140, 3) := by decide +kernel
theorem dX10_bestRotation_28 : decode cX10_bestRotation 28 = .ok (.istore 5, 2) := by decide +kernel
theorem dX10_bestRotation_30 : decode cX10_bestRotation 30 = .ok (.iconst 1, 1) := by decide +kernel
theorem dX10_bestRotation_31 : decode cX10_bestRotation 31 = .ok (.istore 6, 2) := by decide +kernel
theorem dX10_bestRotation_33 : decode cX10_bestRotation 33 = .ok (.iload 6, 2) := by decide +kernel
theorem dX10_bestRotation_35 : decode cX10_bestRotation 35 = .ok (.iload_n 2, 1) := by decide +kernel
theorem dX10_bestRotation_36 : decode cX10_bestRotation 36 = .ok (.iload_n 1, 1) := by decide +kernel
theorem dX10_bestRotation_37 : decode cX10_bestRotation 37 = .ok (.isub, 1) := by decide +kernel
theorem dX10_bestRotation_38 : decode cX10_bestRotation 38 = .ok (.if_icmp .gt 63, 3) := by decide +kernel
theorem dX10_bestRotation_41 : decode cX10_bestRotation 41 = .ok (.aload_n 0, 1) := by decide +kernel
theorem dX10_bestRotation_42 : decode cX10_bestRotation 42 = .ok (.aload_n 0, 1) := by decide +kernel
theorem dX10_bestRotation_43 : decode cX10_bestRotation 43 = .ok (.getfield 16, 3) := by decide +kernel
theorem dX10_bestRotation_46 : decode cX10_bestRotation 46 = .ok (.iload_n 1, 1) := by decide +kernel
theorem dX10_bestRotation_47 : decode cX10_bestRotation 47 = .ok (.iload_n 2, 1) := by decide +kernel
theorem dX10_bestRotation_48 : decode cX10_bestRotation 48 = .ok (.iload 6, 2) := by decide +kernel
theorem dX10_bestRotation_50 : decode cX10_bestRotation 50 = .ok (.invokevirtual 167, 3) := by decide +kernel
theorem dX10_bestRotation_53 : decode cX10_bestRotation 53 = .ok (.aload_n 0, 1) := by decide +kernel
theorem dX10_bestRotation_54 : decode cX10_bestRotation 54 = .ok (.aload_n 0, 1) := by decide +kernel
theorem dX10_bestRotation_55 : decode cX10_bestRotation 55 = .ok (.getfield 19, 3) := by decide +kernel
theorem dX10_bestRotation_58 : decode cX10_bestRotation 58 = .ok (.invokevirtual 140, 3) := by decide +kernel
theorem dX10_bestRotation_61 : decode cX10_bestRotation 61 = .ok (.istore 7, 2) := by decide +kernel
theorem dX10_bestRotation_63 : decode cX10_bestRotation 63 = .ok (.iload 7, 2) := by decide +kernel
theorem dX10_bestRotation_65 : decode cX10_bestRotation 65 = .ok (.iload 5, 2) := by decide +kernel
theorem dX10_bestRotation_67 : decode cX10_bestRotation 67 = .ok (.if_icmp .ge 8, 3) := by decide +kernel
theorem dX10_bestRotation_70 : decode cX10_bestRotation 70 = .ok (.iload 6, 2) := by decide +kernel
theorem dX10_bestRotation_72 : decode cX10_bestRotation 72 = .ok (.goto 5, 3) := by decide +kernel
theorem dX10_bestRotation_75 : decode cX10_bestRotation 75 = .ok (.iload 4, 2) := by decide +kernel
theorem dX10_bestRotation_77 : decode cX10_bestRotation 77 = .ok (.istore 4, 2) := by decide +kernel
theorem dX10_bestRotation_79 : decode cX10_bestRotation 79 = .ok (.iload 7, 2) := by decide +kernel
theorem dX10_bestRotation_81 : decode cX10_bestRotation 81 = .ok (.iload 5, 2) := by decide +kernel
theorem dX10_bestRotation_83 : decode cX10_bestRotation 83 = .ok (.if_icmp .ge 8, 3) := by decide +kernel
theorem dX10_bestRotation_86 : decode cX10_bestRotation 86 = .ok (.iload 7, 2) := by decide +kernel
theorem dX10_bestRotation_88 : decode cX10_bestRotation 88 = .ok (.goto 5, 3) := by decide +kernel
theorem dX10_bestRotation_91 : decode cX10_bestRotation 91 = .ok (.iload 5, 2) := by decide +kernel
theorem dX10_bestRotation_93 : decode cX10_bestRotation 93 = .ok (.istore 5, 2) := by decide +kernel
theorem dX10_bestRotation_95 : decode cX10_bestRotation 95 = .ok (.iinc 6 1, 3) := by decide +kernel
theorem dX10_bestRotation_98 : decode cX10_bestRotation 98 = .ok (.goto (-65), 3) := by decide +kernel
theorem dX10_bestRotation_101 : decode cX10_bestRotation 101 = .ok (.iload 4, 2) := by decide +kernel
theorem dX10_bestRotation_103 : decode cX10_bestRotation 103 = .ok (.ireturn, 1) := by decide +kernel
theorem dX10_note_0 : decode cX10_note 0 = .ok (.iconst 0, 1) := by decide +kernel
theorem dX10_note_1 : decode cX10_note 1 = .ok (.istore_n 1, 1) := by decide +kernel
theorem dX10_note_2 : decode cX10_note 2 = .ok (.iload_n 1, 1) := by decide +kernel
theorem dX10_note_3 : decode cX10_note 3 = .ok (.bipush 50, 2) := by decide +kernel
theorem dX10_note_5 : decode cX10_note 5 = .ok (.if_icmp .ge 29, 3) := by decide +kernel
theorem dX10_note_8 : decode cX10_note 8 = .ok (.aload_n 0, 1) := by decide +kernel
theorem dX10_note_9 : decode cX10_note 9 = .ok (.getfield 25, 3) := by decide +kernel
theorem dX10_note_12 : decode cX10_note 12 = .ok (.bipush 50, 2) := by decide +kernel
theorem dX10_note_14 : decode cX10_note 14 = .ok (.aload_n 0, 1) := by decide +kernel
theorem dX10_note_15 : decode cX10_note 15 = .ok (.getfield 171, 3) := by decide +kernel
theorem dX10_note_18 : decode cX10_note 18 = .ok (.imul, 1) := by decide +kernel
theorem dX10_note_19 : decode cX10_note 19 = .ok (.iload_n 1, 1) := by decide +kernel
theorem dX10_note_20 : decode cX10_note 20 = .ok (.iadd, 1) := by decide +kernel
theorem dX10_note_21 : decode cX10_note 21 = .ok (.aload_n 0, 1) := by decide +kernel
theorem dX10_note_22 : decode cX10_note 22 = .ok (.getfield 16, 3) := by decide +kernel
theorem dX10_note_25 : decode cX10_note 25 = .ok (.iload_n 1, 1) := by decide +kernel
theorem dX10_note_26 : decode cX10_note 26 = .ok (.iaload, 1) := by decide +kernel
theorem dX10_note_27 : decode cX10_note 27 = .ok (.iastore, 1) := by decide +kernel
theorem dX10_note_28 : decode cX10_note 28 = .ok (.iinc 1 1, 3) := by decide +kernel
theorem dX10_note_31 : decode cX10_note 31 = .ok (.goto (-29), 3) := by decide +kernel
theorem dX10_note_34 : decode cX10_note 34 = .ok (.aload_n 0, 1) := by decide +kernel
theorem dX10_note_35 : decode cX10_note 35 = .ok (.aload_n 0, 1) := by decide +kernel
theorem dX10_note_36 : decode cX10_note 36 = .ok (.getfield 171, 3) := by decide +kernel
theorem dX10_note_39 : decode cX10_note 39 = .ok (.iconst 1, 1) := by decide +kernel
theorem dX10_note_40 : decode cX10_note 40 = .ok (.iadd, 1) := by decide +kernel
theorem dX10_note_41 : decode cX10_note 41 = .ok (.bipush 14, 2) := by decide +kernel
theorem dX10_note_43 : decode cX10_note 43 = .ok (.irem, 1) := by decide +kernel
theorem dX10_note_44 : decode cX10_note 44 = .ok (.putfield 171, 3) := by decide +kernel
theorem dX10_note_47 : decode cX10_note 47 = .ok (.aload_n 0, 1) := by decide +kernel
theorem dX10_note_48 : decode cX10_note 48 = .ok (.aload_n 0, 1) := by decide +kernel
theorem dX10_note_49 : decode cX10_note 49 = .ok (.getfield 104, 3) := by decide +kernel
theorem dX10_note_52 : decode cX10_note 52 = .ok (.bipush 14, 2) := by decide +kernel
theorem dX10_note_54 : decode cX10_note 54 = .ok (.if_icmp .ge 12, 3) := by decide +kernel
theorem dX10_note_57 : decode cX10_note 57 = .ok (.aload_n 0, 1) := by decide +kernel
theorem dX10_note_58 : decode cX10_note 58 = .ok (.getfield 104, 3) := by decide +kernel
theorem dX10_note_61 : decode cX10_note 61 = .ok (.iconst 1, 1) := by decide +kernel
theorem dX10_note_62 : decode cX10_note 62 = .ok (.iadd, 1) := by decide +kernel
theorem dX10_note_63 : decode cX10_note 63 = .ok (.goto 5, 3) := by decide +kernel
theorem dX10_note_66 : decode cX10_note 66 = .ok (.bipush 14, 2) := by decide +kernel
theorem dX10_note_68 : decode cX10_note 68 = .ok (.putfield 104, 3) := by decide +kernel
theorem dX10_note_71 : decode cX10_note 71 = .ok (.return_, 1) := by decide +kernel
theorem dX10_swapError_0 : decode cX10_swapError 0 = .ok (.aload_n 0, 1) := by decide +kernel
theorem dX10_swapError_1 : decode cX10_swapError 1 = .ok (.iload_n 1, 1) := by decide +kernel
theorem dX10_swapError_2 : decode cX10_swapError 2 = .ok (.invokevirtual 137, 3) := by decide +kernel
theorem dX10_swapError_5 : decode cX10_swapError 5 = .ok (.ifCond .eq 11, 3) := by decide +kernel
theorem dX10_swapError_8 : decode cX10_swapError 8 = .ok (.aload_n 0, 1) := by decide +kernel
theorem dX10_swapError_9 : decode cX10_swapError 9 = .ok (.iload_n 2, 1) := by decide +kernel
theorem dX10_swapError_10 : decode cX10_swapError 10 = .ok (.invokevirtual 137, 3) := by decide +kernel
theorem dX10_swapError_13 : decode cX10_swapError 13 = .ok (.ifCond .ne 5, 3) := by decide +kernel
theorem dX10_swapError_16 : decode cX10_swapError 16 = .ok (.iconst (-1), 1) := by decide +kernel
theorem dX10_swapError_17 : decode cX10_swapError 17 = .ok (.ireturn, 1) := by decide +kernel
theorem dX10_swapError_18 : decode cX10_swapError 18 = .ok (.iload_n 1, 1) := by decide +kernel
theorem dX10_swapError_19 : decode cX10_swapError 19 = .ok (.ifCond .eq 7, 3) := by decide +kernel
theorem dX10_swapError_22 : decode cX10_swapError 22 = .ok (.iload_n 2, 1) := by decide +kernel
theorem dX10_swapError_23 : decode cX10_swapError 23 = .ok (.ifCond .ne 8, 3) := by decide +kernel
theorem dX10_swapError_26 : decode cX10_swapError 26 = .ok (.bipush (-3), 2) := by decide +kernel
theorem dX10_swapError_28 : decode cX10_swapError 28 = .ok (.goto 4, 3) := by decide +kernel
theorem dX10_swapError_31 : decode cX10_swapError 31 = .ok (.iconst 0, 1) := by decide +kernel
theorem dX10_swapError_32 : decode cX10_swapError 32 = .ok (.ireturn, 1) := by decide +kernel
theorem dX10_swapIn_0 : decode cX10_swapIn 0 = .ok (.aload_n 0, 1) := by decide +kernel
theorem dX10_swapIn_1 : decode cX10_swapIn 1 = .ok (.iconst 2, 1) := by decide +kernel
theorem dX10_swapIn_2 : decode cX10_swapIn 2 = .ok (.iload_n 1, 1) := by decide +kernel
theorem dX10_swapIn_3 : decode cX10_swapIn 3 = .ok (.iadd, 1) := by decide +kernel
theorem dX10_swapIn_4 : decode cX10_swapIn 4 = .ok (.iaload, 1) := by decide +kernel
theorem dX10_swapIn_5 : decode cX10_swapIn 5 = .ok (.istore_n 3, 1) := by decide +kernel
theorem dX10_swapIn_6 : decode cX10_swapIn 6 = .ok (.aload_n 0, 1) := by decide +kernel
theorem dX10_swapIn_7 : decode cX10_swapIn 7 = .ok (.iconst 2, 1) := by decide +kernel
theorem dX10_swapIn_8 : decode cX10_swapIn 8 = .ok (.iload_n 1, 1) := by decide +kernel
theorem dX10_swapIn_9 : decode cX10_swapIn 9 = .ok (.iadd, 1) := by decide +kernel
theorem dX10_swapIn_10 : decode cX10_swapIn 10 = .ok (.aload_n 0, 1) := by decide +kernel
theorem dX10_swapIn_11 : decode cX10_swapIn 11 = .ok (.iconst 2, 1) := by decide +kernel
theorem dX10_swapIn_12 : decode cX10_swapIn 12 = .ok (.iload_n 2, 1) := by decide +kernel
theorem dX10_swapIn_13 : decode cX10_swapIn 13 = .ok (.iadd, 1) := by decide +kernel
theorem dX10_swapIn_14 : decode cX10_swapIn 14 = .ok (.iaload, 1) := by decide +kernel
theorem dX10_swapIn_15 : decode cX10_swapIn 15 = .ok (.iastore, 1) := by decide +kernel
theorem dX10_swapIn_16 : decode cX10_swapIn 16 = .ok (.aload_n 0, 1) := by decide +kernel
theorem dX10_swapIn_17 : decode cX10_swapIn 17 = .ok (.iconst 2, 1) := by decide +kernel
theorem dX10_swapIn_18 : decode cX10_swapIn 18 = .ok (.iload_n 2, 1) := by decide +kernel
theorem dX10_swapIn_19 : decode cX10_swapIn 19 = .ok (.iadd, 1) := by decide +kernel
theorem dX10_swapIn_20 : decode cX10_swapIn 20 = .ok (.iload_n 3, 1) := by decide +kernel
theorem dX10_swapIn_21 : decode cX10_swapIn 21 = .ok (.iastore, 1) := by decide +kernel
theorem dX10_swapIn_22 : decode cX10_swapIn 22 = .ok (.return_, 1) := by decide +kernel
theorem dX10_swap_0 : decode cX10_swap 0 = .ok (.aload_n 0, 1) := by decide +kernel
theorem dX10_swap_1 : decode cX10_swap 1 = .ok (.iload_n 1, 1) := by decide +kernel
theorem dX10_swap_2 : decode cX10_swap 2 = .ok (.iload_n 2, 1) := by decide +kernel
theorem dX10_swap_3 : decode cX10_swap 3 = .ok (.invokevirtual 174, 3) := by decide +kernel
theorem dX10_swap_6 : decode cX10_swap 6 = .ok (.istore_n 3, 1) := by decide +kernel
theorem dX10_swap_7 : decode cX10_swap 7 = .ok (.iload_n 3, 1) := by decide +kernel
theorem dX10_swap_8 : decode cX10_swap 8 = .ok (.ifCond .eq 5, 3) := by decide +kernel
theorem dX10_swap_11 : decode cX10_swap 11 = .ok (.iload_n 3, 1) := by decide +kernel
theorem dX10_swap_12 : decode cX10_swap 12 = .ok (.ireturn, 1) := by decide +kernel
theorem dX10_swap_13 : decode cX10_swap 13 = .ok (.aload_n 0, 1) := by decide +kernel
theorem dX10_swap_14 : decode cX10_swap 14 = .ok (.invokevirtual 150, 3) := by decide +kernel
theorem dX10_swap_17 : decode cX10_swap 17 = .ok (.aload_n 0, 1) := by decide +kernel
theorem dX10_swap_18 : decode cX10_swap 18 = .ok (.getfield 16, 3) := by decide +kernel
theorem dX10_swap_21 : decode cX10_swap 21 = .ok (.iload_n 1, 1) := by decide +kernel
theorem dX10_swap_22 : decode cX10_swap 22 = .ok (.iload_n 2, 1) := by decide +kernel
theorem dX10_swap_23 : decode cX10_swap 23 = .ok (.invokestatic 177, 3) := by decide +kernel
theorem dX10_swap_26 : decode cX10_swap 26 = .ok (.aload_n 0, 1) := by decide +kernel
theorem dX10_swap_27 : decode cX10_swap 27 = .ok (.aload_n 0, 1) := by decide +kernel
theorem dX10_swap_28 : decode cX10_swap 28 = .ok (.getfield 16, 3) := by decide +kernel
theorem dX10_swap_31 : decode cX10_swap 31 = .ok (.invokevirtual 140, 3) := by decide +kernel
theorem dX10_swap_34 : decode cX10_swap 34 = .ok (.ireturn, 1) := by decide +kernel
theorem dX10_rotateIn_0 : decode cX10_rotateIn 0 = .ok (.aload_n 0, 1) := by decide +kernel
theorem dX10_rotateIn_1 : decode cX10_rotateIn 1 = .ok (.iconst 2, 1) := by decide +kernel
theorem dX10_rotateIn_2 : decode cX10_rotateIn 2 = .ok (.iload_n 1, 1) := by decide +kernel
theorem dX10_rotateIn_3 : decode cX10_rotateIn 3 = .ok (.iadd, 1) := by decide +kernel
theorem dX10_rotateIn_4 : decode cX10_rotateIn 4 = .ok (.iaload, 1) := by decide +kernel
theorem dX10_rotateIn_5 : decode cX10_rotateIn 5 = .ok (.istore_n 3, 1) := by decide +kernel
theorem dX10_rotateIn_6 : decode cX10_rotateIn 6 = .ok (.iload_n 1, 1) := by decide +kernel
theorem dX10_rotateIn_7 : decode cX10_rotateIn 7 = .ok (.istore 4, 2) := by decide +kernel
theorem dX10_rotateIn_9 : decode cX10_rotateIn 9 = .ok (.iload 4, 2) := by decide +kernel
theorem dX10_rotateIn_11 : decode cX10_rotateIn 11 = .ok (.iload_n 2, 1) := by decide +kernel
theorem dX10_rotateIn_12 : decode cX10_rotateIn 12 = .ok (.if_icmp .ge 23, 3) := by decide +kernel
theorem dX10_rotateIn_15 : decode cX10_rotateIn 15 = .ok (.aload_n 0, 1) := by decide +kernel
theorem dX10_rotateIn_16 : decode cX10_rotateIn 16 = .ok (.iconst 2, 1) := by decide +kernel
theorem dX10_rotateIn_17 : decode cX10_rotateIn 17 = .ok (.iload 4, 2) := by decide +kernel
theorem dX10_rotateIn_19 : decode cX10_rotateIn 19 = .ok (.iadd, 1) := by decide +kernel
theorem dX10_rotateIn_20 : decode cX10_rotateIn 20 = .ok (.aload_n 0, 1) := by decide +kernel
theorem dX10_rotateIn_21 : decode cX10_rotateIn 21 = .ok (.iconst 2, 1) := by decide +kernel
theorem dX10_rotateIn_22 : decode cX10_rotateIn 22 = .ok (.iload 4, 2) := by decide +kernel
theorem dX10_rotateIn_24 : decode cX10_rotateIn 24 = .ok (.iadd, 1) := by decide +kernel
theorem dX10_rotateIn_25 : decode cX10_rotateIn 25 = .ok (.iconst 1, 1) := by decide +kernel
theorem dX10_rotateIn_26 : decode cX10_rotateIn 26 = .ok (.iadd, 1) := by decide +kernel
theorem dX10_rotateIn_27 : decode cX10_rotateIn 27 = .ok (.iaload, 1) := by decide +kernel
theorem dX10_rotateIn_28 : decode cX10_rotateIn 28 = .ok (.iastore, 1) := by decide +kernel
theorem dX10_rotateIn_29 : decode cX10_rotateIn 29 = .ok (.iinc 4 1, 3) := by decide +kernel
theorem dX10_rotateIn_32 : decode cX10_rotateIn 32 = .ok (.goto (-23), 3) := by decide +kernel
theorem dX10_rotateIn_35 : decode cX10_rotateIn 35 = .ok (.aload_n 0, 1) := by decide +kernel
theorem dX10_rotateIn_36 : decode cX10_rotateIn 36 = .ok (.iconst 2, 1) := by decide +kernel
theorem dX10_rotateIn_37 : decode cX10_rotateIn 37 = .ok (.iload_n 2, 1) := by decide +kernel
theorem dX10_rotateIn_38 : decode cX10_rotateIn 38 = .ok (.iadd, 1) := by decide +kernel
theorem dX10_rotateIn_39 : decode cX10_rotateIn 39 = .ok (.iload_n 3, 1) := by decide +kernel
theorem dX10_rotateIn_40 : decode cX10_rotateIn 40 = .ok (.iastore, 1) := by decide +kernel
theorem dX10_rotateIn_41 : decode cX10_rotateIn 41 = .ok (.return_, 1) := by decide +kernel
theorem dX10_rotate_0 : decode cX10_rotate 0 = .ok (.aload_n 0, 1) := by decide +kernel
theorem dX10_rotate_1 : decode cX10_rotate 1 = .ok (.aload_n 0, 1) := by decide +kernel
theorem dX10_rotate_2 : decode cX10_rotate 2 = .ok (.getfield 16, 3) := by decide +kernel
theorem dX10_rotate_5 : decode cX10_rotate 5 = .ok (.iload_n 1, 1) := by decide +kernel
theorem dX10_rotate_6 : decode cX10_rotate 6 = .ok (.iload_n 2, 1) := by decide +kernel
theorem dX10_rotate_7 : decode cX10_rotate 7 = .ok (.invokevirtual 164, 3) := by decide +kernel
theorem dX10_rotate_10 : decode cX10_rotate 10 = .ok (.istore_n 3, 1) := by decide +kernel
theorem dX10_rotate_11 : decode cX10_rotate 11 = .ok (.iload_n 3, 1) := by decide +kernel
theorem dX10_rotate_12 : decode cX10_rotate 12 = .ok (.ifCond .eq 5, 3) := by decide +kernel
theorem dX10_rotate_15 : decode cX10_rotate 15 = .ok (.iload_n 3, 1) := by decide +kernel
theorem dX10_rotate_16 : decode cX10_rotate 16 = .ok (.ireturn, 1) := by decide +kernel
theorem dX10_rotate_17 : decode cX10_rotate 17 = .ok (.aload_n 0, 1) := by decide +kernel
theorem dX10_rotate_18 : decode cX10_rotate 18 = .ok (.invokevirtual 150, 3) := by decide +kernel
theorem dX10_rotate_21 : decode cX10_rotate 21 = .ok (.aload_n 0, 1) := by decide +kernel
theorem dX10_rotate_22 : decode cX10_rotate 22 = .ok (.getfield 16, 3) := by decide +kernel
theorem dX10_rotate_25 : decode cX10_rotate 25 = .ok (.iload_n 1, 1) := by decide +kernel
theorem dX10_rotate_26 : decode cX10_rotate 26 = .ok (.iload_n 2, 1) := by decide +kernel
theorem dX10_rotate_27 : decode cX10_rotate 27 = .ok (.invokestatic 181, 3) := by decide +kernel
theorem dX10_rotate_30 : decode cX10_rotate 30 = .ok (.aload_n 0, 1) := by decide +kernel
theorem dX10_rotate_31 : decode cX10_rotate 31 = .ok (.aload_n 0, 1) := by decide +kernel
theorem dX10_rotate_32 : decode cX10_rotate 32 = .ok (.getfield 16, 3) := by decide +kernel
theorem dX10_rotate_35 : decode cX10_rotate 35 = .ok (.invokevirtual 140, 3) := by decide +kernel
theorem dX10_rotate_38 : decode cX10_rotate 38 = .ok (.ireturn, 1) := by decide +kernel
theorem dX10_splitIn_0 : decode cX10_splitIn 0 = .ok (.iconst 0, 1) := by decide +kernel
theorem dX10_splitIn_1 : decode cX10_splitIn 1 = .ok (.istore_n 3, 1) := by decide +kernel
theorem dX10_splitIn_2 : decode cX10_splitIn 2 = .ok (.iconst 0, 1) := by decide +kernel
theorem dX10_splitIn_3 : decode cX10_splitIn 3 = .ok (.istore 4, 2) := by decide +kernel
theorem dX10_splitIn_5 : decode cX10_splitIn 5 = .ok (.iconst 0, 1) := by decide +kernel
theorem dX10_splitIn_6 : decode cX10_splitIn 6 = .ok (.istore 5, 2) := by decide +kernel
theorem dX10_splitIn_8 : decode cX10_splitIn 8 = .ok (.iload 5, 2) := by decide +kernel
theorem dX10_splitIn_10 : decode cX10_splitIn 10 = .ok (.iconst 2, 1) := by decide +kernel
theorem dX10_splitIn_11 : decode cX10_splitIn 11 = .ok (.if_icmp .ge 98, 3) := by decide +kernel
theorem dX10_splitIn_14 : decode cX10_splitIn 14 = .ok (.iconst 0, 1) := by decide +kernel
theorem dX10_splitIn_15 : decode cX10_splitIn 15 = .ok (.istore 6, 2) := by decide +kernel
theorem dX10_splitIn_17 : decode cX10_splitIn 17 = .ok (.iload 6, 2) := by decide +kernel
theorem dX10_splitIn_19 : decode cX10_splitIn 19 = .ok (.aload_n 0, 1) := by decide +kernel
theorem dX10_splitIn_20 : decode cX10_splitIn 20 = .ok (.getfield 53, 3) := by decide +kernel
theorem dX10_splitIn_23 : decode cX10_splitIn 23 = .ok (.if_icmp .ge 67, 3) := by decide +kernel
theorem dX10_splitIn_26 : decode cX10_splitIn 26 = .ok (.aload_n 1, 1) := by decide +kernel
theorem dX10_splitIn_27 : decode cX10_splitIn 27 = .ok (.iconst 2, 1) := by decide +kernel
theorem dX10_splitIn_28 : decode cX10_splitIn 28 = .ok (.iload 6, 2) := by decide +kernel
theorem dX10_splitIn_30 : decode cX10_splitIn 30 = .ok (.iadd, 1) := by decide +kernel
theorem dX10_splitIn_31 : decode cX10_splitIn 31 = .ok (.iaload, 1) := by decide +kernel
theorem dX10_splitIn_32 : decode cX10_splitIn 32 = .ok (.istore 7, 2) := by decide +kernel
theorem dX10_splitIn_34 : decode cX10_splitIn 34 = .ok (.iload 7, 2) := by decide +kernel
theorem dX10_splitIn_36 : decode cX10_splitIn 36 = .ok (.ifCond .eq 18, 3) := by decide +kernel
theorem dX10_splitIn_39 : decode cX10_splitIn 39 = .ok (.aload_n 0, 1) := by decide +kernel
theorem dX10_splitIn_40 : decode cX10_splitIn 40 = .ok (.aload_n 1, 1) := by decide +kernel
theorem dX10_splitIn_41 : decode cX10_splitIn 41 = .ok (.iload 7, 2) := by decide +kernel
theorem dX10_splitIn_43 : decode cX10_splitIn 43 = .ok (.invokevirtual 110, 3) := by decide +kernel
theorem dX10_splitIn_46 : decode cX10_splitIn 46 = .ok (.iload_n 2, 1) := by decide +kernel
theorem dX10_splitIn_47 : decode cX10_splitIn 47 = .ok (.if_icmp .ge 7, 3) := by decide +kernel
theorem dX10_splitIn_50 : decode cX10_splitIn 50 = .ok (.iconst 1, 1) := by decide +kernel
theorem dX10_splitIn_51 : decode cX10_splitIn 51 = .ok (.goto 4, 3) := by decide +kernel
theorem dX10_splitIn_54 : decode cX10_splitIn 54 = .ok (.iconst 0, 1) := by decide +kernel
theorem dX10_splitIn_55 : decode cX10_splitIn 55 = .ok (.istore 8, 2) := by decide +kernel
theorem dX10_splitIn_57 : decode cX10_splitIn 57 = .ok (.iload 8, 2) := by decide +kernel
theorem dX10_splitIn_59 : decode cX10_splitIn 59 = .ok (.iload 5, 2) := by decide +kernel
theorem dX10_splitIn_61 : decode cX10_splitIn 61 = .ok (.iconst 1, 1) := by decide +kernel
theorem dX10_splitIn_62 : decode cX10_splitIn 62 = .ok (.if_icmp .ne 7, 3) := by decide +kernel
theorem dX10_splitIn_65 : decode cX10_splitIn 65 = .ok (.iconst 1, 1) := by decide +kernel
theorem dX10_splitIn_66 : decode cX10_splitIn 66 = .ok (.goto 4, 3) := by decide +kernel
theorem dX10_splitIn_69 : decode cX10_splitIn 69 = .ok (.iconst 0, 1) := by decide +kernel
theorem dX10_splitIn_70 : decode cX10_splitIn 70 = .ok (.if_icmp .ne 14, 3) := by decide +kernel
theorem dX10_splitIn_73 : decode cX10_splitIn 73 = .ok (.aload_n 0, 1) := by decide +kernel
theorem dX10_splitIn_74 : decode cX10_splitIn 74 = .ok (.getfield 50, 3) := by decide +kernel
theorem dX10_splitIn_77 : decode cX10_splitIn 77 = .ok (.iload_n 3, 1) := by decide +kernel
theorem dX10_splitIn_78 : decode cX10_splitIn 78 = .ok (.iload 7, 2) := by decide +kernel
theorem dX10_splitIn_80 : decode cX10_splitIn 80 = .ok (.iastore, 1) := by decide +kernel
theorem dX10_splitIn_81 : decode cX10_splitIn 81 = .ok (.iinc 3 1, 3) := by decide +kernel
theorem dX10_splitIn_84 : decode cX10_splitIn 84 = .ok (.iinc 6 1, 3) := by decide +kernel
theorem dX10_splitIn_87 : decode cX10_splitIn 87 = .ok (.goto (-70), 3) := by decide +kernel
theorem dX10_splitIn_90 : decode cX10_splitIn 90 = .ok (.iload 5, 2) := by decide +kernel
theorem dX10_splitIn_92 : decode cX10_splitIn 92 = .ok (.ifCond .ne 7, 3) := by decide +kernel
theorem dX10_splitIn_95 : decode cX10_splitIn 95 = .ok (.iload_n 3, 1) := by decide +kernel
theorem dX10_splitIn_96 : decode cX10_splitIn 96 = .ok (.goto 5, 3) := by decide +kernel
theorem dX10_splitIn_99 : decode cX10_splitIn 99 = .ok (.iload 4, 2) := by decide +kernel
theorem dX10_splitIn_101 : decode cX10_splitIn 101 = .ok (.istore 4, 2) := by decide +kernel
theorem dX10_splitIn_103 : decode cX10_splitIn 103 = .ok (.iinc 5 1, 3) := by decide +kernel
theorem dX10_splitIn_106 : decode cX10_splitIn 106 = .ok (.goto (-98), 3) := by decide +kernel
theorem dX10_splitIn_109 : decode cX10_splitIn 109 = .ok (.iconst 0, 1) := by decide +kernel
theorem dX10_splitIn_110 : decode cX10_splitIn 110 = .ok (.istore 5, 2) := by decide +kernel
theorem dX10_splitIn_112 : decode cX10_splitIn 112 = .ok (.iload 5, 2) := by decide +kernel
theorem dX10_splitIn_114 : decode cX10_splitIn 114 = .ok (.aload_n 0, 1) := by decide +kernel
theorem dX10_splitIn_115 : decode cX10_splitIn 115 = .ok (.getfield 53, 3) := by decide +kernel
theorem dX10_splitIn_118 : decode cX10_splitIn 118 = .ok (.if_icmp .ge 22, 3) := by decide +kernel
theorem dX10_splitIn_121 : decode cX10_splitIn 121 = .ok (.aload_n 1, 1) := by decide +kernel
theorem dX10_splitIn_122 : decode cX10_splitIn 122 = .ok (.iconst 2, 1) := by decide +kernel
theorem dX10_splitIn_123 : decode cX10_splitIn 123 = .ok (.iload 5, 2) := by decide +kernel
theorem dX10_splitIn_125 : decode cX10_splitIn 125 = .ok (.iadd, 1) := by decide +kernel
theorem dX10_splitIn_126 : decode cX10_splitIn 126 = .ok (.aload_n 0, 1) := by decide +kernel
theorem dX10_splitIn_127 : decode cX10_splitIn 127 = .ok (.getfield 50, 3) := by decide +kernel
theorem dX10_splitIn_130 : decode cX10_splitIn 130 = .ok (.iload 5, 2) := by decide +kernel
theorem dX10_splitIn_132 : decode cX10_splitIn 132 = .ok (.iaload, 1) := by decide +kernel
theorem dX10_splitIn_133 : decode cX10_splitIn 133 = .ok (.iastore, 1) := by decide +kernel
theorem dX10_splitIn_134 : decode cX10_splitIn 134 = .ok (.iinc 5 1, 3) := by decide +kernel
theorem dX10_splitIn_137 : decode cX10_splitIn 137 = .ok (.goto (-25), 3) := by decide +kernel
theorem dX10_splitIn_140 : decode cX10_splitIn 140 = .ok (.aload_n 1, 1) := by decide +kernel
theorem dX10_splitIn_141 : decode cX10_splitIn 141 = .ok (.iconst 0, 1) := by decide +kernel
theorem dX10_splitIn_142 : decode cX10_splitIn 142 = .ok (.iload 4, 2) := by decide +kernel
theorem dX10_splitIn_144 : decode cX10_splitIn 144 = .ok (.iastore, 1) := by decide +kernel
theorem dX10_splitIn_145 : decode cX10_splitIn 145 = .ok (.iload 4, 2) := by decide +kernel
theorem dX10_splitIn_147 : decode cX10_splitIn 147 = .ok (.ireturn, 1) := by decide +kernel
theorem dX10_split_0 : decode cX10_split 0 = .ok (.iload_n 1, 1) := by decide +kernel
theorem dX10_split_1 : decode cX10_split 1 = .ok (.i2l, 1) := by decide +kernel
theorem dX10_split_2 : decode cX10_split 2 = .ok (.lconst 1, 1) := by decide +kernel
theorem dX10_split_3 : decode cX10_split 3 = .ok (.ldc2_w 184, 3) := by decide +kernel
theorem dX10_split_6 : decode cX10_split 6 = .ok (.invokestatic 57, 3) := by decide +kernel
theorem dX10_split_9 : decode cX10_split 9 = .ok (.ifCond .ne 6, 3) := by decide +kernel
theorem dX10_split_12 : decode cX10_split 12 = .ok (.bipush (-2), 2) := by decide +kernel
theorem dX10_split_14 : decode cX10_split 14 = .ok (.ireturn, 1) := by decide +kernel
theorem dX10_split_15 : decode cX10_split 15 = .ok (.aload_n 0, 1) := by decide +kernel
theorem dX10_split_16 : decode cX10_split 16 = .ok (.invokevirtual 150, 3) := by decide +kernel
theorem dX10_split_19 : decode cX10_split 19 = .ok (.aload_n 0, 1) := by decide +kernel
theorem dX10_split_20 : decode cX10_split 20 = .ok (.aload_n 0, 1) := by decide +kernel
theorem dX10_split_21 : decode cX10_split 21 = .ok (.getfield 16, 3) := by decide +kernel
theorem dX10_split_24 : decode cX10_split 24 = .ok (.iload_n 1, 1) := by decide +kernel
theorem dX10_split_25 : decode cX10_split 25 = .ok (.invokevirtual 186, 3) := by decide +kernel
theorem dX10_split_28 : decode cX10_split 28 = .ok (.ireturn, 1) := by decide +kernel
theorem dX10_bypassError_0 : decode cX10_bypassError 0 = .ok (.aload_n 0, 1) := by decide +kernel
theorem dX10_bypassError_1 : decode cX10_bypassError 1 = .ok (.iload_n 2, 1) := by decide +kernel
theorem dX10_bypassError_2 : decode cX10_bypassError 2 = .ok (.invokevirtual 61, 3) := by decide +kernel
theorem dX10_bypassError_5 : decode cX10_bypassError 5 = .ok (.ifCond .ne 5, 3) := by decide +kernel
theorem dX10_bypassError_8 : decode cX10_bypassError 8 = .ok (.iconst (-1), 1) := by decide +kernel
theorem dX10_bypassError_9 : decode cX10_bypassError 9 = .ok (.ireturn, 1) := by decide +kernel
theorem dX10_bypassError_10 : decode cX10_bypassError 10 = .ok (.iload_n 2, 1) := by decide +kernel
theorem dX10_bypassError_11 : decode cX10_bypassError 11 = .ok (.ifCond .eq 34, 3) := by decide +kernel
theorem dX10_bypassError_14 : decode cX10_bypassError 14 = .ok (.aload_n 0, 1) := by decide +kernel
theorem dX10_bypassError_15 : decode cX10_bypassError 15 = .ok (.getfield 13, 3) := by decide +kernel
theorem dX10_bypassError_18 : decode cX10_bypassError 18 = .ok (.iload_n 2, 1) := by decide +kernel
theorem dX10_bypassError_19 : decode cX10_bypassError 19 = .ok (.iaload, 1) := by decide +kernel
theorem dX10_bypassError_20 : decode cX10_bypassError 20 = .ok (.ifCond .ne 25, 3) := by decide +kernel
theorem dX10_bypassError_23 : decode cX10_bypassError 23 = .ok (.aload_n 1, 1) := by decide +kernel
theorem dX10_bypassError_24 : decode cX10_bypassError 24 = .ok (.bipush 10, 2) := by decide +kernel
theorem dX10_bypassError_26 : decode cX10_bypassError 26 = .ok (.iload_n 2, 1) := by decide +kernel
theorem dX10_bypassError_27 : decode cX10_bypassError 27 = .ok (.iadd, 1) := by decide +kernel
theorem dX10_bypassError_28 : decode cX10_bypassError 28 = .ok (.iaload, 1) := by decide +kernel
theorem dX10_bypassError_29 : decode cX10_bypassError 29 = .ok (.iconst 1, 1) := by decide +kernel
theorem dX10_bypassError_30 : decode cX10_bypassError 30 = .ok (.if_icmp .ne 15, 3) := by decide +kernel
theorem dX10_bypassError_33 : decode cX10_bypassError 33 = .ok (.aload_n 1, 1) := by decide +kernel
theorem dX10_bypassError_34 : decode cX10_bypassError 34 = .ok (.bipush 18, 2) := by decide +kernel
theorem dX10_bypassError_36 : decode cX10_bypassError 36 = .ok (.iconst 2, 1) := by decide +kernel
theorem dX10_bypassError_37 : decode cX10_bypassError 37 = .ok (.iload_n 2, 1) := by decide +kernel
theorem dX10_bypassError_38 : decode cX10_bypassError 38 = .ok (.imul, 1) := by decide +kernel
theorem dX10_bypassError_39 : decode cX10_bypassError 39 = .ok (.iadd, 1) := by decide +kernel
theorem dX10_bypassError_40 : decode cX10_bypassError 40 = .ok (.iaload, 1) := by decide +kernel
theorem dX10_bypassError_41 : decode cX10_bypassError 41 = .ok (.iload_n 2, 1) := by decide +kernel
theorem dX10_bypassError_42 : decode cX10_bypassError 42 = .ok (.if_icmp .ne 8, 3) := by decide +kernel
theorem dX10_bypassError_45 : decode cX10_bypassError 45 = .ok (.bipush (-3), 2) := by decide +kernel
theorem dX10_bypassError_47 : decode cX10_bypassError 47 = .ok (.goto 4, 3) := by decide +kernel
theorem dX10_bypassError_50 : decode cX10_bypassError 50 = .ok (.iconst 0, 1) := by decide +kernel
theorem dX10_bypassError_51 : decode cX10_bypassError 51 = .ok (.ireturn, 1) := by decide +kernel
theorem dX10_bypassIn_0 : decode cX10_bypassIn 0 = .ok (.aload_n 1, 1) := by decide +kernel
theorem dX10_bypassIn_1 : decode cX10_bypassIn 1 = .ok (.bipush 18, 2) := by decide +kernel
theorem dX10_bypassIn_3 : decode cX10_bypassIn 3 = .ok (.iconst 2, 1) := by decide +kernel
theorem dX10_bypassIn_4 : decode cX10_bypassIn 4 = .ok (.iload_n 2, 1) := by decide +kernel
theorem dX10_bypassIn_5 : decode cX10_bypassIn 5 = .ok (.imul, 1) := by decide +kernel
theorem dX10_bypassIn_6 : decode cX10_bypassIn 6 = .ok (.iadd, 1) := by decide +kernel
theorem dX10_bypassIn_7 : decode cX10_bypassIn 7 = .ok (.iaload, 1) := by decide +kernel
theorem dX10_bypassIn_8 : decode cX10_bypassIn 8 = .ok (.istore_n 3, 1) := by decide +kernel
theorem dX10_bypassIn_9 : decode cX10_bypassIn 9 = .ok (.iconst 0, 1) := by decide +kernel
theorem dX10_bypassIn_10 : decode cX10_bypassIn 10 = .ok (.istore 4, 2) := by decide +kernel
theorem dX10_bypassIn_12 : decode cX10_bypassIn 12 = .ok (.iconst 0, 1) := by decide +kernel
theorem dX10_bypassIn_13 : decode cX10_bypassIn 13 = .ok (.istore 5, 2) := by decide +kernel
theorem dX10_bypassIn_15 : decode cX10_bypassIn 15 = .ok (.iload 5, 2) := by decide +kernel
theorem dX10_bypassIn_17 : decode cX10_bypassIn 17 = .ok (.aload_n 0, 1) := by decide +kernel
theorem dX10_bypassIn_18 : decode cX10_bypassIn 18 = .ok (.getfield 53, 3) := by decide +kernel
theorem dX10_bypassIn_21 : decode cX10_bypassIn 21 = .ok (.if_icmp .ge 174, 3) := by decide +kernel
theorem dX10_bypassIn_24 : decode cX10_bypassIn 24 = .ok (.iconst 0, 1) := by decide +kernel
theorem dX10_bypassIn_25 : decode cX10_bypassIn 25 = .ok (.istore 6, 2) := by decide +kernel
theorem dX10_bypassIn_27 : decode cX10_bypassIn 27 = .ok (.iload 6, 2) := by decide +kernel
theorem dX10_bypassIn_29 : decode cX10_bypassIn 29 = .ok (.aload_n 1, 1) := by decide +kernel
theorem dX10_bypassIn_30 : decode cX10_bypassIn 30 = .ok (.bipush 10, 2) := by decide +kernel
theorem dX10_bypassIn_32 : decode cX10_bypassIn 32 = .ok (.iload 5, 2) := by decide +kernel
theorem dX10_bypassIn_34 : decode cX10_bypassIn 34 = .ok (.iadd, 1) := by decide +kernel
theorem dX10_bypassIn_35 : decode cX10_bypassIn 35 = .ok (.iaload, 1) := by decide +kernel
theorem dX10_bypassIn_36 : decode cX10_bypassIn 36 = .ok (.if_icmp .ge 41, 3) := by decide +kernel
theorem dX10_bypassIn_39 : decode cX10_bypassIn 39 = .ok (.aload_n 1, 1) := by decide +kernel
theorem dX10_bypassIn_40 : decode cX10_bypassIn 40 = .ok (.bipush 18, 2) := by decide +kernel
theorem dX10_bypassIn_42 : decode cX10_bypassIn 42 = .ok (.iconst 2, 1) := by decide +kernel
theorem dX10_bypassIn_43 : decode cX10_bypassIn 43 = .ok (.iload 5, 2) := by decide +kernel
theorem dX10_bypassIn_45 : decode cX10_bypassIn 45 = .ok (.imul, 1) := by decide +kernel
theorem dX10_bypassIn_46 : decode cX10_bypassIn 46 = .ok (.iadd, 1) := by decide +kernel
theorem dX10_bypassIn_47 : decode cX10_bypassIn 47 = .ok (.iload 6, 2) := by decide +kernel
theorem dX10_bypassIn_49 : decode cX10_bypassIn 49 = .ok (.iadd, 1) := by decide +kernel
theorem dX10_bypassIn_50 : decode cX10_bypassIn 50 = .ok (.iaload, 1) := by decide +kernel
theorem dX10_bypassIn_51 : decode cX10_bypassIn 51 = .ok (.iload_n 2, 1) := by decide +kernel
theorem dX10_bypassIn_52 : decode cX10_bypassIn 52 = .ok (.if_icmp .ne 19, 3) := by decide +kernel
theorem dX10_bypassIn_55 : decode cX10_bypassIn 55 = .ok (.aload_n 1, 1) := by decide +kernel
theorem dX10_bypassIn_56 : decode cX10_bypassIn 56 = .ok (.bipush 18, 2) := by decide +kernel
theorem dX10_bypassIn_58 : decode cX10_bypassIn 58 = .ok (.iconst 2, 1) := by decide +kernel
theorem dX10_bypassIn_59 : decode cX10_bypassIn 59 = .ok (.iload 5, 2) := by decide +kernel
theorem dX10_bypassIn_61 : decode cX10_bypassIn 61 = .ok (.imul, 1) := by decide +kernel
theorem dX10_bypassIn_62 : decode cX10_bypassIn 62 = .ok (.iadd, 1) := by decide +kernel
theorem dX10_bypassIn_63 : decode cX10_bypassIn 63 = .ok (.iload 6, 2) := by decide +kernel
theorem dX10_bypassIn_65 : decode cX10_bypassIn 65 = .ok (.iadd, 1) := by decide +kernel
theorem dX10_bypassIn_66 : decode cX10_bypassIn 66 = .ok (.iload_n 3, 1) := by decide +kernel
theorem dX10_bypassIn_67 : decode cX10_bypassIn 67 = .ok (.iastore, 1) := by decide +kernel
theorem dX10_bypassIn_68 : decode cX10_bypassIn 68 = .ok (.iinc 4 1, 3) := by decide +kernel
theorem dX10_bypassIn_71 : decode cX10_bypassIn 71 = .ok (.iinc 6 1, 3) := by decide +kernel
theorem dX10_bypassIn_74 : decode cX10_bypassIn 74 = .ok (.goto (-47), 3) := by decide +kernel
theorem dX10_bypassIn_77 : decode cX10_bypassIn 77 = .ok (.aload_n 1, 1) := by decide +kernel
theorem dX10_bypassIn_78 : decode cX10_bypassIn 78 = .ok (.bipush 10, 2) := by decide +kernel
theorem dX10_bypassIn_80 : decode cX10_bypassIn 80 = .ok (.iload 5, 2) := by decide +kernel
theorem dX10_bypassIn_82 : decode cX10_bypassIn 82 = .ok (.iadd, 1) := by decide +kernel
theorem dX10_bypassIn_83 : decode cX10_bypassIn 83 = .ok (.iaload, 1) := by decide +kernel
theorem dX10_bypassIn_84 : decode cX10_bypassIn 84 = .ok (.iconst 2, 1) := by decide +kernel
theorem dX10_bypassIn_85 : decode cX10_bypassIn 85 = .ok (.if_icmp .ne 104, 3) := by decide +kernel
theorem dX10_bypassIn_88 : decode cX10_bypassIn 88 = .ok (.aload_n 1, 1) := by decide +kernel
theorem dX10_bypassIn_89 : decode cX10_bypassIn 89 = .ok (.bipush 18, 2) := by decide +kernel
theorem dX10_bypassIn_91 : decode cX10_bypassIn 91 = .ok (.iconst 2, 1) := by decide +kernel
theorem dX10_bypassIn_92 : decode cX10_bypassIn 92 = .ok (.iload 5, 2) := by decide +kernel
theorem dX10_bypassIn_94 : decode cX10_bypassIn 94 = .ok (.imul, 1) := by decide +kernel
theorem dX10_bypassIn_95 : decode cX10_bypassIn 95 = .ok (.iadd, 1) := by decide +kernel
theorem dX10_bypassIn_96 : decode cX10_bypassIn 96 = .ok (.iaload, 1) := by decide +kernel
theorem dX10_bypassIn_97 : decode cX10_bypassIn 97 = .ok (.aload_n 1, 1) := by decide +kernel
theorem dX10_bypassIn_98 : decode cX10_bypassIn 98 = .ok (.bipush 18, 2) := by decide +kernel
theorem dX10_bypassIn_100 : decode cX10_bypassIn 100 = .ok (.iconst 2, 1) := by decide +kernel
theorem dX10_bypassIn_101 : decode cX10_bypassIn 101 = .ok (.iload 5, 2) := by decide +kernel
theorem dX10_bypassIn_103 : decode cX10_bypassIn 103 = .ok (.imul, 1) := by decide +kernel
theorem dX10_bypassIn_104 : decode cX10_bypassIn 104 = .ok (.iadd, 1) := by decide +kernel
theorem dX10_bypassIn_105 : decode cX10_bypassIn 105 = .ok (.iconst 1, 1) := by decide +kernel
theorem dX10_bypassIn_106 : decode cX10_bypassIn 106 = .ok (.iadd, 1) := by decide +kernel
theorem dX10_bypassIn_107 : decode cX10_bypassIn 107 = .ok (.iaload, 1) := by decide +kernel
theorem dX10_bypassIn_108 : decode cX10_bypassIn 108 = .ok (.if_icmp .ne 81, 3) := by decide +kernel
theorem dX10_bypassIn_111 : decode cX10_bypassIn 111 = .ok (.aload_n 1, 1) := by decide +kernel
theorem dX10_bypassIn_112 : decode cX10_bypassIn 112 = .ok (.bipush 34, 2) := by decide +kernel
theorem dX10_bypassIn_114 : decode cX10_bypassIn 114 = .ok (.iconst 2, 1) := by decide +kernel
theorem dX10_bypassIn_115 : decode cX10_bypassIn 115 = .ok (.iload 5, 2) := by decide +kernel
theorem dX10_bypassIn_117 : decode cX10_bypassIn 117 = .ok (.imul, 1) := by decide +kernel
theorem dX10_bypassIn_118 : decode cX10_bypassIn 118 = .ok (.iadd, 1) := by decide +kernel
theorem dX10_bypassIn_119 : decode cX10_bypassIn 119 = .ok (.iaload, 1) := by decide +kernel
theorem dX10_bypassIn_120 : decode cX10_bypassIn 120 = .ok (.aload_n 1, 1) := by decide +kernel
theorem dX10_bypassIn_121 : decode cX10_bypassIn 121 = .ok (.bipush 34, 2) := by decide +kernel
theorem dX10_bypassIn_123 : decode cX10_bypassIn 123 = .ok (.iconst 2, 1) := by decide +kernel
theorem dX10_bypassIn_124 : decode cX10_bypassIn 124 = .ok (.iload 5, 2) := by decide +kernel
theorem dX10_bypassIn_126 : decode cX10_bypassIn 126 = .ok (.imul, 1) := by decide +kernel
theorem dX10_bypassIn_127 : decode cX10_bypassIn 127 = .ok (.iadd, 1) := by decide +kernel
theorem dX10_bypassIn_128 : decode cX10_bypassIn 128 = .ok (.iconst 1, 1) := by decide +kernel
theorem dX10_bypassIn_129 : decode cX10_bypassIn 129 = .ok (.iadd, 1) := by decide +kernel
theorem dX10_bypassIn_130 : decode cX10_bypassIn 130 = .ok (.iaload, 1) := by decide +kernel
theorem dX10_bypassIn_131 : decode cX10_bypassIn 131 = .ok (.iadd, 1) := by decide +kernel
theorem dX10_bypassIn_132 : decode cX10_bypassIn 132 = .ok (.istore 6, 2) := by decide +kernel
theorem dX10_bypassIn_134 : decode cX10_bypassIn 134 = .ok (.aload_n 1, 1) := by decide +kernel
theorem dX10_bypassIn_135 : decode cX10_bypassIn 135 = .ok (.bipush 34, 2) := by decide +kernel
theorem dX10_bypassIn_137 : decode cX10_bypassIn 137 = .ok (.iconst 2, 1) := by decide +kernel
theorem dX10_bypassIn_138 : decode cX10_bypassIn 138 = .ok (.iload 5, 2) := by decide +kernel
theorem dX10_bypassIn_140 : decode cX10_bypassIn 140 = .ok (.imul, 1) := by decide +kernel
theorem dX10_bypassIn_141 : decode cX10_bypassIn 141 = .ok (.iadd, 1) := by decide +kernel
theorem dX10_bypassIn_142 : decode cX10_bypassIn 142 = .ok (.iload 6, 2) := by decide +kernel
theorem dX10_bypassIn_144 : decode cX10_bypassIn 144 = .ok (.bipush 99, 2) := by decide +kernel
theorem dX10_bypassIn_146 : decode cX10_bypassIn 146 = .ok (.if_icmp .le 8, 3) := by decide +kernel
theorem dX10_bypassIn_149 : decode cX10_bypassIn 149 = .ok (.bipush 99, 2) := by decide +kernel
theorem dX10_bypassIn_151 : decode cX10_bypassIn 151 = .ok (.goto 5, 3) := by decide +kernel
theorem dX10_bypassIn_154 : decode cX10_bypassIn 154 = .ok (.iload 6, 2) := by decide +kernel
theorem dX10_bypassIn_156 : decode cX10_bypassIn 156 = .ok (.iastore, 1) := by decide +kernel
theorem dX10_bypassIn_157 : decode cX10_bypassIn 157 = .ok (.aload_n 1, 1) := by decide +kernel
theorem dX10_bypassIn_158 : decode cX10_bypassIn 158 = .ok (.bipush 34, 2) := by decide +kernel
theorem dX10_bypassIn_160 : decode cX10_bypassIn 160 = .ok (.iconst 2, 1) := by decide +kernel
theorem dX10_bypassIn_161 : decode cX10_bypassIn 161 = .ok (.iload 5, 2) := by decide +kernel
theorem dX10_bypassIn_163 : decode cX10_bypassIn 163 = .ok (.imul, 1) := by decide +kernel
theorem dX10_bypassIn_164 : decode cX10_bypassIn 164 = .ok (.iadd, 1) := by decide +kernel
theorem dX10_bypassIn_165 : decode cX10_bypassIn 165 = .ok (.iconst 1, 1) := by decide +kernel
theorem dX10_bypassIn_166 : decode cX10_bypassIn 166 = .ok (.iadd, 1) := by decide +kernel
theorem dX10_bypassIn_167 : decode cX10_bypassIn 167 = .ok (.iconst 0, 1) := by decide +kernel
theorem dX10_bypassIn_168 : decode cX10_bypassIn 168 = .ok (.iastore, 1) := by decide +kernel
theorem dX10_bypassIn_169 : decode cX10_bypassIn 169 = .ok (.aload_n 1, 1) := by decide +kernel
theorem dX10_bypassIn_170 : decode cX10_bypassIn 170 = .ok (.bipush 18, 2) := by decide +kernel
theorem dX10_bypassIn_172 : decode cX10_bypassIn 172 = .ok (.iconst 2, 1) := by decide +kernel
theorem dX10_bypassIn_173 : decode cX10_bypassIn 173 = .ok (.iload 5, 2) := by decide +kernel
theorem dX10_bypassIn_175 : decode cX10_bypassIn 175 = .ok (.imul, 1) := by decide +kernel
theorem dX10_bypassIn_176 : decode cX10_bypassIn 176 = .ok (.iadd, 1) := by decide +kernel
theorem dX10_bypassIn_177 : decode cX10_bypassIn 177 = .ok (.iconst 1, 1) := by decide +kernel
theorem dX10_bypassIn_178 : decode cX10_bypassIn 178 = .ok (.iadd, 1) := by decide +kernel
theorem dX10_bypassIn_179 : decode cX10_bypassIn 179 = .ok (.iconst 0, 1) := by decide +kernel
theorem dX10_bypassIn_180 : decode cX10_bypassIn 180 = .ok (.iastore, 1) := by decide +kernel
theorem dX10_bypassIn_181 : decode cX10_bypassIn 181 = .ok (.aload_n 1, 1) := by decide +kernel
theorem dX10_bypassIn_182 : decode cX10_bypassIn 182 = .ok (.bipush 10, 2) := by decide +kernel
theorem dX10_bypassIn_184 : decode cX10_bypassIn 184 = .ok (.iload 5, 2) := by decide +kernel
theorem dX10_bypassIn_186 : decode cX10_bypassIn 186 = .ok (.iadd, 1) := by decide +kernel
theorem dX10_bypassIn_187 : decode cX10_bypassIn 187 = .ok (.iconst 1, 1) := by decide +kernel
theorem dX10_bypassIn_188 : decode cX10_bypassIn 188 = .ok (.iastore, 1) := by decide +kernel
theorem dX10_bypassIn_189 : decode cX10_bypassIn 189 = .ok (.iinc 5 1, 3) := by decide +kernel
theorem dX10_bypassIn_192 : decode cX10_bypassIn 192 = .ok (.goto (-177), 3) := by decide +kernel
theorem dX10_bypassIn_195 : decode cX10_bypassIn 195 = .ok (.aload_n 1, 1) := by decide +kernel
theorem dX10_bypassIn_196 : decode cX10_bypassIn 196 = .ok (.bipush 34, 2) := by decide +kernel
theorem dX10_bypassIn_198 : decode cX10_bypassIn 198 = .ok (.iconst 2, 1) := by decide +kernel
theorem dX10_bypassIn_199 : decode cX10_bypassIn 199 = .ok (.iload_n 2, 1) := by decide +kernel
theorem dX10_bypassIn_200 : decode cX10_bypassIn 200 = .ok (.imul, 1) := by decide +kernel
theorem dX10_bypassIn_201 : decode cX10_bypassIn 201 = .ok (.iadd, 1) := by decide +kernel
theorem dX10_bypassIn_202 : decode cX10_bypassIn 202 = .ok (.iconst 0, 1) := by decide +kernel
theorem dX10_bypassIn_203 : decode cX10_bypassIn 203 = .ok (.iastore, 1) := by decide +kernel
theorem dX10_bypassIn_204 : decode cX10_bypassIn 204 = .ok (.iload 4, 2) := by decide +kernel
theorem dX10_bypassIn_206 : decode cX10_bypassIn 206 = .ok (.ireturn, 1) := by decide +kernel
theorem dX10_bypass_0 : decode cX10_bypass 0 = .ok (.aload_n 0, 1) := by decide +kernel
theorem dX10_bypass_1 : decode cX10_bypass 1 = .ok (.aload_n 0, 1) := by decide +kernel
theorem dX10_bypass_2 : decode cX10_bypass 2 = .ok (.getfield 16, 3) := by decide +kernel
theorem dX10_bypass_5 : decode cX10_bypass 5 = .ok (.iload_n 1, 1) := by decide +kernel
theorem dX10_bypass_6 : decode cX10_bypass 6 = .ok (.invokevirtual 189, 3) := by decide +kernel
theorem dX10_bypass_9 : decode cX10_bypass 9 = .ok (.istore_n 2, 1) := by decide +kernel
theorem dX10_bypass_10 : decode cX10_bypass 10 = .ok (.iload_n 2, 1) := by decide +kernel
theorem dX10_bypass_11 : decode cX10_bypass 11 = .ok (.ifCond .eq 5, 3) := by decide +kernel
theorem dX10_bypass_14 : decode cX10_bypass 14 = .ok (.iload_n 2, 1) := by decide +kernel
theorem dX10_bypass_15 : decode cX10_bypass 15 = .ok (.ireturn, 1) := by decide +kernel
theorem dX10_bypass_16 : decode cX10_bypass 16 = .ok (.aload_n 0, 1) := by decide +kernel
theorem dX10_bypass_17 : decode cX10_bypass 17 = .ok (.invokevirtual 150, 3) := by decide +kernel
theorem dX10_bypass_20 : decode cX10_bypass 20 = .ok (.aload_n 0, 1) := by decide +kernel
theorem dX10_bypass_21 : decode cX10_bypass 21 = .ok (.aload_n 0, 1) := by decide +kernel
theorem dX10_bypass_22 : decode cX10_bypass 22 = .ok (.getfield 16, 3) := by decide +kernel
theorem dX10_bypass_25 : decode cX10_bypass 25 = .ok (.iload_n 1, 1) := by decide +kernel
theorem dX10_bypass_26 : decode cX10_bypass 26 = .ok (.invokevirtual 192, 3) := by decide +kernel
theorem dX10_bypass_29 : decode cX10_bypass 29 = .ok (.ireturn, 1) := by decide +kernel
theorem dX10_setCount_0 : decode cX10_setCount 0 = .ok (.aload_n 0, 1) := by decide +kernel
theorem dX10_setCount_1 : decode cX10_setCount 1 = .ok (.iload_n 1, 1) := by decide +kernel
theorem dX10_setCount_2 : decode cX10_setCount 2 = .ok (.iload_n 2, 1) := by decide +kernel
theorem dX10_setCount_3 : decode cX10_setCount 3 = .ok (.invokevirtual 107, 3) := by decide +kernel
theorem dX10_setCount_6 : decode cX10_setCount 6 = .ok (.ifCond .ne 5, 3) := by decide +kernel
theorem dX10_setCount_9 : decode cX10_setCount 9 = .ok (.iconst (-1), 1) := by decide +kernel
theorem dX10_setCount_10 : decode cX10_setCount 10 = .ok (.ireturn, 1) := by decide +kernel
theorem dX10_setCount_11 : decode cX10_setCount 11 = .ok (.iload_n 3, 1) := by decide +kernel
theorem dX10_setCount_12 : decode cX10_setCount 12 = .ok (.i2l, 1) := by decide +kernel
theorem dX10_setCount_13 : decode cX10_setCount 13 = .ok (.lconst 0, 1) := by decide +kernel
theorem dX10_setCount_14 : decode cX10_setCount 14 = .ok (.ldc2_w 184, 3) := by decide +kernel
theorem dX10_setCount_17 : decode cX10_setCount 17 = .ok (.invokestatic 57, 3) := by decide +kernel
theorem dX10_setCount_20 : decode cX10_setCount 20 = .ok (.ifCond .ne 6, 3) := by decide +kernel
theorem dX10_setCount_23 : decode cX10_setCount 23 = .ok (.bipush (-2), 2) := by decide +kernel
theorem dX10_setCount_25 : decode cX10_setCount 25 = .ok (.ireturn, 1) := by decide +kernel
theorem dX10_setCount_26 : decode cX10_setCount 26 = .ok (.aload_n 0, 1) := by decide +kernel
theorem dX10_setCount_27 : decode cX10_setCount 27 = .ok (.invokevirtual 150, 3) := by decide +kernel
theorem dX10_setCount_30 : decode cX10_setCount 30 = .ok (.aload_n 0, 1) := by decide +kernel
theorem dX10_setCount_31 : decode cX10_setCount 31 = .ok (.getfield 16, 3) := by decide +kernel
theorem dX10_setCount_34 : decode cX10_setCount 34 = .ok (.bipush 34, 2) := by decide +kernel
theorem dX10_setCount_36 : decode cX10_setCount 36 = .ok (.iconst 2, 1) := by decide +kernel
theorem dX10_setCount_37 : decode cX10_setCount 37 = .ok (.iload_n 1, 1) := by decide +kernel
theorem dX10_setCount_38 : decode cX10_setCount 38 = .ok (.imul, 1) := by decide +kernel
theorem dX10_setCount_39 : decode cX10_setCount 39 = .ok (.iadd, 1) := by decide +kernel
theorem dX10_setCount_40 : decode cX10_setCount 40 = .ok (.iload_n 2, 1) := by decide +kernel
theorem dX10_setCount_41 : decode cX10_setCount 41 = .ok (.iadd, 1) := by decide +kernel
theorem dX10_setCount_42 : decode cX10_setCount 42 = .ok (.iaload, 1) := by decide +kernel
theorem dX10_setCount_43 : decode cX10_setCount 43 = .ok (.istore 4, 2) := by decide +kernel
theorem dX10_setCount_45 : decode cX10_setCount 45 = .ok (.aload_n 0, 1) := by decide +kernel
theorem dX10_setCount_46 : decode cX10_setCount 46 = .ok (.getfield 16, 3) := by decide +kernel
theorem dX10_setCount_49 : decode cX10_setCount 49 = .ok (.bipush 34, 2) := by decide +kernel
theorem dX10_setCount_51 : decode cX10_setCount 51 = .ok (.iconst 2, 1) := by decide +kernel
theorem dX10_setCount_52 : decode cX10_setCount 52 = .ok (.iload_n 1, 1) := by decide +kernel
theorem dX10_setCount_53 : decode cX10_setCount 53 = .ok (.imul, 1) := by decide +kernel
theorem dX10_setCount_54 : decode cX10_setCount 54 = .ok (.iadd, 1) := by decide +kernel
theorem dX10_setCount_55 : decode cX10_setCount 55 = .ok (.iload_n 2, 1) := by decide +kernel
theorem dX10_setCount_56 : decode cX10_setCount 56 = .ok (.iadd, 1) := by decide +kernel
theorem dX10_setCount_57 : decode cX10_setCount 57 = .ok (.iload_n 3, 1) := by decide +kernel
theorem dX10_setCount_58 : decode cX10_setCount 58 = .ok (.iastore, 1) := by decide +kernel
theorem dX10_setCount_59 : decode cX10_setCount 59 = .ok (.iload 4, 2) := by decide +kernel
theorem dX10_setCount_61 : decode cX10_setCount 61 = .ok (.ireturn, 1) := by decide +kernel
theorem dX10_setAlignment_0 : decode cX10_setAlignment 0 = .ok (.iload_n 1, 1) := by decide +kernel
theorem dX10_setAlignment_1 : decode cX10_setAlignment 1 = .ok (.iconst 1, 1) := by decide +kernel
theorem dX10_setAlignment_2 : decode cX10_setAlignment 2 = .ok (.if_icmp .eq 28, 3) := by decide +kernel
theorem dX10_setAlignment_5 : decode cX10_setAlignment 5 = .ok (.iload_n 1, 1) := by decide +kernel
theorem dX10_setAlignment_6 : decode cX10_setAlignment 6 = .ok (.iconst 2, 1) := by decide +kernel
theorem dX10_setAlignment_7 : decode cX10_setAlignment 7 = .ok (.if_icmp .eq 23, 3) := by decide +kernel
theorem dX10_setAlignment_10 : decode cX10_setAlignment 10 = .ok (.iload_n 1, 1) := by decide +kernel
theorem dX10_setAlignment_11 : decode cX10_setAlignment 11 = .ok (.iconst 4, 1) := by decide +kernel
theorem dX10_setAlignment_12 : decode cX10_setAlignment 12 = .ok (.if_icmp .eq 18, 3) := by decide +kernel
theorem dX10_setAlignment_15 : decode cX10_setAlignment 15 = .ok (.iload_n 1, 1) := by decide +kernel
theorem dX10_setAlignment_16 : decode cX10_setAlignment 16 = .ok (.bipush 8, 2) := by decide +kernel
theorem dX10_setAlignment_18 : decode cX10_setAlignment 18 = .ok (.if_icmp .eq 12, 3) := by decide +kernel
theorem dX10_setAlignment_21 : decode cX10_setAlignment 21 = .ok (.iload_n 1, 1) := by decide +kernel
theorem dX10_setAlignment_22 : decode cX10_setAlignment 22 = .ok (.bipush 16, 2) := by decide +kernel
theorem dX10_setAlignment_24 : decode cX10_setAlignment 24 = .ok (.if_icmp .eq 6, 3) := by decide +kernel
theorem dX10_setAlignment_27 : decode cX10_setAlignment 27 = .ok (.bipush (-2), 2) := by decide +kernel
theorem dX10_setAlignment_29 : decode cX10_setAlignment 29 = .ok (.ireturn, 1) := by decide +kernel
theorem dX10_setAlignment_30 : decode cX10_setAlignment 30 = .ok (.aload_n 0, 1) := by decide +kernel
theorem dX10_setAlignment_31 : decode cX10_setAlignment 31 = .ok (.invokevirtual 150, 3) := by decide +kernel
theorem dX10_setAlignment_34 : decode cX10_setAlignment 34 = .ok (.aload_n 0, 1) := by decide +kernel
theorem dX10_setAlignment_35 : decode cX10_setAlignment 35 = .ok (.getfield 16, 3) := by decide +kernel
theorem dX10_setAlignment_38 : decode cX10_setAlignment 38 = .ok (.iconst 1, 1) := by decide +kernel
theorem dX10_setAlignment_39 : decode cX10_setAlignment 39 = .ok (.iaload, 1) := by decide +kernel
theorem dX10_setAlignment_40 : decode cX10_setAlignment 40 = .ok (.istore_n 2, 1) := by decide +kernel
theorem dX10_setAlignment_41 : decode cX10_setAlignment 41 = .ok (.aload_n 0, 1) := by decide +kernel
theorem dX10_setAlignment_42 : decode cX10_setAlignment 42 = .ok (.getfield 16, 3) := by decide +kernel
theorem dX10_setAlignment_45 : decode cX10_setAlignment 45 = .ok (.iconst 1, 1) := by decide +kernel
theorem dX10_setAlignment_46 : decode cX10_setAlignment 46 = .ok (.iload_n 1, 1) := by decide +kernel
theorem dX10_setAlignment_47 : decode cX10_setAlignment 47 = .ok (.iastore, 1) := by decide +kernel
theorem dX10_setAlignment_48 : decode cX10_setAlignment 48 = .ok (.iload_n 2, 1) := by decide +kernel
theorem dX10_setAlignment_49 : decode cX10_setAlignment 49 = .ok (.ireturn, 1) := by decide +kernel
theorem dX10_undo_0 : decode cX10_undo 0 = .ok (.aload_n 0, 1) := by decide +kernel
theorem dX10_undo_1 : decode cX10_undo 1 = .ok (.getfield 104, 3) := by decide +kernel
theorem dX10_undo_4 : decode cX10_undo 4 = .ok (.ifCond .ne 6, 3) := by decide +kernel
theorem dX10_undo_7 : decode cX10_undo 7 = .ok (.bipush (-3), 2) := by decide +kernel
theorem dX10_undo_9 : decode cX10_undo 9 = .ok (.ireturn, 1) := by decide +kernel
theorem dX10_undo_10 : decode cX10_undo 10 = .ok (.aload_n 0, 1) := by decide +kernel
theorem dX10_undo_11 : decode cX10_undo 11 = .ok (.dup, 1) := by decide +kernel
theorem dX10_undo_12 : decode cX10_undo 12 = .ok (.getfield 104, 3) := by decide +kernel
theorem dX10_undo_15 : decode cX10_undo 15 = .ok (.iconst 1, 1) := by decide +kernel
theorem dX10_undo_16 : decode cX10_undo 16 = .ok (.isub, 1) := by decide +kernel
theorem dX10_undo_17 : decode cX10_undo 17 = .ok (.putfield 104, 3) := by decide +kernel
theorem dX10_undo_20 : decode cX10_undo 20 = .ok (.aload_n 0, 1) := by decide +kernel
theorem dX10_undo_21 : decode cX10_undo 21 = .ok (.aload_n 0, 1) := by decide +kernel
theorem dX10_undo_22 : decode cX10_undo 22 = .ok (.getfield 171, 3) := by decide +kernel
theorem dX10_undo_25 : decode cX10_undo 25 = .ok (.bipush 14, 2) := by decide +kernel
theorem dX10_undo_27 : decode cX10_undo 27 = .ok (.iadd, 1) := by decide +kernel
theorem dX10_undo_28 : decode cX10_undo 28 = .ok (.iconst 1, 1) := by decide +kernel
theorem dX10_undo_29 : decode cX10_undo 29 = .ok (.isub, 1) := by decide +kernel
theorem dX10_undo_30 : decode cX10_undo 30 = .ok (.bipush 14, 2) := by decide +kernel
theorem dX10_undo_32 : decode cX10_undo 32 = .ok (.irem, 1) := by decide +kernel
theorem dX10_undo_33 : decode cX10_undo 33 = .ok (.putfield 171, 3) := by decide +kernel
theorem dX10_undo_36 : decode cX10_undo 36 = .ok (.iconst 0, 1) := by decide +kernel
theorem dX10_undo_37 : decode cX10_undo 37 = .ok (.istore_n 1, 1) := by decide +kernel
theorem dX10_undo_38 : decode cX10_undo 38 = .ok (.iload_n 1, 1) := by decide +kernel
theorem dX10_undo_39 : decode cX10_undo 39 = .ok (.bipush 50, 2) := by decide +kernel
theorem dX10_undo_41 : decode cX10_undo 41 = .ok (.if_icmp .ge 29, 3) := by decide +kernel
theorem dX10_undo_44 : decode cX10_undo 44 = .ok (.aload_n 0, 1) := by decide +kernel
theorem dX10_undo_45 : decode cX10_undo 45 = .ok (.getfield 16, 3) := by decide +kernel
theorem dX10_undo_48 : decode cX10_undo 48 = .ok (.iload_n 1, 1) := by decide +kernel
theorem dX10_undo_49 : decode cX10_undo 49 = .ok (.aload_n 0, 1) := by decide +kernel
theorem dX10_undo_50 : decode cX10_undo 50 = .ok (.getfield 25, 3) := by decide +kernel
theorem dX10_undo_53 : decode cX10_undo 53 = .ok (.bipush 50, 2) := by decide +kernel
theorem dX10_undo_55 : decode cX10_undo 55 = .ok (.aload_n 0, 1) := by decide +kernel
theorem dX10_undo_56 : decode cX10_undo 56 = .ok (.getfield 171, 3) := by decide +kernel
theorem dX10_undo_59 : decode cX10_undo 59 = .ok (.imul, 1) := by decide +kernel
theorem dX10_undo_60 : decode cX10_undo 60 = .ok (.iload_n 1, 1) := by decide +kernel
theorem dX10_undo_61 : decode cX10_undo 61 = .ok (.iadd, 1) := by decide +kernel
theorem dX10_undo_62 : decode cX10_undo 62 = .ok (.iaload, 1) := by decide +kernel
theorem dX10_undo_63 : decode cX10_undo 63 = .ok (.iastore, 1) := by decide +kernel
theorem dX10_undo_64 : decode cX10_undo 64 = .ok (.iinc 1 1, 3) := by decide +kernel
theorem dX10_undo_67 : decode cX10_undo 67 = .ok (.goto (-29), 3) := by decide +kernel
theorem dX10_undo_70 : decode cX10_undo 70 = .ok (.aload_n 0, 1) := by decide +kernel
theorem dX10_undo_71 : decode cX10_undo 71 = .ok (.getfield 104, 3) := by decide +kernel
theorem dX10_undo_74 : decode cX10_undo 74 = .ok (.ireturn, 1) := by decide +kernel
theorem dX10_command_0 : decode cX10_command 0 = .ok (.iload_n 1, 1) := by decide +kernel
theorem dX10_command_1 : decode cX10_command 1 = .ok (.tableswitch 325 1 8 #[47, 74, 105, 145, 178, 207, 244, 285], 47) := by decide +kernel
theorem dX10_command_48 : decode cX10_command 48 = .ok (.iload 4, 2) := by decide +kernel
theorem dX10_command_50 : decode cX10_command 50 = .ok (.ifCond .ne 12, 3) := by decide +kernel
theorem dX10_command_53 : decode cX10_command 53 = .ok (.aload_n 0, 1) := by decide +kernel
theorem dX10_command_54 : decode cX10_command 54 = .ok (.iload_n 2, 1) := by decide +kernel
theorem dX10_command_55 : decode cX10_command 55 = .ok (.iload_n 3, 1) := by decide +kernel
theorem dX10_command_56 : decode cX10_command 56 = .ok (.invokevirtual 174, 3) := by decide +kernel
theorem dX10_command_59 : decode cX10_command 59 = .ok (.ifCond .eq 5, 3) := by decide +kernel
theorem dX10_command_62 : decode cX10_command 62 = .ok (.iconst 0, 1) := by decide +kernel
theorem dX10_command_63 : decode cX10_command 63 = .ok (.ireturn, 1) := by decide +kernel
theorem dX10_command_64 : decode cX10_command 64 = .ok (.aload_n 0, 1) := by decide +kernel
theorem dX10_command_65 : decode cX10_command 65 = .ok (.getfield 19, 3) := by decide +kernel
theorem dX10_command_68 : decode cX10_command 68 = .ok (.iload_n 2, 1) := by decide +kernel
theorem dX10_command_69 : decode cX10_command 69 = .ok (.iload_n 3, 1) := by decide +kernel
theorem dX10_command_70 : decode cX10_command 70 = .ok (.invokestatic 177, 3) := by decide +kernel
theorem dX10_command_73 : decode cX10_command 73 = .ok (.iconst 1, 1) := by decide +kernel
theorem dX10_command_74 : decode cX10_command 74 = .ok (.ireturn, 1) := by decide +kernel
theorem dX10_command_75 : decode cX10_command 75 = .ok (.iload 4, 2) := by decide +kernel
theorem dX10_command_77 : decode cX10_command 77 = .ok (.ifCond .ne 16, 3) := by decide +kernel
theorem dX10_command_80 : decode cX10_command 80 = .ok (.aload_n 0, 1) := by decide +kernel
theorem dX10_command_81 : decode cX10_command 81 = .ok (.aload_n 0, 1) := by decide +kernel
theorem dX10_command_82 : decode cX10_command 82 = .ok (.getfield 19, 3) := by decide +kernel
theorem dX10_command_85 : decode cX10_command 85 = .ok (.iload_n 2, 1) := by decide +kernel
theorem dX10_command_86 : decode cX10_command 86 = .ok (.iload_n 3, 1) := by decide +kernel
theorem dX10_command_87 : decode cX10_command 87 = .ok (.invokevirtual 164, 3) := by decide +kernel
theorem dX10_command_90 : decode cX10_command 90 = .ok (.ifCond .eq 5, 3) := by decide +kernel
theorem dX10_command_93 : decode cX10_command 93 = .ok (.iconst 0, 1) := by decide +kernel
theorem dX10_command_94 : decode cX10_command 94 = .ok (.ireturn, 1) := by decide +kernel
theorem dX10_command_95 : decode cX10_command 95 = .ok (.aload_n 0, 1) := by decide +kernel
theorem dX10_command_96 : decode cX10_command 96 = .ok (.getfield 19, 3) := by decide +kernel
theorem dX10_command_99 : decode cX10_command 99 = .ok (.iload_n 2, 1) := by decide +kernel
theorem dX10_command_100 : decode cX10_command 100 = .ok (.iload_n 3, 1) := by decide +kernel
theorem dX10_command_101 : decode cX10_command 101 = .ok (.invokestatic 181, 3) := by decide +kernel
theorem dX10_command_104 : decode cX10_command 104 = .ok (.iconst 1, 1) := by decide +kernel
theorem dX10_command_105 : decode cX10_command 105 = .ok (.ireturn, 1) := by decide +kernel
theorem dX10_command_106 : decode cX10_command 106 = .ok (.iload_n 2, 1) := by decide +kernel
theorem dX10_command_107 : decode cX10_command 107 = .ok (.ifCond .ne 13, 3) := by decide +kernel
theorem dX10_command_110 : decode cX10_command 110 = .ok (.bipush 10, 2) := by decide +kernel
theorem dX10_command_112 : decode cX10_command 112 = .ok (.iload_n 3, 1) := by decide +kernel
theorem dX10_command_113 : decode cX10_command 113 = .ok (.imul, 1) := by decide +kernel
theorem dX10_command_114 : decode cX10_command 114 = .ok (.iload 4, 2) := by decide +kernel
theorem dX10_command_116 : decode cX10_command 116 = .ok (.iadd, 1) := by decide +kernel
theorem dX10_command_117 : decode cX10_command 117 = .ok (.ifCond .ne 5, 3) := by decide +kernel
theorem dX10_command_120 : decode cX10_command 120 = .ok (.iconst 0, 1) := by decide +kernel
theorem dX10_command_121 : decode cX10_command 121 = .ok (.ireturn, 1) := by decide +kernel
theorem dX10_command_122 : decode cX10_command 122 = .ok (.aload_n 0, 1) := by decide +kernel
theorem dX10_command_123 : decode cX10_command 123 = .ok (.aload_n 0, 1) := by decide +kernel
theorem dX10_command_124 : decode cX10_command 124 = .ok (.getfield 19, 3) := by decide +kernel
theorem dX10_command_127 : decode cX10_command 127 = .ok (.bipush 10, 2) := by decide +kernel
theorem dX10_command_129 : decode cX10_command 129 = .ok (.iload_n 3, 1) := by decide +kernel
theorem dX10_command_130 : decode cX10_command 130 = .ok (.imul, 1) := by decide +kernel
theorem dX10_command_131 : decode cX10_command 131 = .ok (.iload 4, 2) := by decide +kernel
theorem dX10_command_133 : decode cX10_command 133 = .ok (.iadd, 1) := by decide +kernel
theorem dX10_command_134 : decode cX10_command 134 = .ok (.invokevirtual 186, 3) := by decide +kernel
theorem dX10_command_137 : decode cX10_command 137 = .ok (.ifCond .le 7, 3) := by decide +kernel
theorem dX10_command_140 : decode cX10_command 140 = .ok (.iconst 1, 1) := by decide +kernel
theorem dX10_command_141 : decode cX10_command 141 = .ok (.goto 4, 3) := by decide +kernel
theorem dX10_command_144 : decode cX10_command 144 = .ok (.iconst 0, 1) := by decide +kernel
theorem dX10_command_145 : decode cX10_command 145 = .ok (.ireturn, 1) := by decide +kernel
theorem dX10_command_146 : decode cX10_command 146 = .ok (.aload_n 0, 1) := by decide +kernel
theorem dX10_command_147 : decode cX10_command 147 = .ok (.iload_n 2, 1) := by decide +kernel
theorem dX10_command_148 : decode cX10_command 148 = .ok (.invokevirtual 61, 3) := by decide +kernel
theorem dX10_command_151 : decode cX10_command 151 = .ok (.ifCond .eq 26, 3) := by decide +kernel
theorem dX10_command_154 : decode cX10_command 154 = .ok (.aload_n 0, 1) := by decide +kernel
theorem dX10_command_155 : decode cX10_command 155 = .ok (.aload_n 0, 1) := by decide +kernel
theorem dX10_command_156 : decode cX10_command 156 = .ok (.getfield 19, 3) := by decide +kernel
theorem dX10_command_159 : decode cX10_command 159 = .ok (.iload_n 2, 1) := by decide +kernel
theorem dX10_command_160 : decode cX10_command 160 = .ok (.invokevirtual 144, 3) := by decide +kernel
theorem dX10_command_163 : decode cX10_command 163 = .ok (.bipush 10, 2) := by decide +kernel
theorem dX10_command_165 : decode cX10_command 165 = .ok (.iload_n 3, 1) := by decide +kernel
theorem dX10_command_166 : decode cX10_command 166 = .ok (.imul, 1) := by decide +kernel
theorem dX10_command_167 : decode cX10_command 167 = .ok (.iload 4, 2) := by decide +kernel
theorem dX10_command_169 : decode cX10_command 169 = .ok (.iadd, 1) := by decide +kernel
theorem dX10_command_170 : decode cX10_command 170 = .ok (.if_icmp .ne 7, 3) := by decide +kernel
theorem dX10_command_173 : decode cX10_command 173 = .ok (.iconst 1, 1) := by decide +kernel
theorem dX10_command_174 : decode cX10_command 174 = .ok (.goto 4, 3) := by decide +kernel
theorem dX10_command_177 : decode cX10_command 177 = .ok (.iconst 0, 1) := by decide +kernel
theorem dX10_command_178 : decode cX10_command 178 = .ok (.ireturn, 1) := by decide +kernel
theorem dX10_command_179 : decode cX10_command 179 = .ok (.aload_n 0, 1) := by decide +kernel
theorem dX10_command_180 : decode cX10_command 180 = .ok (.aload_n 0, 1) := by decide +kernel
theorem dX10_command_181 : decode cX10_command 181 = .ok (.getfield 19, 3) := by decide +kernel
theorem dX10_command_184 : decode cX10_command 184 = .ok (.invokevirtual 140, 3) := by decide +kernel
theorem dX10_command_187 : decode cX10_command 187 = .ok (.bipush 100, 2) := by decide +kernel
theorem dX10_command_189 : decode cX10_command 189 = .ok (.iload_n 2, 1) := by decide +kernel
theorem dX10_command_190 : decode cX10_command 190 = .ok (.imul, 1) := by decide +kernel
theorem dX10_command_191 : decode cX10_command 191 = .ok (.bipush 10, 2) := by decide +kernel
theorem dX10_command_193 : decode cX10_command 193 = .ok (.iload_n 3, 1) := by decide +kernel
theorem dX10_command_194 : decode cX10_command 194 = .ok (.imul, 1) := by decide +kernel
theorem dX10_command_195 : decode cX10_command 195 = .ok (.iadd, 1) := by decide +kernel
theorem dX10_command_196 : decode cX10_command 196 = .ok (.iload 4, 2) := by decide +kernel
theorem dX10_command_198 : decode cX10_command 198 = .ok (.iadd, 1) := by decide +kernel
theorem dX10_command_199 : decode cX10_command 199 = .ok (.if_icmp .ne 7, 3) := by decide +kernel
theorem dX10_command_202 : decode cX10_command 202 = .ok (.iconst 1, 1) := by decide +kernel
theorem dX10_command_203 : decode cX10_command 203 = .ok (.goto 4, 3) := by decide +kernel
theorem dX10_command_206 : decode cX10_command 206 = .ok (.iconst 0, 1) := by decide +kernel
theorem dX10_command_207 : decode cX10_command 207 = .ok (.ireturn, 1) := by decide +kernel
theorem dX10_command_208 : decode cX10_command 208 = .ok (.aload_n 0, 1) := by decide +kernel
theorem dX10_command_209 : decode cX10_command 209 = .ok (.aload_n 0, 1) := by decide +kernel
theorem dX10_command_210 : decode cX10_command 210 = .ok (.getfield 19, 3) := by decide +kernel
theorem dX10_command_213 : decode cX10_command 213 = .ok (.iconst 0, 1) := by decide +kernel
theorem dX10_command_214 : decode cX10_command 214 = .ok (.invokevirtual 144, 3) := by decide +kernel
theorem dX10_command_217 : decode cX10_command 217 = .ok (.ifCond .ne 26, 3) := by decide +kernel
theorem dX10_command_220 : decode cX10_command 220 = .ok (.aload_n 0, 1) := by decide +kernel
theorem dX10_command_221 : decode cX10_command 221 = .ok (.getfield 134, 3) := by decide +kernel
theorem dX10_command_224 : decode cX10_command 224 = .ok (.bipush 100, 2) := by decide +kernel
theorem dX10_command_226 : decode cX10_command 226 = .ok (.iload_n 2, 1) := by decide +kernel
theorem dX10_command_227 : decode cX10_command 227 = .ok (.imul, 1) := by decide +kernel
theorem dX10_command_228 : decode cX10_command 228 = .ok (.bipush 10, 2) := by decide +kernel
theorem dX10_command_230 : decode cX10_command 230 = .ok (.iload_n 3, 1) := by decide +kernel
theorem dX10_command_231 : decode cX10_command 231 = .ok (.imul, 1) := by decide +kernel
theorem dX10_command_232 : decode cX10_command 232 = .ok (.iadd, 1) := by decide +kernel
theorem dX10_command_233 : decode cX10_command 233 = .ok (.iload 4, 2) := by decide +kernel
theorem dX10_command_235 : decode cX10_command 235 = .ok (.iadd, 1) := by decide +kernel
theorem dX10_command_236 : decode cX10_command 236 = .ok (.if_icmp .ne 7, 3) := by decide +kernel
theorem dX10_command_239 : decode cX10_command 239 = .ok (.iconst 1, 1) := by decide +kernel
theorem dX10_command_240 : decode cX10_command 240 = .ok (.goto 4, 3) := by decide +kernel
theorem dX10_command_243 : decode cX10_command 243 = .ok (.iconst 0, 1) := by decide +kernel
theorem dX10_command_244 : decode cX10_command 244 = .ok (.ireturn, 1) := by decide +kernel
theorem dX10_command_245 : decode cX10_command 245 = .ok (.iload_n 3, 1) := by decide +kernel
theorem dX10_command_246 : decode cX10_command 246 = .ok (.ifCond .ne 20, 3) := by decide +kernel
theorem dX10_command_249 : decode cX10_command 249 = .ok (.iload 4, 2) := by decide +kernel
theorem dX10_command_251 : decode cX10_command 251 = .ok (.ifCond .ne 15, 3) := by decide +kernel
theorem dX10_command_254 : decode cX10_command 254 = .ok (.aload_n 0, 1) := by decide +kernel
theorem dX10_command_255 : decode cX10_command 255 = .ok (.aload_n 0, 1) := by decide +kernel
theorem dX10_command_256 : decode cX10_command 256 = .ok (.getfield 19, 3) := by decide +kernel
theorem dX10_command_259 : decode cX10_command 259 = .ok (.iload_n 2, 1) := by decide +kernel
theorem dX10_command_260 : decode cX10_command 260 = .ok (.invokevirtual 189, 3) := by decide +kernel
theorem dX10_command_263 : decode cX10_command 263 = .ok (.ifCond .eq 5, 3) := by decide +kernel
theorem dX10_command_266 : decode cX10_command 266 = .ok (.iconst 0, 1) := by decide +kernel
theorem dX10_command_267 : decode cX10_command 267 = .ok (.ireturn, 1) := by decide +kernel
theorem dX10_command_268 : decode cX10_command 268 = .ok (.aload_n 0, 1) := by decide +kernel
theorem dX10_command_269 : decode cX10_command 269 = .ok (.aload_n 0, 1) := by decide +kernel
theorem dX10_command_270 : decode cX10_command 270 = .ok (.getfield 19, 3) := by decide +kernel
theorem dX10_command_273 : decode cX10_command 273 = .ok (.iload_n 2, 1) := by decide +kernel
theorem dX10_command_274 : decode cX10_command 274 = .ok (.invokevirtual 192, 3) := by decide +kernel
theorem dX10_command_277 : decode cX10_command 277 = .ok (.ifCond .lt 7, 3) := by decide +kernel
theorem dX10_command_280 : decode cX10_command 280 = .ok (.iconst 1, 1) := by decide +kernel
theorem dX10_command_281 : decode cX10_command 281 = .ok (.goto 4, 3) := by decide +kernel
theorem dX10_command_284 : decode cX10_command 284 = .ok (.iconst 0, 1) := by decide +kernel
theorem dX10_command_285 : decode cX10_command 285 = .ok (.ireturn, 1) := by decide +kernel
theorem dX10_command_286 : decode cX10_command 286 = .ok (.iload 4, 2) := by decide +kernel
theorem dX10_command_288 : decode cX10_command 288 = .ok (.ifCond .ne 36, 3) := by decide +kernel
theorem dX10_command_291 : decode cX10_command 291 = .ok (.aload_n 0, 1) := by decide +kernel
theorem dX10_command_292 : decode cX10_command 292 = .ok (.iload_n 2, 1) := by decide +kernel
theorem dX10_command_293 : decode cX10_command 293 = .ok (.invokevirtual 61, 3) := by decide +kernel
theorem dX10_command_296 : decode cX10_command 296 = .ok (.ifCond .eq 28, 3) := by decide +kernel
theorem dX10_command_299 : decode cX10_command 299 = .ok (.aload_n 0, 1) := by decide +kernel
theorem dX10_command_300 : decode cX10_command 300 = .ok (.iload_n 3, 1) := by decide +kernel
theorem dX10_command_301 : decode cX10_command 301 = .ok (.invokevirtual 61, 3) := by decide +kernel
theorem dX10_command_304 : decode cX10_command 304 = .ok (.ifCond .eq 20, 3) := by decide +kernel
theorem dX10_command_307 : decode cX10_command 307 = .ok (.aload_n 0, 1) := by decide +kernel
theorem dX10_command_308 : decode cX10_command 308 = .ok (.aload_n 0, 1) := by decide +kernel
theorem dX10_command_309 : decode cX10_command 309 = .ok (.getfield 19, 3) := by decide +kernel
theorem dX10_command_312 : decode cX10_command 312 = .ok (.iload_n 2, 1) := by decide +kernel
theorem dX10_command_313 : decode cX10_command 313 = .ok (.invokevirtual 117, 3) := by decide +kernel
theorem dX10_command_316 : decode cX10_command 316 = .ok (.iload_n 3, 1) := by decide +kernel
theorem dX10_command_317 : decode cX10_command 317 = .ok (.if_icmp .ne 7, 3) := by decide +kernel
theorem dX10_command_320 : decode cX10_command 320 = .ok (.iconst 1, 1) := by decide +kernel
theorem dX10_command_321 : decode cX10_command 321 = .ok (.goto 4, 3) := by decide +kernel
theorem dX10_command_324 : decode cX10_command 324 = .ok (.iconst 0, 1) := by decide +kernel
theorem dX10_command_325 : decode cX10_command 325 = .ok (.ireturn, 1) := by decide +kernel
theorem dX10_command_326 : decode cX10_command 326 = .ok (.iconst 0, 1) := by decide +kernel
theorem dX10_command_327 : decode cX10_command 327 = .ok (.ireturn, 1) := by decide +kernel
theorem dX10_tenThousands_0 : decode cX10_tenThousands 0 = .ok (.lconst 1, 1) := by decide +kernel
theorem dX10_tenThousands_1 : decode cX10_tenThousands 1 = .ok (.lstore_n 1, 1) := by decide +kernel
theorem dX10_tenThousands_2 : decode cX10_tenThousands 2 = .ok (.iconst 0, 1) := by decide +kernel
theorem dX10_tenThousands_3 : decode cX10_tenThousands 3 = .ok (.istore_n 3, 1) := by decide +kernel
theorem dX10_tenThousands_4 : decode cX10_tenThousands 4 = .ok (.iload_n 3, 1) := by decide +kernel
theorem dX10_tenThousands_5 : decode cX10_tenThousands 5 = .ok (.iload_n 0, 1) := by decide +kernel
theorem dX10_tenThousands_6 : decode cX10_tenThousands 6 = .ok (.if_icmp .ge 15, 3) := by decide +kernel
theorem dX10_tenThousands_9 : decode cX10_tenThousands 9 = .ok (.lload_n 1, 1) := by decide +kernel
theorem dX10_tenThousands_10 : decode cX10_tenThousands 10 = .ok (.ldc2_w 195, 3) := by decide +kernel
theorem dX10_tenThousands_13 : decode cX10_tenThousands 13 = .ok (.lmul, 1) := by decide +kernel
theorem dX10_tenThousands_14 : decode cX10_tenThousands 14 = .ok (.lstore_n 1, 1) := by decide +kernel
theorem dX10_tenThousands_15 : decode cX10_tenThousands 15 = .ok (.iinc 3 1, 3) := by decide +kernel
theorem dX10_tenThousands_18 : decode cX10_tenThousands 18 = .ok (.goto (-14), 3) := by decide +kernel
theorem dX10_tenThousands_21 : decode cX10_tenThousands 21 = .ok (.lload_n 1, 1) := by decide +kernel
theorem dX10_tenThousands_22 : decode cX10_tenThousands 22 = .ok (.lreturn, 1) := by decide +kernel
theorem dX10_runScript_0 : decode cX10_runScript 0 = .ok (.iload_n 1, 1) := by decide +kernel
theorem dX10_runScript_1 : decode cX10_runScript 1 = .ok (.i2l, 1) := by decide +kernel
theorem dX10_runScript_2 : decode cX10_runScript 2 = .ok (.lconst 1, 1) := by decide +kernel
theorem dX10_runScript_3 : decode cX10_runScript 3 = .ok (.ldc2_w 197, 3) := by decide +kernel
theorem dX10_runScript_6 : decode cX10_runScript 6 = .ok (.invokestatic 57, 3) := by decide +kernel
theorem dX10_runScript_9 : decode cX10_runScript 9 = .ok (.ifCond .eq 17, 3) := by decide +kernel
theorem dX10_runScript_12 : decode cX10_runScript 12 = .ok (.lload_n 2, 1) := by decide +kernel
theorem dX10_runScript_13 : decode cX10_runScript 13 = .ok (.lconst 0, 1) := by decide +kernel
theorem dX10_runScript_14 : decode cX10_runScript 14 = .ok (.iload_n 1, 1) := by decide +kernel
theorem dX10_runScript_15 : decode cX10_runScript 15 = .ok (.invokestatic 199, 3) := by decide +kernel
theorem dX10_runScript_18 : decode cX10_runScript 18 = .ok (.lconst 1, 1) := by decide +kernel
theorem dX10_runScript_19 : decode cX10_runScript 19 = .ok (.lsub, 1) := by decide +kernel
theorem dX10_runScript_20 : decode cX10_runScript 20 = .ok (.invokestatic 57, 3) := by decide +kernel
theorem dX10_runScript_23 : decode cX10_runScript 23 = .ok (.ifCond .ne 6, 3) := by decide +kernel
theorem dX10_runScript_26 : decode cX10_runScript 26 = .ok (.bipush (-2), 2) := by decide +kernel
theorem dX10_runScript_28 : decode cX10_runScript 28 = .ok (.ireturn, 1) := by decide +kernel
theorem dX10_runScript_29 : decode cX10_runScript 29 = .ok (.aload_n 0, 1) := by decide +kernel
theorem dX10_runScript_30 : decode cX10_runScript 30 = .ok (.getfield 16, 3) := by decide +kernel
theorem dX10_runScript_33 : decode cX10_runScript 33 = .ok (.aload_n 0, 1) := by decide +kernel
theorem dX10_runScript_34 : decode cX10_runScript 34 = .ok (.getfield 19, 3) := by decide +kernel
theorem dX10_runScript_37 : decode cX10_runScript 37 = .ok (.invokestatic 100, 3) := by decide +kernel
theorem dX10_runScript_40 : decode cX10_runScript 40 = .ok (.iconst 0, 1) := by decide +kernel
theorem dX10_runScript_41 : decode cX10_runScript 41 = .ok (.istore 4, 2) := by decide +kernel
theorem dX10_runScript_43 : decode cX10_runScript 43 = .ok (.iload 4, 2) := by decide +kernel
theorem dX10_runScript_45 : decode cX10_runScript 45 = .ok (.iload_n 1, 1) := by decide +kernel
theorem dX10_runScript_46 : decode cX10_runScript 46 = .ok (.if_icmp .ge 64, 3) := by decide +kernel
theorem dX10_runScript_49 : decode cX10_runScript 49 = .ok (.lload_n 2, 1) := by decide +kernel
theorem dX10_runScript_50 : decode cX10_runScript 50 = .ok (.iload_n 1, 1) := by decide +kernel
theorem dX10_runScript_51 : decode cX10_runScript 51 = .ok (.iconst 1, 1) := by decide +kernel
theorem dX10_runScript_52 : decode cX10_runScript 52 = .ok (.isub, 1) := by decide +kernel
theorem dX10_runScript_53 : decode cX10_runScript 53 = .ok (.iload 4, 2) := by decide +kernel
theorem dX10_runScript_55 : decode cX10_runScript 55 = .ok (.isub, 1) := by decide +kernel
theorem dX10_runScript_56 : decode cX10_runScript 56 = .ok (.invokestatic 199, 3) := by decide +kernel
theorem dX10_runScript_59 : decode cX10_runScript 59 = .ok (.ldiv, 1) := by decide +kernel
theorem dX10_runScript_60 : decode cX10_runScript 60 = .ok (.ldc2_w 195, 3) := by decide +kernel
theorem dX10_runScript_63 : decode cX10_runScript 63 = .ok (.lrem, 1) := by decide +kernel
theorem dX10_runScript_64 : decode cX10_runScript 64 = .ok (.l2i, 1) := by decide +kernel
theorem dX10_runScript_65 : decode cX10_runScript 65 = .ok (.istore 5, 2) := by decide +kernel
theorem dX10_runScript_67 : decode cX10_runScript 67 = .ok (.aload_n 0, 1) := by decide +kernel
theorem dX10_runScript_68 : decode cX10_runScript 68 = .ok (.iload 5, 2) := by decide +kernel
theorem dX10_runScript_70 : decode cX10_runScript 70 = .ok (.sipush 1000, 3) := by decide +kernel
theorem dX10_runScript_73 : decode cX10_runScript 73 = .ok (.idiv, 1) := by decide +kernel
theorem dX10_runScript_74 : decode cX10_runScript 74 = .ok (.iload 5, 2) := by decide +kernel
theorem dX10_runScript_76 : decode cX10_runScript 76 = .ok (.bipush 100, 2) := by decide +kernel
theorem dX10_runScript_78 : decode cX10_runScript 78 = .ok (.idiv, 1) := by decide +kernel
theorem dX10_runScript_79 : decode cX10_runScript 79 = .ok (.bipush 10, 2) := by decide +kernel
theorem dX10_runScript_81 : decode cX10_runScript 81 = .ok (.irem, 1) := by decide +kernel
theorem dX10_runScript_82 : decode cX10_runScript 82 = .ok (.iload 5, 2) := by decide +kernel
theorem dX10_runScript_84 : decode cX10_runScript 84 = .ok (.bipush 10, 2) := by decide +kernel
theorem dX10_runScript_86 : decode cX10_runScript 86 = .ok (.idiv, 1) := by decide +kernel
theorem dX10_runScript_87 : decode cX10_runScript 87 = .ok (.bipush 10, 2) := by decide +kernel
theorem dX10_runScript_89 : decode cX10_runScript 89 = .ok (.irem, 1) := by decide +kernel
theorem dX10_runScript_90 : decode cX10_runScript 90 = .ok (.iload 5, 2) := by decide +kernel
theorem dX10_runScript_92 : decode cX10_runScript 92 = .ok (.bipush 10, 2) := by decide +kernel
theorem dX10_runScript_94 : decode cX10_runScript 94 = .ok (.irem, 1) := by decide +kernel
theorem dX10_runScript_95 : decode cX10_runScript 95 = .ok (.invokevirtual 203, 3) := by decide +kernel
theorem dX10_runScript_98 : decode cX10_runScript 98 = .ok (.ifCond .ne 6, 3) := by decide +kernel
theorem dX10_runScript_101 : decode cX10_runScript 101 = .ok (.iload 4, 2) := by decide +kernel
theorem dX10_runScript_103 : decode cX10_runScript 103 = .ok (.ireturn, 1) := by decide +kernel
theorem dX10_runScript_104 : decode cX10_runScript 104 = .ok (.iinc 4 1, 3) := by decide +kernel
theorem dX10_runScript_107 : decode cX10_runScript 107 = .ok (.goto (-64), 3) := by decide +kernel
theorem dX10_runScript_110 : decode cX10_runScript 110 = .ok (.bipush (-9), 2) := by decide +kernel
theorem dX10_runScript_112 : decode cX10_runScript 112 = .ok (.ireturn, 1) := by decide +kernel
theorem dX10_execute_0 : decode cX10_execute 0 = .ok (.iload_n 3, 1) := by decide +kernel
theorem dX10_execute_1 : decode cX10_execute 1 = .ok (.i2l, 1) := by decide +kernel
theorem dX10_execute_2 : decode cX10_execute 2 = .ok (.lconst 1, 1) := by decide +kernel
theorem dX10_execute_3 : decode cX10_execute 3 = .ok (.ldc2_w 184, 3) := by decide +kernel
theorem dX10_execute_6 : decode cX10_execute 6 = .ok (.invokestatic 57, 3) := by decide +kernel
theorem dX10_execute_9 : decode cX10_execute 9 = .ok (.ifCond .ne 6, 3) := by decide +kernel
theorem dX10_execute_12 : decode cX10_execute 12 = .ok (.bipush (-2), 2) := by decide +kernel
theorem dX10_execute_14 : decode cX10_execute 14 = .ok (.ireturn, 1) := by decide +kernel
theorem dX10_execute_15 : decode cX10_execute 15 = .ok (.lload_n 1, 1) := by decide +kernel
theorem dX10_execute_16 : decode cX10_execute 16 = .ok (.lstore 4, 2) := by decide +kernel
theorem dX10_execute_18 : decode cX10_execute 18 = .ok (.iconst 0, 1) := by decide +kernel
theorem dX10_execute_19 : decode cX10_execute 19 = .ok (.istore 6, 2) := by decide +kernel
theorem dX10_execute_21 : decode cX10_execute 21 = .ok (.iconst 0, 1) := by decide +kernel
theorem dX10_execute_22 : decode cX10_execute 22 = .ok (.istore 7, 2) := by decide +kernel
theorem dX10_execute_24 : decode cX10_execute 24 = .ok (.iconst 0, 1) := by decide +kernel
theorem dX10_execute_25 : decode cX10_execute 25 = .ok (.istore 8, 2) := by decide +kernel
theorem dX10_execute_27 : decode cX10_execute 27 = .ok (.iload 8, 2) := by decide +kernel
theorem dX10_execute_29 : decode cX10_execute 29 = .ok (.iload_n 3, 1) := by decide +kernel
theorem dX10_execute_30 : decode cX10_execute 30 = .ok (.if_icmp .ge 151, 3) := by decide +kernel
theorem dX10_execute_33 : decode cX10_execute 33 = .ok (.lload 4, 2) := by decide +kernel
theorem dX10_execute_35 : decode cX10_execute 35 = .ok (.ldc2_w 207, 3) := by decide +kernel
theorem dX10_execute_38 : decode cX10_execute 38 = .ok (.lmul, 1) := by decide +kernel
theorem dX10_execute_39 : decode cX10_execute 39 = .ok (.ldc2_w 209, 3) := by decide +kernel
theorem dX10_execute_42 : decode cX10_execute 42 = .ok (.ladd, 1) := by decide +kernel
theorem dX10_execute_43 : decode cX10_execute 43 = .ok (.lstore 4, 2) := by decide +kernel
theorem dX10_execute_45 : decode cX10_execute 45 = .ok (.lload 4, 2) := by decide +kernel
theorem dX10_execute_47 : decode cX10_execute 47 = .ok (.bipush 33, 2) := by decide +kernel
theorem dX10_execute_49 : decode cX10_execute 49 = .ok (.lushr, 1) := by decide +kernel
theorem dX10_execute_50 : decode cX10_execute 50 = .ok (.l2i, 1) := by decide +kernel
theorem dX10_execute_51 : decode cX10_execute 51 = .ok (.istore 9, 2) := by decide +kernel
theorem dX10_execute_53 : decode cX10_execute 53 = .ok (.aload_n 0, 1) := by decide +kernel
theorem dX10_execute_54 : decode cX10_execute 54 = .ok (.getfield 16, 3) := by decide +kernel
theorem dX10_execute_57 : decode cX10_execute 57 = .ok (.bipush 10, 2) := by decide +kernel
theorem dX10_execute_59 : decode cX10_execute 59 = .ok (.iload 6, 2) := by decide +kernel
theorem dX10_execute_61 : decode cX10_execute 61 = .ok (.iadd, 1) := by decide +kernel
theorem dX10_execute_62 : decode cX10_execute 62 = .ok (.iaload, 1) := by decide +kernel
theorem dX10_execute_63 : decode cX10_execute 63 = .ok (.istore 10, 2) := by decide +kernel
theorem dX10_execute_65 : decode cX10_execute 65 = .ok (.iload 10, 2) := by decide +kernel
theorem dX10_execute_67 : decode cX10_execute 67 = .ok (.ifCond .ne 9, 3) := by decide +kernel
theorem dX10_execute_70 : decode cX10_execute 70 = .ok (.iconst 0, 1) := by decide +kernel
theorem dX10_execute_71 : decode cX10_execute 71 = .ok (.istore 6, 2) := by decide +kernel
theorem dX10_execute_73 : decode cX10_execute 73 = .ok (.goto 102, 3) := by decide +kernel
theorem dX10_execute_76 : decode cX10_execute 76 = .ok (.aload_n 0, 1) := by decide +kernel
theorem dX10_execute_77 : decode cX10_execute 77 = .ok (.getfield 16, 3) := by decide +kernel
theorem dX10_execute_80 : decode cX10_execute 80 = .ok (.bipush 34, 2) := by decide +kernel
theorem dX10_execute_82 : decode cX10_execute 82 = .ok (.iconst 2, 1) := by decide +kernel
theorem dX10_execute_83 : decode cX10_execute 83 = .ok (.iload 6, 2) := by decide +kernel
theorem dX10_execute_85 : decode cX10_execute 85 = .ok (.imul, 1) := by decide +kernel
theorem dX10_execute_86 : decode cX10_execute 86 = .ok (.iadd, 1) := by decide +kernel
theorem dX10_execute_87 : decode cX10_execute 87 = .ok (.iaload, 1) := by decide +kernel
theorem dX10_execute_88 : decode cX10_execute 88 = .ok (.istore 11, 2) := by decide +kernel
theorem dX10_execute_90 : decode cX10_execute 90 = .ok (.iload 10, 2) := by decide +kernel
theorem dX10_execute_92 : decode cX10_execute 92 = .ok (.iconst 1, 1) := by decide +kernel
theorem dX10_execute_93 : decode cX10_execute 93 = .ok (.if_icmp .ne 7, 3) := by decide +kernel
theorem dX10_execute_96 : decode cX10_execute 96 = .ok (.iconst 0, 1) := by decide +kernel
theorem dX10_execute_97 : decode cX10_execute 97 = .ok (.goto 20, 3) := by decide +kernel
theorem dX10_execute_100 : decode cX10_execute 100 = .ok (.iload 11, 2) := by decide +kernel
theorem dX10_execute_102 : decode cX10_execute 102 = .ok (.aload_n 0, 1) := by decide +kernel
theorem dX10_execute_103 : decode cX10_execute 103 = .ok (.getfield 16, 3) := by decide +kernel
theorem dX10_execute_106 : decode cX10_execute 106 = .ok (.bipush 34, 2) := by decide +kernel
theorem dX10_execute_108 : decode cX10_execute 108 = .ok (.iconst 2, 1) := by decide +kernel
theorem dX10_execute_109 : decode cX10_execute 109 = .ok (.iload 6, 2) := by decide +kernel
theorem dX10_execute_111 : decode cX10_execute 111 = .ok (.imul, 1) := by decide +kernel
theorem dX10_execute_112 : decode cX10_execute 112 = .ok (.iadd, 1) := by decide +kernel
theorem dX10_execute_113 : decode cX10_execute 113 = .ok (.iconst 1, 1) := by decide +kernel
theorem dX10_execute_114 : decode cX10_execute 114 = .ok (.iadd, 1) := by decide +kernel
theorem dX10_execute_115 : decode cX10_execute 115 = .ok (.iaload, 1) := by decide +kernel
theorem dX10_execute_116 : decode cX10_execute 116 = .ok (.iadd, 1) := by decide +kernel
theorem dX10_execute_117 : decode cX10_execute 117 = .ok (.istore 12, 2) := by decide +kernel
theorem dX10_execute_119 : decode cX10_execute 119 = .ok (.iload 12, 2) := by decide +kernel
theorem dX10_execute_121 : decode cX10_execute 121 = .ok (.ifCond .eq 13, 3) := by decide +kernel
theorem dX10_execute_124 : decode cX10_execute 124 = .ok (.iload 9, 2) := by decide +kernel
theorem dX10_execute_126 : decode cX10_execute 126 = .ok (.iload 12, 2) := by decide +kernel
theorem dX10_execute_128 : decode cX10_execute 128 = .ok (.irem, 1) := by decide +kernel
theorem dX10_execute_129 : decode cX10_execute 129 = .ok (.iload 11, 2) := by decide +kernel
theorem dX10_execute_131 : decode cX10_execute 131 = .ok (.if_icmp .ge 7, 3) := by decide +kernel
theorem dX10_execute_134 : decode cX10_execute 134 = .ok (.iconst 0, 1) := by decide +kernel
theorem dX10_execute_135 : decode cX10_execute 135 = .ok (.goto 4, 3) := by decide +kernel
theorem dX10_execute_138 : decode cX10_execute 138 = .ok (.iconst 1, 1) := by decide +kernel
theorem dX10_execute_139 : decode cX10_execute 139 = .ok (.istore 13, 2) := by decide +kernel
theorem dX10_execute_141 : decode cX10_execute 141 = .ok (.iload 7, 2) := by decide +kernel
theorem dX10_execute_143 : decode cX10_execute 143 = .ok (.aload_n 0, 1) := by decide +kernel
theorem dX10_execute_144 : decode cX10_execute 144 = .ok (.aload_n 0, 1) := by decide +kernel
theorem dX10_execute_145 : decode cX10_execute 145 = .ok (.getfield 16, 3) := by decide +kernel
theorem dX10_execute_148 : decode cX10_execute 148 = .ok (.iload 6, 2) := by decide +kernel
theorem dX10_execute_150 : decode cX10_execute 150 = .ok (.iload 13, 2) := by decide +kernel
theorem dX10_execute_152 : decode cX10_execute 152 = .ok (.invokevirtual 120, 3) := by decide +kernel
theorem dX10_execute_155 : decode cX10_execute 155 = .ok (.iadd, 1) := by decide +kernel
theorem dX10_execute_156 : decode cX10_execute 156 = .ok (.istore 7, 2) := by decide +kernel
theorem dX10_execute_158 : decode cX10_execute 158 = .ok (.aload_n 0, 1) := by decide +kernel
theorem dX10_execute_159 : decode cX10_execute 159 = .ok (.getfield 16, 3) := by decide +kernel
theorem dX10_execute_162 : decode cX10_execute 162 = .ok (.bipush 18, 2) := by decide +kernel
theorem dX10_execute_164 : decode cX10_execute 164 = .ok (.iconst 2, 1) := by decide +kernel
theorem dX10_execute_165 : decode cX10_execute 165 = .ok (.iload 6, 2) := by decide +kernel
theorem dX10_execute_167 : decode cX10_execute 167 = .ok (.imul, 1) := by decide +kernel
theorem dX10_execute_168 : decode cX10_execute 168 = .ok (.iadd, 1) := by decide +kernel
theorem dX10_execute_169 : decode cX10_execute 169 = .ok (.iload 13, 2) := by decide +kernel
theorem dX10_execute_171 : decode cX10_execute 171 = .ok (.iadd, 1) := by decide +kernel
theorem dX10_execute_172 : decode cX10_execute 172 = .ok (.iaload, 1) := by decide +kernel
theorem dX10_execute_173 : decode cX10_execute 173 = .ok (.istore 6, 2) := by decide +kernel
theorem dX10_execute_175 : decode cX10_execute 175 = .ok (.iinc 8 1, 3) := by decide +kernel
theorem dX10_execute_178 : decode cX10_execute 178 = .ok (.goto (-151), 3) := by decide +kernel
theorem dX10_execute_181 : decode cX10_execute 181 = .ok (.iload 7, 2) := by decide +kernel
theorem dX10_execute_183 : decode cX10_execute 183 = .ok (.ireturn, 1) := by decide +kernel
theorem dX10_save_0 : decode cX10_save 0 = .ok (.iload_n 1, 1) := by decide +kernel
theorem dX10_save_1 : decode cX10_save 1 = .ok (.i2l, 1) := by decide +kernel
theorem dX10_save_2 : decode cX10_save 2 = .ok (.lconst 0, 1) := by decide +kernel
theorem dX10_save_3 : decode cX10_save 3 = .ok (.lconst 1, 1) := by decide +kernel
theorem dX10_save_4 : decode cX10_save 4 = .ok (.invokestatic 57, 3) := by decide +kernel
theorem dX10_save_7 : decode cX10_save 7 = .ok (.ifCond .ne 5, 3) := by decide +kernel
theorem dX10_save_10 : decode cX10_save 10 = .ok (.iconst (-1), 1) := by decide +kernel
theorem dX10_save_11 : decode cX10_save 11 = .ok (.ireturn, 1) := by decide +kernel
theorem dX10_save_12 : decode cX10_save 12 = .ok (.aload_n 0, 1) := by decide +kernel
theorem dX10_save_13 : decode cX10_save 13 = .ok (.getfield 31, 3) := by decide +kernel
theorem dX10_save_16 : decode cX10_save 16 = .ok (.iload_n 1, 1) := by decide +kernel
theorem dX10_save_17 : decode cX10_save 17 = .ok (.iconst 1, 1) := by decide +kernel
theorem dX10_save_18 : decode cX10_save 18 = .ok (.bastore, 1) := by decide +kernel
theorem dX10_save_19 : decode cX10_save 19 = .ok (.iconst 0, 1) := by decide +kernel
theorem dX10_save_20 : decode cX10_save 20 = .ok (.istore_n 2, 1) := by decide +kernel
theorem dX10_save_21 : decode cX10_save 21 = .ok (.iload_n 2, 1) := by decide +kernel
theorem dX10_save_22 : decode cX10_save 22 = .ok (.bipush 50, 2) := by decide +kernel
theorem dX10_save_24 : decode cX10_save 24 = .ok (.if_icmp .ge 26, 3) := by decide +kernel
theorem dX10_save_27 : decode cX10_save 27 = .ok (.aload_n 0, 1) := by decide +kernel
theorem dX10_save_28 : decode cX10_save 28 = .ok (.getfield 28, 3) := by decide +kernel
theorem dX10_save_31 : decode cX10_save 31 = .ok (.bipush 50, 2) := by decide +kernel
theorem dX10_save_33 : decode cX10_save 33 = .ok (.iload_n 1, 1) := by decide +kernel
theorem dX10_save_34 : decode cX10_save 34 = .ok (.imul, 1) := by decide +kernel
theorem dX10_save_35 : decode cX10_save 35 = .ok (.iload_n 2, 1) := by decide +kernel
theorem dX10_save_36 : decode cX10_save 36 = .ok (.iadd, 1) := by decide +kernel
theorem dX10_save_37 : decode cX10_save 37 = .ok (.aload_n 0, 1) := by decide +kernel
theorem dX10_save_38 : decode cX10_save 38 = .ok (.getfield 16, 3) := by decide +kernel
theorem dX10_save_41 : decode cX10_save 41 = .ok (.iload_n 2, 1) := by decide +kernel
theorem dX10_save_42 : decode cX10_save 42 = .ok (.iaload, 1) := by decide +kernel
theorem dX10_save_43 : decode cX10_save 43 = .ok (.iastore, 1) := by decide +kernel
theorem dX10_save_44 : decode cX10_save 44 = .ok (.iinc 2 1, 3) := by decide +kernel
theorem dX10_save_47 : decode cX10_save 47 = .ok (.goto (-26), 3) := by decide +kernel
theorem dX10_save_50 : decode cX10_save 50 = .ok (.aload_n 0, 1) := by decide +kernel
theorem dX10_save_51 : decode cX10_save 51 = .ok (.getfield 16, 3) := by decide +kernel
theorem dX10_save_54 : decode cX10_save 54 = .ok (.iconst 0, 1) := by decide +kernel
theorem dX10_save_55 : decode cX10_save 55 = .ok (.iaload, 1) := by decide +kernel
theorem dX10_save_56 : decode cX10_save 56 = .ok (.ireturn, 1) := by decide +kernel
theorem dX10_restore_0 : decode cX10_restore 0 = .ok (.iload_n 1, 1) := by decide +kernel
theorem dX10_restore_1 : decode cX10_restore 1 = .ok (.i2l, 1) := by decide +kernel
theorem dX10_restore_2 : decode cX10_restore 2 = .ok (.lconst 0, 1) := by decide +kernel
theorem dX10_restore_3 : decode cX10_restore 3 = .ok (.lconst 1, 1) := by decide +kernel
theorem dX10_restore_4 : decode cX10_restore 4 = .ok (.invokestatic 57, 3) := by decide +kernel
theorem dX10_restore_7 : decode cX10_restore 7 = .ok (.ifCond .ne 5, 3) := by decide +kernel
theorem dX10_restore_10 : decode cX10_restore 10 = .ok (.iconst (-1), 1) := by decide +kernel
theorem dX10_restore_11 : decode cX10_restore 11 = .ok (.ireturn, 1) := by decide +kernel
theorem dX10_restore_12 : decode cX10_restore 12 = .ok (.aload_n 0, 1) := by decide +kernel
theorem dX10_restore_13 : decode cX10_restore 13 = .ok (.getfield 31, 3) := by decide +kernel
theorem dX10_restore_16 : decode cX10_restore 16 = .ok (.iload_n 1, 1) := by decide +kernel
theorem dX10_restore_17 : decode cX10_restore 17 = .ok (.baload, 1) := by decide +kernel
theorem dX10_restore_18 : decode cX10_restore 18 = .ok (.ifCond .ne 6, 3) := by decide +kernel
theorem dX10_restore_21 : decode cX10_restore 21 = .ok (.bipush (-3), 2) := by decide +kernel
theorem dX10_restore_23 : decode cX10_restore 23 = .ok (.ireturn, 1) := by decide +kernel
theorem dX10_restore_24 : decode cX10_restore 24 = .ok (.iconst 0, 1) := by decide +kernel
theorem dX10_restore_25 : decode cX10_restore 25 = .ok (.istore_n 2, 1) := by decide +kernel
theorem dX10_restore_26 : decode cX10_restore 26 = .ok (.iload_n 2, 1) := by decide +kernel
theorem dX10_restore_27 : decode cX10_restore 27 = .ok (.bipush 50, 2) := by decide +kernel
theorem dX10_restore_29 : decode cX10_restore 29 = .ok (.if_icmp .ge 26, 3) := by decide +kernel
theorem dX10_restore_32 : decode cX10_restore 32 = .ok (.aload_n 0, 1) := by decide +kernel
theorem dX10_restore_33 : decode cX10_restore 33 = .ok (.getfield 16, 3) := by decide +kernel
theorem dX10_restore_36 : decode cX10_restore 36 = .ok (.iload_n 2, 1) := by decide +kernel
theorem dX10_restore_37 : decode cX10_restore 37 = .ok (.aload_n 0, 1) := by decide +kernel
theorem dX10_restore_38 : decode cX10_restore 38 = .ok (.getfield 28, 3) := by decide +kernel
theorem dX10_restore_41 : decode cX10_restore 41 = .ok (.bipush 50, 2) := by decide +kernel
theorem dX10_restore_43 : decode cX10_restore 43 = .ok (.iload_n 1, 1) := by decide +kernel
theorem dX10_restore_44 : decode cX10_restore 44 = .ok (.imul, 1) := by decide +kernel
theorem dX10_restore_45 : decode cX10_restore 45 = .ok (.iload_n 2, 1) := by decide +kernel
theorem dX10_restore_46 : decode cX10_restore 46 = .ok (.iadd, 1) := by decide +kernel
theorem dX10_restore_47 : decode cX10_restore 47 = .ok (.iaload, 1) := by decide +kernel
theorem dX10_restore_48 : decode cX10_restore 48 = .ok (.iastore, 1) := by decide +kernel
theorem dX10_restore_49 : decode cX10_restore 49 = .ok (.iinc 2 1, 3) := by decide +kernel
theorem dX10_restore_52 : decode cX10_restore 52 = .ok (.goto (-26), 3) := by decide +kernel
theorem dX10_restore_55 : decode cX10_restore 55 = .ok (.aload_n 0, 1) := by decide +kernel
theorem dX10_restore_56 : decode cX10_restore 56 = .ok (.iconst 0, 1) := by decide +kernel
theorem dX10_restore_57 : decode cX10_restore 57 = .ok (.putfield 104, 3) := by decide +kernel
theorem dX10_restore_60 : decode cX10_restore 60 = .ok (.aload_n 0, 1) := by decide +kernel
theorem dX10_restore_61 : decode cX10_restore 61 = .ok (.getfield 16, 3) := by decide +kernel
theorem dX10_restore_64 : decode cX10_restore 64 = .ok (.iconst 0, 1) := by decide +kernel
theorem dX10_restore_65 : decode cX10_restore 65 = .ok (.iaload, 1) := by decide +kernel
theorem dX10_restore_66 : decode cX10_restore 66 = .ok (.ireturn, 1) := by decide +kernel
end
section
theorem dL_law_0 : decode cL_law 0 = .ok (.new 7, 3) := by decide +kernel
theorem dL_law_3 : decode cL_law 3 = .ok (.dup, 1) := by decide +kernel
theorem dL_law_4 : decode cL_law 4 = .ok (.invokespecial 9, 3) := by decide +kernel
theorem dL_law_7 : decode cL_law 7 = .ok (.astore_n 1, 1) := by decide +kernel
theorem dL_law_8 : decode cL_law 8 = .ok (.new 10, 3) := by decide +kernel
theorem dL_law_11 : decode cL_law 11 = .ok (.dup, 1) := by decide +kernel
theorem dL_law_12 : decode cL_law 12 = .ok (.invokespecial 12, 3) := by decide +kernel
theorem dL_law_15 : decode cL_law 15 = .ok (.astore_n 2, 1) := by decide +kernel
theorem dL_law_16 : decode cL_law 16 = .ok (.iconst 0, 1) := by decide +kernel
theorem dL_law_17 : decode cL_law 17 = .ok (.istore_n 3, 1) := by decide +kernel
theorem dL_law_18 : decode cL_law 18 = .ok (.iload_n 3, 1) := by decide +kernel
theorem dL_law_19 : decode cL_law 19 = .ok (.aload_n 0, 1) := by decide +kernel
theorem dL_law_20 : decode cL_law 20 = .ok (.arraylength, 1) := by decide +kernel
theorem dL_law_21 : decode cL_law 21 = .ok (.iconst 4, 1) := by decide +kernel
theorem dL_law_22 : decode cL_law 22 = .ok (.isub, 1) := by decide +kernel
theorem dL_law_23 : decode cL_law 23 = .ok (.if_icmp .gt 945, 3) := by decide +kernel
theorem dL_law_26 : decode cL_law 26 = .ok (.aload_n 0, 1) := by decide +kernel
theorem dL_law_27 : decode cL_law 27 = .ok (.iload_n 3, 1) := by decide +kernel
theorem dL_law_28 : decode cL_law 28 = .ok (.iaload, 1) := by decide +kernel
theorem dL_law_29 : decode cL_law 29 = .ok (.bipush 31, 2) := by decide +kernel
theorem dL_law_31 : decode cL_law 31 = .ok (.iand, 1) := by decide +kernel
theorem dL_law_32 : decode cL_law 32 = .ok (.tableswitch 930 0 31 #[144, 167, 180, 193, 206, 219, 242, 275, 308, 331, 354, 367, 380, 393, 416, 439, 472, 495, 508, 541, 554, 567, 600, 633, 656, 679, 722, 745, 758, 821, 884, 907], 144) := by decide +kernel
theorem dL_law_176 : decode cL_law 176 = .ok (.aload_n 1, 1) := by decide +kernel
theorem dL_law_177 : decode cL_law 177 = .ok (.aload_n 0, 1) := by decide +kernel
theorem dL_law_178 : decode cL_law 178 = .ok (.iload_n 3, 1) := by decide +kernel
theorem dL_law_179 : decode cL_law 179 = .ok (.iconst 1, 1) := by decide +kernel
theorem dL_law_180 : decode cL_law 180 = .ok (.iadd, 1) := by decide +kernel
theorem dL_law_181 : decode cL_law 181 = .ok (.iaload, 1) := by decide +kernel
theorem dL_law_182 : decode cL_law 182 = .ok (.invokevirtual 13, 3) := by decide +kernel
theorem dL_law_185 : decode cL_law 185 = .ok (.aload_n 2, 1) := by decide +kernel
theorem dL_law_186 : decode cL_law 186 = .ok (.aload_n 0, 1) := by decide +kernel
theorem dL_law_187 : decode cL_law 187 = .ok (.iload_n 3, 1) := by decide +kernel
theorem dL_law_188 : decode cL_law 188 = .ok (.iconst 1, 1) := by decide +kernel
theorem dL_law_189 : decode cL_law 189 = .ok (.iadd, 1) := by decide +kernel
theorem dL_law_190 : decode cL_law 190 = .ok (.iaload, 1) := by decide +kernel
theorem dL_law_191 : decode cL_law 191 = .ok (.invokevirtual 17, 3) := by decide +kernel
theorem dL_law_194 : decode cL_law 194 = .ok (.if_icmp .eq 768, 3) := by decide +kernel
theorem dL_law_197 : decode cL_law 197 = .ok (.iconst 0, 1) := by decide +kernel
theorem dL_law_198 : decode cL_law 198 = .ok (.ireturn, 1) := by decide +kernel
theorem dL_law_199 : decode cL_law 199 = .ok (.aload_n 1, 1) := by decide +kernel
theorem dL_law_200 : decode cL_law 200 = .ok (.invokevirtual 18, 3) := by decide +kernel
theorem dL_law_203 : decode cL_law 203 = .ok (.aload_n 2, 1) := by decide +kernel
theorem dL_law_204 : decode cL_law 204 = .ok (.invokevirtual 22, 3) := by decide +kernel
theorem dL_law_207 : decode cL_law 207 = .ok (.if_icmp .eq 755, 3) := by decide +kernel
theorem dL_law_210 : decode cL_law 210 = .ok (.iconst 0, 1) := by decide +kernel
theorem dL_law_211 : decode cL_law 211 = .ok (.ireturn, 1) := by decide +kernel
theorem dL_law_212 : decode cL_law 212 = .ok (.aload_n 1, 1) := by decide +kernel
theorem dL_law_213 : decode cL_law 213 = .ok (.invokevirtual 23, 3) := by decide +kernel
theorem dL_law_216 : decode cL_law 216 = .ok (.aload_n 2, 1) := by decide +kernel
theorem dL_law_217 : decode cL_law 217 = .ok (.invokevirtual 26, 3) := by decide +kernel
theorem dL_law_220 : decode cL_law 220 = .ok (.if_icmp .eq 742, 3) := by decide +kernel
theorem dL_law_223 : decode cL_law 223 = .ok (.iconst 0, 1) := by decide +kernel
theorem dL_law_224 : decode cL_law 224 = .ok (.ireturn, 1) := by decide +kernel
theorem dL_law_225 : decode cL_law 225 = .ok (.aload_n 1, 1) := by decide +kernel
theorem dL_law_226 : decode cL_law 226 = .ok (.invokevirtual 27, 3) := by decide +kernel
theorem dL_law_229 : decode cL_law 229 = .ok (.aload_n 2, 1) := by decide +kernel
theorem dL_law_230 : decode cL_law 230 = .ok (.invokevirtual 30, 3) := by decide +kernel
theorem dL_law_233 : decode cL_law 233 = .ok (.if_icmp .eq 729, 3) := by decide +kernel
theorem dL_law_236 : decode cL_law 236 = .ok (.iconst 0, 1) := by decide +kernel
theorem dL_law_237 : decode cL_law 237 = .ok (.ireturn, 1) := by decide +kernel
theorem dL_law_238 : decode cL_law 238 = .ok (.aload_n 1, 1) := by decide +kernel
theorem dL_law_239 : decode cL_law 239 = .ok (.invokevirtual 31, 3) := by decide +kernel
theorem dL_law_242 : decode cL_law 242 = .ok (.aload_n 2, 1) := by decide +kernel
theorem dL_law_243 : decode cL_law 243 = .ok (.invokevirtual 34, 3) := by decide +kernel
theorem dL_law_246 : decode cL_law 246 = .ok (.if_icmp .eq 716, 3) := by decide +kernel
theorem dL_law_249 : decode cL_law 249 = .ok (.iconst 0, 1) := by decide +kernel
theorem dL_law_250 : decode cL_law 250 = .ok (.ireturn, 1) := by decide +kernel
theorem dL_law_251 : decode cL_law 251 = .ok (.aload_n 1, 1) := by decide +kernel
theorem dL_law_252 : decode cL_law 252 = .ok (.aload_n 0, 1) := by decide +kernel
theorem dL_law_253 : decode cL_law 253 = .ok (.iload_n 3, 1) := by decide +kernel
theorem dL_law_254 : decode cL_law 254 = .ok (.iconst 1, 1) := by decide +kernel
theorem dL_law_255 : decode cL_law 255 = .ok (.iadd, 1) := by decide +kernel
theorem dL_law_256 : decode cL_law 256 = .ok (.iaload, 1) := by decide +kernel
theorem dL_law_257 : decode cL_law 257 = .ok (.invokevirtual 35, 3) := by decide +kernel
theorem dL_law_260 : decode cL_law 260 = .ok (.aload_n 2, 1) := by decide +kernel
theorem dL_law_261 : decode cL_law 261 = .ok (.aload_n 0, 1) := by decide +kernel
theorem dL_law_262 : decode cL_law 262 = .ok (.iload_n 3, 1) := by decide +kernel
theorem dL_law_263 : decode cL_law 263 = .ok (.iconst 1, 1) := by decide +kernel
theorem dL_law_264 : decode cL_law 264 = .ok (.iadd, 1) := by decide +kernel
theorem dL_law_265 : decode cL_law 265 = .ok (.iaload, 1) := by decide +kernel
theorem dL_law_266 : decode cL_law 266 = .ok (.invokevirtual 38, 3) := by decide +kernel
theorem dL_law_269 : decode cL_law 269 = .ok (.if_icmp .eq 693, 3) := by decide +kernel
theorem dL_law_272 : decode cL_law 272 = .ok (.iconst 0, 1) := by decide +kernel
theorem dL_law_273 : decode cL_law 273 = .ok (.ireturn, 1) := by decide +kernel
theorem dL_law_274 : decode cL_law 274 = .ok (.aload_n 1, 1) := by decide +kernel
theorem dL_law_275 : decode cL_law 275 = .ok (.aload_n 0, 1) := by decide +kernel
theorem dL_law_276 : decode cL_law 276 = .ok (.iload_n 3, 1) := by decide +kernel
theorem dL_law_277 : decode cL_law 277 = .ok (.iconst 1, 1) := by decide +kernel
theorem dL_law_278 : decode cL_law 278 = .ok (.iadd, 1) := by decide +kernel
theorem dL_law_279 : decode cL_law 279 = .ok (.iaload, 1) := by decide +kernel
theorem dL_law_280 : decode cL_law 280 = .ok (.aload_n 0, 1) := by decide +kernel
theorem dL_law_281 : decode cL_law 281 = .ok (.iload_n 3, 1) := by decide +kernel
theorem dL_law_282 : decode cL_law 282 = .ok (.iconst 2, 1) := by decide +kernel
theorem dL_law_283 : decode cL_law 283 = .ok (.iadd, 1) := by decide +kernel
theorem dL_law_284 : decode cL_law 284 = .ok (.iaload, 1) := by decide +kernel
theorem dL_law_285 : decode cL_law 285 = .ok (.invokevirtual 39, 3) := by decide +kernel
theorem dL_law_288 : decode cL_law 288 = .ok (.aload_n 2, 1) := by decide +kernel
theorem dL_law_289 : decode cL_law 289 = .ok (.aload_n 0, 1) := by decide +kernel
theorem dL_law_290 : decode cL_law 290 = .ok (.iload_n 3, 1) := by decide +kernel
theorem dL_law_291 : decode cL_law 291 = .ok (.iconst 1, 1) := by decide +kernel
theorem dL_law_292 : decode cL_law 292 = .ok (.iadd, 1) := by decide +kernel
theorem dL_law_293 : decode cL_law 293 = .ok (.iaload, 1) := by decide +kernel
theorem dL_law_294 : decode cL_law 294 = .ok (.aload_n 0, 1) := by decide +kernel
theorem dL_law_295 : decode cL_law 295 = .ok (.iload_n 3, 1) := by decide +kernel
theorem dL_law_296 : decode cL_law 296 = .ok (.iconst 2, 1) := by decide +kernel
theorem dL_law_297 : decode cL_law 297 = .ok (.iadd, 1) := by decide +kernel
theorem dL_law_298 : decode cL_law 298 = .ok (.iaload, 1) := by decide +kernel
theorem dL_law_299 : decode cL_law 299 = .ok (.invokevirtual 43, 3) := by decide +kernel
theorem dL_law_302 : decode cL_law 302 = .ok (.if_icmp .eq 660, 3) := by decide +kernel
theorem dL_law_305 : decode cL_law 305 = .ok (.iconst 0, 1) := by decide +kernel
theorem dL_law_306 : decode cL_law 306 = .ok (.ireturn, 1) := by decide +kernel
theorem dL_law_307 : decode cL_law 307 = .ok (.aload_n 1, 1) := by decide +kernel
theorem dL_law_308 : decode cL_law 308 = .ok (.aload_n 0, 1) := by decide +kernel
theorem dL_law_309 : decode cL_law 309 = .ok (.iload_n 3, 1) := by decide +kernel
theorem dL_law_310 : decode cL_law 310 = .ok (.iconst 1, 1) := by decide +kernel
theorem dL_law_311 : decode cL_law 311 = .ok (.iadd, 1) := by decide +kernel
theorem dL_law_312 : decode cL_law 312 = .ok (.iaload, 1) := by decide +kernel
theorem dL_law_313 : decode cL_law 313 = .ok (.aload_n 0, 1) := by decide +kernel
theorem dL_law_314 : decode cL_law 314 = .ok (.iload_n 3, 1) := by decide +kernel
theorem dL_law_315 : decode cL_law 315 = .ok (.iconst 2, 1) := by decide +kernel
theorem dL_law_316 : decode cL_law 316 = .ok (.iadd, 1) := by decide +kernel
theorem dL_law_317 : decode cL_law 317 = .ok (.iaload, 1) := by decide +kernel
theorem dL_law_318 : decode cL_law 318 = .ok (.invokevirtual 44, 3) := by decide +kernel
theorem dL_law_321 : decode cL_law 321 = .ok (.aload_n 2, 1) := by decide +kernel
theorem dL_law_322 : decode cL_law 322 = .ok (.aload_n 0, 1) := by decide +kernel
theorem dL_law_323 : decode cL_law 323 = .ok (.iload_n 3, 1) := by decide +kernel
theorem dL_law_324 : decode cL_law 324 = .ok (.iconst 1, 1) := by decide +kernel
theorem dL_law_325 : decode cL_law 325 = .ok (.iadd, 1) := by decide +kernel
theorem dL_law_326 : decode cL_law 326 = .ok (.iaload, 1) := by decide +kernel
theorem dL_law_327 : decode cL_law 327 = .ok (.aload_n 0, 1) := by decide +kernel
theorem dL_law_328 : decode cL_law 328 = .ok (.iload_n 3, 1) := by decide +kernel
theorem dL_law_329 : decode cL_law 329 = .ok (.iconst 2, 1) := by decide +kernel
theorem dL_law_330 : decode cL_law 330 = .ok (.iadd, 1) := by decide +kernel
theorem dL_law_331 : decode cL_law 331 = .ok (.iaload, 1) := by decide +kernel
theorem dL_law_332 : decode cL_law 332 = .ok (.invokevirtual 47, 3) := by decide +kernel
theorem dL_law_335 : decode cL_law 335 = .ok (.if_icmp .eq 627, 3) := by decide +kernel
theorem dL_law_338 : decode cL_law 338 = .ok (.iconst 0, 1) := by decide +kernel
theorem dL_law_339 : decode cL_law 339 = .ok (.ireturn, 1) := by decide +kernel
theorem dL_law_340 : decode cL_law 340 = .ok (.aload_n 1, 1) := by decide +kernel
theorem dL_law_341 : decode cL_law 341 = .ok (.aload_n 0, 1) := by decide +kernel
theorem dL_law_342 : decode cL_law 342 = .ok (.iload_n 3, 1) := by decide +kernel
theorem dL_law_343 : decode cL_law 343 = .ok (.iconst 1, 1) := by decide +kernel
theorem dL_law_344 : decode cL_law 344 = .ok (.iadd, 1) := by decide +kernel
theorem dL_law_345 : decode cL_law 345 = .ok (.iaload, 1) := by decide +kernel
theorem dL_law_346 : decode cL_law 346 = .ok (.invokevirtual 48, 3) := by decide +kernel
theorem dL_law_349 : decode cL_law 349 = .ok (.aload_n 2, 1) := by decide +kernel
theorem dL_law_350 : decode cL_law 350 = .ok (.aload_n 0, 1) := by decide +kernel
theorem dL_law_351 : decode cL_law 351 = .ok (.iload_n 3, 1) := by decide +kernel
theorem dL_law_352 : decode cL_law 352 = .ok (.iconst 1, 1) := by decide +kernel
theorem dL_law_353 : decode cL_law 353 = .ok (.iadd, 1) := by decide +kernel
theorem dL_law_354 : decode cL_law 354 = .ok (.iaload, 1) := by decide +kernel
theorem dL_law_355 : decode cL_law 355 = .ok (.invokevirtual 51, 3) := by decide +kernel
theorem dL_law_358 : decode cL_law 358 = .ok (.if_icmp .eq 604, 3) := by decide +kernel
theorem dL_law_361 : decode cL_law 361 = .ok (.iconst 0, 1) := by decide +kernel
theorem dL_law_362 : decode cL_law 362 = .ok (.ireturn, 1) := by decide +kernel
theorem dL_law_363 : decode cL_law 363 = .ok (.aload_n 1, 1) := by decide +kernel
theorem dL_law_364 : decode cL_law 364 = .ok (.aload_n 0, 1) := by decide +kernel
theorem dL_law_365 : decode cL_law 365 = .ok (.iload_n 3, 1) := by decide +kernel
theorem dL_law_366 : decode cL_law 366 = .ok (.iconst 1, 1) := by decide +kernel
theorem dL_law_367 : decode cL_law 367 = .ok (.iadd, 1) := by decide +kernel
theorem dL_law_368 : decode cL_law 368 = .ok (.iaload, 1) := by decide +kernel
theorem dL_law_369 : decode cL_law 369 = .ok (.invokevirtual 52, 3) := by decide +kernel
theorem dL_law_372 : decode cL_law 372 = .ok (.aload_n 2, 1) := by decide +kernel
theorem dL_law_373 : decode cL_law 373 = .ok (.aload_n 0, 1) := by decide +kernel
theorem dL_law_374 : decode cL_law 374 = .ok (.iload_n 3, 1) := by decide +kernel
theorem dL_law_375 : decode cL_law 375 = .ok (.iconst 1, 1) := by decide +kernel
theorem dL_law_376 : decode cL_law 376 = .ok (.iadd, 1) := by decide +kernel
theorem dL_law_377 : decode cL_law 377 = .ok (.iaload, 1) := by decide +kernel
theorem dL_law_378 : decode cL_law 378 = .ok (.invokevirtual 55, 3) := by decide +kernel
theorem dL_law_381 : decode cL_law 381 = .ok (.if_icmp .eq 581, 3) := by decide +kernel
theorem dL_law_384 : decode cL_law 384 = .ok (.iconst 0, 1) := by decide +kernel
theorem dL_law_385 : decode cL_law 385 = .ok (.ireturn, 1) := by decide +kernel
theorem dL_law_386 : decode cL_law 386 = .ok (.aload_n 1, 1) := by decide +kernel
theorem dL_law_387 : decode cL_law 387 = .ok (.invokevirtual 56, 3) := by decide +kernel
theorem dL_law_390 : decode cL_law 390 = .ok (.aload_n 2, 1) := by decide +kernel
theorem dL_law_391 : decode cL_law 391 = .ok (.invokevirtual 59, 3) := by decide +kernel
theorem dL_law_394 : decode cL_law 394 = .ok (.if_icmp .eq 568, 3) := by decide +kernel
theorem dL_law_397 : decode cL_law 397 = .ok (.iconst 0, 1) := by decide +kernel
theorem dL_law_398 : decode cL_law 398 = .ok (.ireturn, 1) := by decide +kernel
theorem dL_law_399 : decode cL_law 399 = .ok (.aload_n 1, 1) := by decide +kernel
theorem dL_law_400 : decode cL_law 400 = .ok (.invokevirtual 60, 3) := by decide +kernel
theorem dL_law_403 : decode cL_law 403 = .ok (.aload_n 2, 1) := by decide +kernel
theorem dL_law_404 : decode cL_law 404 = .ok (.invokevirtual 63, 3) := by decide +kernel
theorem dL_law_407 : decode cL_law 407 = .ok (.if_icmp .eq 555, 3) := by decide +kernel
theorem dL_law_410 : decode cL_law 410 = .ok (.iconst 0, 1) := by decide +kernel
theorem dL_law_411 : decode cL_law 411 = .ok (.ireturn, 1) := by decide +kernel
theorem dL_law_412 : decode cL_law 412 = .ok (.aload_n 1, 1) := by decide +kernel
theorem dL_law_413 : decode cL_law 413 = .ok (.invokevirtual 64, 3) := by decide +kernel
theorem dL_law_416 : decode cL_law 416 = .ok (.aload_n 2, 1) := by decide +kernel
theorem dL_law_417 : decode cL_law 417 = .ok (.invokevirtual 67, 3) := by decide +kernel
theorem dL_law_420 : decode cL_law 420 = .ok (.if_icmp .eq 542, 3) := by decide +kernel
theorem dL_law_423 : decode cL_law 423 = .ok (.iconst 0, 1) := by decide +kernel
theorem dL_law_424 : decode cL_law 424 = .ok (.ireturn, 1) := by decide +kernel
theorem dL_law_425 : decode cL_law 425 = .ok (.aload_n 1, 1) := by decide +kernel
theorem dL_law_426 : decode cL_law 426 = .ok (.aload_n 0, 1) := by decide +kernel
theorem dL_law_427 : decode cL_law 427 = .ok (.iload_n 3, 1) := by decide +kernel
theorem dL_law_428 : decode cL_law 428 = .ok (.iconst 1, 1) := by decide +kernel
theorem dL_law_429 : decode cL_law 429 = .ok (.iadd, 1) := by decide +kernel
theorem dL_law_430 : decode cL_law 430 = .ok (.iaload, 1) := by decide +kernel
theorem dL_law_431 : decode cL_law 431 = .ok (.invokevirtual 68, 3) := by decide +kernel
theorem dL_law_434 : decode cL_law 434 = .ok (.aload_n 2, 1) := by decide +kernel
theorem dL_law_435 : decode cL_law 435 = .ok (.aload_n 0, 1) := by decide +kernel
theorem dL_law_436 : decode cL_law 436 = .ok (.iload_n 3, 1) := by decide +kernel
theorem dL_law_437 : decode cL_law 437 = .ok (.iconst 1, 1) := by decide +kernel
theorem dL_law_438 : decode cL_law 438 = .ok (.iadd, 1) := by decide +kernel
theorem dL_law_439 : decode cL_law 439 = .ok (.iaload, 1) := by decide +kernel
theorem dL_law_440 : decode cL_law 440 = .ok (.invokevirtual 71, 3) := by decide +kernel
theorem dL_law_443 : decode cL_law 443 = .ok (.if_icmp .eq 519, 3) := by decide +kernel
theorem dL_law_446 : decode cL_law 446 = .ok (.iconst 0, 1) := by decide +kernel
theorem dL_law_447 : decode cL_law 447 = .ok (.ireturn, 1) := by decide +kernel
theorem dL_law_448 : decode cL_law 448 = .ok (.aload_n 1, 1) := by decide +kernel
theorem dL_law_449 : decode cL_law 449 = .ok (.aload_n 0, 1) := by decide +kernel
theorem dL_law_450 : decode cL_law 450 = .ok (.iload_n 3, 1) := by decide +kernel
theorem dL_law_451 : decode cL_law 451 = .ok (.iconst 1, 1) := by decide +kernel
theorem dL_law_452 : decode cL_law 452 = .ok (.iadd, 1) := by decide +kernel
theorem dL_law_453 : decode cL_law 453 = .ok (.iaload, 1) := by decide +kernel
theorem dL_law_454 : decode cL_law 454 = .ok (.invokevirtual 72, 3) := by decide +kernel
theorem dL_law_457 : decode cL_law 457 = .ok (.aload_n 2, 1) := by decide +kernel
theorem dL_law_458 : decode cL_law 458 = .ok (.aload_n 0, 1) := by decide +kernel
theorem dL_law_459 : decode cL_law 459 = .ok (.iload_n 3, 1) := by decide +kernel
theorem dL_law_460 : decode cL_law 460 = .ok (.iconst 1, 1) := by decide +kernel
theorem dL_law_461 : decode cL_law 461 = .ok (.iadd, 1) := by decide +kernel
theorem dL_law_462 : decode cL_law 462 = .ok (.iaload, 1) := by decide +kernel
theorem dL_law_463 : decode cL_law 463 = .ok (.invokevirtual 75, 3) := by decide +kernel
theorem dL_law_466 : decode cL_law 466 = .ok (.if_icmp .eq 496, 3) := by decide +kernel
theorem dL_law_469 : decode cL_law 469 = .ok (.iconst 0, 1) := by decide +kernel
theorem dL_law_470 : decode cL_law 470 = .ok (.ireturn, 1) := by decide +kernel
theorem dL_law_471 : decode cL_law 471 = .ok (.aload_n 1, 1) := by decide +kernel
theorem dL_law_472 : decode cL_law 472 = .ok (.aload_n 0, 1) := by decide +kernel
theorem dL_law_473 : decode cL_law 473 = .ok (.iload_n 3, 1) := by decide +kernel
theorem dL_law_474 : decode cL_law 474 = .ok (.iconst 1, 1) := by decide +kernel
theorem dL_law_475 : decode cL_law 475 = .ok (.iadd, 1) := by decide +kernel
theorem dL_law_476 : decode cL_law 476 = .ok (.iaload, 1) := by decide +kernel
theorem dL_law_477 : decode cL_law 477 = .ok (.aload_n 0, 1) := by decide +kernel
theorem dL_law_478 : decode cL_law 478 = .ok (.iload_n 3, 1) := by decide +kernel
theorem dL_law_479 : decode cL_law 479 = .ok (.iconst 2, 1) := by decide +kernel
theorem dL_law_480 : decode cL_law 480 = .ok (.iadd, 1) := by decide +kernel
theorem dL_law_481 : decode cL_law 481 = .ok (.iaload, 1) := by decide +kernel
theorem dL_law_482 : decode cL_law 482 = .ok (.invokevirtual 76, 3) := by decide +kernel
theorem dL_law_485 : decode cL_law 485 = .ok (.aload_n 2, 1) := by decide +kernel
theorem dL_law_486 : decode cL_law 486 = .ok (.aload_n 0, 1) := by decide +kernel
theorem dL_law_487 : decode cL_law 487 = .ok (.iload_n 3, 1) := by decide +kernel
theorem dL_law_488 : decode cL_law 488 = .ok (.iconst 1, 1) := by decide +kernel
theorem dL_law_489 : decode cL_law 489 = .ok (.iadd, 1) := by decide +kernel
theorem dL_law_490 : decode cL_law 490 = .ok (.iaload, 1) := by decide +kernel
theorem dL_law_491 : decode cL_law 491 = .ok (.aload_n 0, 1) := by decide +kernel
theorem dL_law_492 : decode cL_law 492 = .ok (.iload_n 3, 1) := by decide +kernel
theorem dL_law_493 : decode cL_law 493 = .ok (.iconst 2, 1) := by decide +kernel
theorem dL_law_494 : decode cL_law 494 = .ok (.iadd, 1) := by decide +kernel
theorem dL_law_495 : decode cL_law 495 = .ok (.iaload, 1) := by decide +kernel
theorem dL_law_496 : decode cL_law 496 = .ok (.invokevirtual 79, 3) := by decide +kernel
theorem dL_law_499 : decode cL_law 499 = .ok (.if_icmp .eq 463, 3) := by decide +kernel
theorem dL_law_502 : decode cL_law 502 = .ok (.iconst 0, 1) := by decide +kernel
theorem dL_law_503 : decode cL_law 503 = .ok (.ireturn, 1) := by decide +kernel
theorem dL_law_504 : decode cL_law 504 = .ok (.aload_n 1, 1) := by decide +kernel
theorem dL_law_505 : decode cL_law 505 = .ok (.aload_n 0, 1) := by decide +kernel
theorem dL_law_506 : decode cL_law 506 = .ok (.iload_n 3, 1) := by decide +kernel
theorem dL_law_507 : decode cL_law 507 = .ok (.iconst 1, 1) := by decide +kernel
theorem dL_law_508 : decode cL_law 508 = .ok (.iadd, 1) := by decide +kernel
theorem dL_law_509 : decode cL_law 509 = .ok (.iaload, 1) := by decide +kernel
theorem dL_law_510 : decode cL_law 510 = .ok (.invokevirtual 80, 3) := by decide +kernel
theorem dL_law_513 : decode cL_law 513 = .ok (.aload_n 2, 1) := by decide +kernel
theorem dL_law_514 : decode cL_law 514 = .ok (.aload_n 0, 1) := by decide +kernel
theorem dL_law_515 : decode cL_law 515 = .ok (.iload_n 3, 1) := by decide +kernel
theorem dL_law_516 : decode cL_law 516 = .ok (.iconst 1, 1) := by decide +kernel
theorem dL_law_517 : decode cL_law 517 = .ok (.iadd, 1) := by decide +kernel
theorem dL_law_518 : decode cL_law 518 = .ok (.iaload, 1) := by decide +kernel
theorem dL_law_519 : decode cL_law 519 = .ok (.invokevirtual 83, 3) := by decide +kernel
theorem dL_law_522 : decode cL_law 522 = .ok (.if_icmp .eq 440, 3) := by decide +kernel
theorem dL_law_525 : decode cL_law 525 = .ok (.iconst 0, 1) := by decide +kernel
theorem dL_law_526 : decode cL_law 526 = .ok (.ireturn, 1) := by decide +kernel
theorem dL_law_527 : decode cL_law 527 = .ok (.aload_n 1, 1) := by decide +kernel
theorem dL_law_528 : decode cL_law 528 = .ok (.invokevirtual 84, 3) := by decide +kernel
theorem dL_law_531 : decode cL_law 531 = .ok (.aload_n 2, 1) := by decide +kernel
theorem dL_law_532 : decode cL_law 532 = .ok (.invokevirtual 87, 3) := by decide +kernel
theorem dL_law_535 : decode cL_law 535 = .ok (.if_icmp .eq 427, 3) := by decide +kernel
theorem dL_law_538 : decode cL_law 538 = .ok (.iconst 0, 1) := by decide +kernel
theorem dL_law_539 : decode cL_law 539 = .ok (.ireturn, 1) := by decide +kernel
theorem dL_law_540 : decode cL_law 540 = .ok (.aload_n 1, 1) := by decide +kernel
theorem dL_law_541 : decode cL_law 541 = .ok (.aload_n 0, 1) := by decide +kernel
theorem dL_law_542 : decode cL_law 542 = .ok (.iload_n 3, 1) := by decide +kernel
theorem dL_law_543 : decode cL_law 543 = .ok (.iconst 1, 1) := by decide +kernel
theorem dL_law_544 : decode cL_law 544 = .ok (.iadd, 1) := by decide +kernel
theorem dL_law_545 : decode cL_law 545 = .ok (.iaload, 1) := by decide +kernel
theorem dL_law_546 : decode cL_law 546 = .ok (.aload_n 0, 1) := by decide +kernel
theorem dL_law_547 : decode cL_law 547 = .ok (.iload_n 3, 1) := by decide +kernel
theorem dL_law_548 : decode cL_law 548 = .ok (.iconst 2, 1) := by decide +kernel
theorem dL_law_549 : decode cL_law 549 = .ok (.iadd, 1) := by decide +kernel
theorem dL_law_550 : decode cL_law 550 = .ok (.iaload, 1) := by decide +kernel
theorem dL_law_551 : decode cL_law 551 = .ok (.invokevirtual 88, 3) := by decide +kernel
theorem dL_law_554 : decode cL_law 554 = .ok (.aload_n 2, 1) := by decide +kernel
theorem dL_law_555 : decode cL_law 555 = .ok (.aload_n 0, 1) := by decide +kernel
theorem dL_law_556 : decode cL_law 556 = .ok (.iload_n 3, 1) := by decide +kernel
theorem dL_law_557 : decode cL_law 557 = .ok (.iconst 1, 1) := by decide +kernel
theorem dL_law_558 : decode cL_law 558 = .ok (.iadd, 1) := by decide +kernel
theorem dL_law_559 : decode cL_law 559 = .ok (.iaload, 1) := by decide +kernel
theorem dL_law_560 : decode cL_law 560 = .ok (.aload_n 0, 1) := by decide +kernel
theorem dL_law_561 : decode cL_law 561 = .ok (.iload_n 3, 1) := by decide +kernel
theorem dL_law_562 : decode cL_law 562 = .ok (.iconst 2, 1) := by decide +kernel
theorem dL_law_563 : decode cL_law 563 = .ok (.iadd, 1) := by decide +kernel
theorem dL_law_564 : decode cL_law 564 = .ok (.iaload, 1) := by decide +kernel
theorem dL_law_565 : decode cL_law 565 = .ok (.invokevirtual 91, 3) := by decide +kernel
theorem dL_law_568 : decode cL_law 568 = .ok (.if_icmp .eq 394, 3) := by decide +kernel
theorem dL_law_571 : decode cL_law 571 = .ok (.iconst 0, 1) := by decide +kernel
theorem dL_law_572 : decode cL_law 572 = .ok (.ireturn, 1) := by decide +kernel
theorem dL_law_573 : decode cL_law 573 = .ok (.aload_n 1, 1) := by decide +kernel
theorem dL_law_574 : decode cL_law 574 = .ok (.invokevirtual 92, 3) := by decide +kernel
theorem dL_law_577 : decode cL_law 577 = .ok (.aload_n 2, 1) := by decide +kernel
theorem dL_law_578 : decode cL_law 578 = .ok (.invokevirtual 95, 3) := by decide +kernel
theorem dL_law_581 : decode cL_law 581 = .ok (.if_icmp .eq 381, 3) := by decide +kernel
theorem dL_law_584 : decode cL_law 584 = .ok (.iconst 0, 1) := by decide +kernel
theorem dL_law_585 : decode cL_law 585 = .ok (.ireturn, 1) := by decide +kernel
theorem dL_law_586 : decode cL_law 586 = .ok (.aload_n 1, 1) := by decide +kernel
theorem dL_law_587 : decode cL_law 587 = .ok (.invokevirtual 96, 3) := by decide +kernel
theorem dL_law_590 : decode cL_law 590 = .ok (.aload_n 2, 1) := by decide +kernel
theorem dL_law_591 : decode cL_law 591 = .ok (.invokevirtual 99, 3) := by decide +kernel
theorem dL_law_594 : decode cL_law 594 = .ok (.if_icmp .eq 368, 3) := by decide +kernel
theorem dL_law_597 : decode cL_law 597 = .ok (.iconst 0, 1) := by decide +kernel
theorem dL_law_598 : decode cL_law 598 = .ok (.ireturn, 1) := by decide +kernel
theorem dL_law_599 : decode cL_law 599 = .ok (.aload_n 1, 1) := by decide +kernel
theorem dL_law_600 : decode cL_law 600 = .ok (.aload_n 0, 1) := by decide +kernel
theorem dL_law_601 : decode cL_law 601 = .ok (.iload_n 3, 1) := by decide +kernel
theorem dL_law_602 : decode cL_law 602 = .ok (.iconst 1, 1) := by decide +kernel
theorem dL_law_603 : decode cL_law 603 = .ok (.iadd, 1) := by decide +kernel
theorem dL_law_604 : decode cL_law 604 = .ok (.iaload, 1) := by decide +kernel
theorem dL_law_605 : decode cL_law 605 = .ok (.aload_n 0, 1) := by decide +kernel
theorem dL_law_606 : decode cL_law 606 = .ok (.iload_n 3, 1) := by decide +kernel
theorem dL_law_607 : decode cL_law 607 = .ok (.iconst 2, 1) := by decide +kernel
theorem dL_law_608 : decode cL_law 608 = .ok (.iadd, 1) := by decide +kernel
theorem dL_law_609 : decode cL_law 609 = .ok (.iaload, 1) := by decide +kernel
theorem dL_law_610 : decode cL_law 610 = .ok (.invokevirtual 100, 3) := by decide +kernel
theorem dL_law_613 : decode cL_law 613 = .ok (.aload_n 2, 1) := by decide +kernel
theorem dL_law_614 : decode cL_law 614 = .ok (.aload_n 0, 1) := by decide +kernel
theorem dL_law_615 : decode cL_law 615 = .ok (.iload_n 3, 1) := by decide +kernel
theorem dL_law_616 : decode cL_law 616 = .ok (.iconst 1, 1) := by decide +kernel
theorem dL_law_617 : decode cL_law 617 = .ok (.iadd, 1) := by decide +kernel
theorem dL_law_618 : decode cL_law 618 = .ok (.iaload, 1) := by decide +kernel
theorem dL_law_619 : decode cL_law 619 = .ok (.aload_n 0, 1) := by decide +kernel
theorem dL_law_620 : decode cL_law 620 = .ok (.iload_n 3, 1) := by decide +kernel
theorem dL_law_621 : decode cL_law 621 = .ok (.iconst 2, 1) := by decide +kernel
theorem dL_law_622 : decode cL_law 622 = .ok (.iadd, 1) := by decide +kernel
theorem dL_law_623 : decode cL_law 623 = .ok (.iaload, 1) := by decide +kernel
theorem dL_law_624 : decode cL_law 624 = .ok (.invokevirtual 103, 3) := by decide +kernel
theorem dL_law_627 : decode cL_law 627 = .ok (.if_icmp .eq 335, 3) := by decide +kernel
theorem dL_law_630 : decode cL_law 630 = .ok (.iconst 0, 1) := by decide +kernel
theorem dL_law_631 : decode cL_law 631 = .ok (.ireturn, 1) := by decide +kernel
theorem dL_law_632 : decode cL_law 632 = .ok (.aload_n 1, 1) := by decide +kernel
theorem dL_law_633 : decode cL_law 633 = .ok (.aload_n 0, 1) := by decide +kernel
theorem dL_law_634 : decode cL_law 634 = .ok (.iload_n 3, 1) := by decide +kernel
theorem dL_law_635 : decode cL_law 635 = .ok (.iconst 1, 1) := by decide +kernel
theorem dL_law_636 : decode cL_law 636 = .ok (.iadd, 1) := by decide +kernel
theorem dL_law_637 : decode cL_law 637 = .ok (.iaload, 1) := by decide +kernel
theorem dL_law_638 : decode cL_law 638 = .ok (.aload_n 0, 1) := by decide +kernel
theorem dL_law_639 : decode cL_law 639 = .ok (.iload_n 3, 1) := by decide +kernel
theorem dL_law_640 : decode cL_law 640 = .ok (.iconst 2, 1) := by decide +kernel
theorem dL_law_641 : decode cL_law 641 = .ok (.iadd, 1) := by decide +kernel
theorem dL_law_642 : decode cL_law 642 = .ok (.iaload, 1) := by decide +kernel
theorem dL_law_643 : decode cL_law 643 = .ok (.invokevirtual 104, 3) := by decide +kernel
theorem dL_law_646 : decode cL_law 646 = .ok (.aload_n 2, 1) := by decide +kernel
theorem dL_law_647 : decode cL_law 647 = .ok (.aload_n 0, 1) := by decide +kernel
theorem dL_law_648 : decode cL_law 648 = .ok (.iload_n 3, 1) := by decide +kernel
theorem dL_law_649 : decode cL_law 649 = .ok (.iconst 1, 1) := by decide +kernel
theorem dL_law_650 : decode cL_law 650 = .ok (.iadd, 1) := by decide +kernel
theorem dL_law_651 : decode cL_law 651 = .ok (.iaload, 1) := by decide +kernel
theorem dL_law_652 : decode cL_law 652 = .ok (.aload_n 0, 1) := by decide +kernel
theorem dL_law_653 : decode cL_law 653 = .ok (.iload_n 3, 1) := by decide +kernel
theorem dL_law_654 : decode cL_law 654 = .ok (.iconst 2, 1) := by decide +kernel
theorem dL_law_655 : decode cL_law 655 = .ok (.iadd, 1) := by decide +kernel
theorem dL_law_656 : decode cL_law 656 = .ok (.iaload, 1) := by decide +kernel
theorem dL_law_657 : decode cL_law 657 = .ok (.invokevirtual 107, 3) := by decide +kernel
theorem dL_law_660 : decode cL_law 660 = .ok (.if_icmp .eq 302, 3) := by decide +kernel
theorem dL_law_663 : decode cL_law 663 = .ok (.iconst 0, 1) := by decide +kernel
theorem dL_law_664 : decode cL_law 664 = .ok (.ireturn, 1) := by decide +kernel
theorem dL_law_665 : decode cL_law 665 = .ok (.aload_n 1, 1) := by decide +kernel
theorem dL_law_666 : decode cL_law 666 = .ok (.aload_n 0, 1) := by decide +kernel
theorem dL_law_667 : decode cL_law 667 = .ok (.iload_n 3, 1) := by decide +kernel
theorem dL_law_668 : decode cL_law 668 = .ok (.iconst 1, 1) := by decide +kernel
theorem dL_law_669 : decode cL_law 669 = .ok (.iadd, 1) := by decide +kernel
theorem dL_law_670 : decode cL_law 670 = .ok (.iaload, 1) := by decide +kernel
theorem dL_law_671 : decode cL_law 671 = .ok (.invokevirtual 108, 3) := by decide +kernel
theorem dL_law_674 : decode cL_law 674 = .ok (.aload_n 2, 1) := by decide +kernel
theorem dL_law_675 : decode cL_law 675 = .ok (.aload_n 0, 1) := by decide +kernel
theorem dL_law_676 : decode cL_law 676 = .ok (.iload_n 3, 1) := by decide +kernel
theorem dL_law_677 : decode cL_law 677 = .ok (.iconst 1, 1) := by decide +kernel
theorem dL_law_678 : decode cL_law 678 = .ok (.iadd, 1) := by decide +kernel
theorem dL_law_679 : decode cL_law 679 = .ok (.iaload, 1) := by decide +kernel
theorem dL_law_680 : decode cL_law 680 = .ok (.invokevirtual 111, 3) := by decide +kernel
theorem dL_law_683 : decode cL_law 683 = .ok (.if_icmp .eq 279, 3) := by decide +kernel
theorem dL_law_686 : decode cL_law 686 = .ok (.iconst 0, 1) := by decide +kernel
theorem dL_law_687 : decode cL_law 687 = .ok (.ireturn, 1) := by decide +kernel
theorem dL_law_688 : decode cL_law 688 = .ok (.aload_n 1, 1) := by decide +kernel
theorem dL_law_689 : decode cL_law 689 = .ok (.aload_n 0, 1) := by decide +kernel
theorem dL_law_690 : decode cL_law 690 = .ok (.iload_n 3, 1) := by decide +kernel
theorem dL_law_691 : decode cL_law 691 = .ok (.iconst 1, 1) := by decide +kernel
theorem dL_law_692 : decode cL_law 692 = .ok (.iadd, 1) := by decide +kernel
theorem dL_law_693 : decode cL_law 693 = .ok (.iaload, 1) := by decide +kernel
theorem dL_law_694 : decode cL_law 694 = .ok (.invokevirtual 112, 3) := by decide +kernel
theorem dL_law_697 : decode cL_law 697 = .ok (.aload_n 2, 1) := by decide +kernel
theorem dL_law_698 : decode cL_law 698 = .ok (.aload_n 0, 1) := by decide +kernel
theorem dL_law_699 : decode cL_law 699 = .ok (.iload_n 3, 1) := by decide +kernel
theorem dL_law_700 : decode cL_law 700 = .ok (.iconst 1, 1) := by decide +kernel
theorem dL_law_701 : decode cL_law 701 = .ok (.iadd, 1) := by decide +kernel
theorem dL_law_702 : decode cL_law 702 = .ok (.iaload, 1) := by decide +kernel
theorem dL_law_703 : decode cL_law 703 = .ok (.invokevirtual 115, 3) := by decide +kernel
theorem dL_law_706 : decode cL_law 706 = .ok (.if_icmp .eq 256, 3) := by decide +kernel
theorem dL_law_709 : decode cL_law 709 = .ok (.iconst 0, 1) := by decide +kernel
theorem dL_law_710 : decode cL_law 710 = .ok (.ireturn, 1) := by decide +kernel
theorem dL_law_711 : decode cL_law 711 = .ok (.aload_n 1, 1) := by decide +kernel
theorem dL_law_712 : decode cL_law 712 = .ok (.aload_n 0, 1) := by decide +kernel
theorem dL_law_713 : decode cL_law 713 = .ok (.iload_n 3, 1) := by decide +kernel
theorem dL_law_714 : decode cL_law 714 = .ok (.iconst 1, 1) := by decide +kernel
theorem dL_law_715 : decode cL_law 715 = .ok (.iadd, 1) := by decide +kernel
theorem dL_law_716 : decode cL_law 716 = .ok (.iaload, 1) := by decide +kernel
theorem dL_law_717 : decode cL_law 717 = .ok (.aload_n 0, 1) := by decide +kernel
theorem dL_law_718 : decode cL_law 718 = .ok (.iload_n 3, 1) := by decide +kernel
theorem dL_law_719 : decode cL_law 719 = .ok (.iconst 2, 1) := by decide +kernel
theorem dL_law_720 : decode cL_law 720 = .ok (.iadd, 1) := by decide +kernel
theorem dL_law_721 : decode cL_law 721 = .ok (.iaload, 1) := by decide +kernel
theorem dL_law_722 : decode cL_law 722 = .ok (.aload_n 0, 1) := by decide +kernel
theorem dL_law_723 : decode cL_law 723 = .ok (.iload_n 3, 1) := by decide +kernel
theorem dL_law_724 : decode cL_law 724 = .ok (.iconst 3, 1) := by decide +kernel
theorem dL_law_725 : decode cL_law 725 = .ok (.iadd, 1) := by decide +kernel
theorem dL_law_726 : decode cL_law 726 = .ok (.iaload, 1) := by decide +kernel
theorem dL_law_727 : decode cL_law 727 = .ok (.invokevirtual 116, 3) := by decide +kernel
theorem dL_law_730 : decode cL_law 730 = .ok (.aload_n 2, 1) := by decide +kernel
theorem dL_law_731 : decode cL_law 731 = .ok (.aload_n 0, 1) := by decide +kernel
theorem dL_law_732 : decode cL_law 732 = .ok (.iload_n 3, 1) := by decide +kernel
theorem dL_law_733 : decode cL_law 733 = .ok (.iconst 1, 1) := by decide +kernel
theorem dL_law_734 : decode cL_law 734 = .ok (.iadd, 1) := by decide +kernel
theorem dL_law_735 : decode cL_law 735 = .ok (.iaload, 1) := by decide +kernel
theorem dL_law_736 : decode cL_law 736 = .ok (.aload_n 0, 1) := by decide +kernel
theorem dL_law_737 : decode cL_law 737 = .ok (.iload_n 3, 1) := by decide +kernel
theorem dL_law_738 : decode cL_law 738 = .ok (.iconst 2, 1) := by decide +kernel
theorem dL_law_739 : decode cL_law 739 = .ok (.iadd, 1) := by decide +kernel
theorem dL_law_740 : decode cL_law 740 = .ok (.iaload, 1) := by decide +kernel
theorem dL_law_741 : decode cL_law 741 = .ok (.aload_n 0, 1) := by decide +kernel
theorem dL_law_742 : decode cL_law 742 = .ok (.iload_n 3, 1) := by decide +kernel
theorem dL_law_743 : decode cL_law 743 = .ok (.iconst 3, 1) := by decide +kernel
theorem dL_law_744 : decode cL_law 744 = .ok (.iadd, 1) := by decide +kernel
theorem dL_law_745 : decode cL_law 745 = .ok (.iaload, 1) := by decide +kernel
theorem dL_law_746 : decode cL_law 746 = .ok (.invokevirtual 120, 3) := by decide +kernel
theorem dL_law_749 : decode cL_law 749 = .ok (.if_icmp .eq 213, 3) := by decide +kernel
theorem dL_law_752 : decode cL_law 752 = .ok (.iconst 0, 1) := by decide +kernel
theorem dL_law_753 : decode cL_law 753 = .ok (.ireturn, 1) := by decide +kernel
theorem dL_law_754 : decode cL_law 754 = .ok (.aload_n 1, 1) := by decide +kernel
theorem dL_law_755 : decode cL_law 755 = .ok (.aload_n 0, 1) := by decide +kernel
theorem dL_law_756 : decode cL_law 756 = .ok (.iload_n 3, 1) := by decide +kernel
theorem dL_law_757 : decode cL_law 757 = .ok (.iconst 1, 1) := by decide +kernel
theorem dL_law_758 : decode cL_law 758 = .ok (.iadd, 1) := by decide +kernel
theorem dL_law_759 : decode cL_law 759 = .ok (.iaload, 1) := by decide +kernel
theorem dL_law_760 : decode cL_law 760 = .ok (.invokevirtual 121, 3) := by decide +kernel
theorem dL_law_763 : decode cL_law 763 = .ok (.aload_n 2, 1) := by decide +kernel
theorem dL_law_764 : decode cL_law 764 = .ok (.aload_n 0, 1) := by decide +kernel
theorem dL_law_765 : decode cL_law 765 = .ok (.iload_n 3, 1) := by decide +kernel
theorem dL_law_766 : decode cL_law 766 = .ok (.iconst 1, 1) := by decide +kernel
theorem dL_law_767 : decode cL_law 767 = .ok (.iadd, 1) := by decide +kernel
theorem dL_law_768 : decode cL_law 768 = .ok (.iaload, 1) := by decide +kernel
theorem dL_law_769 : decode cL_law 769 = .ok (.invokevirtual 124, 3) := by decide +kernel
theorem dL_law_772 : decode cL_law 772 = .ok (.if_icmp .eq 190, 3) := by decide +kernel
theorem dL_law_775 : decode cL_law 775 = .ok (.iconst 0, 1) := by decide +kernel
theorem dL_law_776 : decode cL_law 776 = .ok (.ireturn, 1) := by decide +kernel
theorem dL_law_777 : decode cL_law 777 = .ok (.aload_n 1, 1) := by decide +kernel
theorem dL_law_778 : decode cL_law 778 = .ok (.invokevirtual 125, 3) := by decide +kernel
theorem dL_law_781 : decode cL_law 781 = .ok (.aload_n 2, 1) := by decide +kernel
theorem dL_law_782 : decode cL_law 782 = .ok (.invokevirtual 128, 3) := by decide +kernel
theorem dL_law_785 : decode cL_law 785 = .ok (.if_icmp .eq 177, 3) := by decide +kernel
theorem dL_law_788 : decode cL_law 788 = .ok (.iconst 0, 1) := by decide +kernel
theorem dL_law_789 : decode cL_law 789 = .ok (.ireturn, 1) := by decide +kernel
theorem dL_law_790 : decode cL_law 790 = .ok (.aload_n 1, 1) := by decide +kernel
theorem dL_law_791 : decode cL_law 791 = .ok (.aload_n 0, 1) := by decide +kernel
theorem dL_law_792 : decode cL_law 792 = .ok (.iload_n 3, 1) := by decide +kernel
theorem dL_law_793 : decode cL_law 793 = .ok (.iconst 1, 1) := by decide +kernel
theorem dL_law_794 : decode cL_law 794 = .ok (.iadd, 1) := by decide +kernel
theorem dL_law_795 : decode cL_law 795 = .ok (.iaload, 1) := by decide +kernel
theorem dL_law_796 : decode cL_law 796 = .ok (.aload_n 0, 1) := by decide +kernel
theorem dL_law_797 : decode cL_law 797 = .ok (.iload_n 3, 1) := by decide +kernel
theorem dL_law_798 : decode cL_law 798 = .ok (.iconst 2, 1) := by decide +kernel
theorem dL_law_799 : decode cL_law 799 = .ok (.iadd, 1) := by decide +kernel
theorem dL_law_800 : decode cL_law 800 = .ok (.iaload, 1) := by decide +kernel
theorem dL_law_801 : decode cL_law 801 = .ok (.i2l, 1) := by decide +kernel
theorem dL_law_802 : decode cL_law 802 = .ok (.bipush 32, 2) := by decide +kernel
theorem dL_law_804 : decode cL_law 804 = .ok (.lshl, 1) := by decide +kernel
theorem dL_law_805 : decode cL_law 805 = .ok (.aload_n 0, 1) := by decide +kernel
theorem dL_law_806 : decode cL_law 806 = .ok (.iload_n 3, 1) := by decide +kernel
theorem dL_law_807 : decode cL_law 807 = .ok (.iconst 3, 1) := by decide +kernel
theorem dL_law_808 : decode cL_law 808 = .ok (.iadd, 1) := by decide +kernel
theorem dL_law_809 : decode cL_law 809 = .ok (.iaload, 1) := by decide +kernel
theorem dL_law_810 : decode cL_law 810 = .ok (.i2l, 1) := by decide +kernel
theorem dL_law_811 : decode cL_law 811 = .ok (.ldc2_w 129, 3) := by decide +kernel
theorem dL_law_814 : decode cL_law 814 = .ok (.land, 1) := by decide +kernel
theorem dL_law_815 : decode cL_law 815 = .ok (.lor, 1) := by decide +kernel
theorem dL_law_816 : decode cL_law 816 = .ok (.invokevirtual 131, 3) := by decide +kernel
theorem dL_law_819 : decode cL_law 819 = .ok (.aload_n 2, 1) := by decide +kernel
theorem dL_law_820 : decode cL_law 820 = .ok (.aload_n 0, 1) := by decide +kernel
theorem dL_law_821 : decode cL_law 821 = .ok (.iload_n 3, 1) := by decide +kernel
theorem dL_law_822 : decode cL_law 822 = .ok (.iconst 1, 1) := by decide +kernel
theorem dL_law_823 : decode cL_law 823 = .ok (.iadd, 1) := by decide +kernel
theorem dL_law_824 : decode cL_law 824 = .ok (.iaload, 1) := by decide +kernel
theorem dL_law_825 : decode cL_law 825 = .ok (.aload_n 0, 1) := by decide +kernel
theorem dL_law_826 : decode cL_law 826 = .ok (.iload_n 3, 1) := by decide +kernel
theorem dL_law_827 : decode cL_law 827 = .ok (.iconst 2, 1) := by decide +kernel
theorem dL_law_828 : decode cL_law 828 = .ok (.iadd, 1) := by decide +kernel
theorem dL_law_829 : decode cL_law 829 = .ok (.iaload, 1) := by decide +kernel
theorem dL_law_830 : decode cL_law 830 = .ok (.i2l, 1) := by decide +kernel
theorem dL_law_831 : decode cL_law 831 = .ok (.bipush 32, 2) := by decide +kernel
theorem dL_law_833 : decode cL_law 833 = .ok (.lshl, 1) := by decide +kernel
theorem dL_law_834 : decode cL_law 834 = .ok (.aload_n 0, 1) := by decide +kernel
theorem dL_law_835 : decode cL_law 835 = .ok (.iload_n 3, 1) := by decide +kernel
theorem dL_law_836 : decode cL_law 836 = .ok (.iconst 3, 1) := by decide +kernel
theorem dL_law_837 : decode cL_law 837 = .ok (.iadd, 1) := by decide +kernel
theorem dL_law_838 : decode cL_law 838 = .ok (.iaload, 1) := by decide +kernel
theorem dL_law_839 : decode cL_law 839 = .ok (.i2l, 1) := by decide +kernel
theorem dL_law_840 : decode cL_law 840 = .ok (.ldc2_w 129, 3) := by decide +kernel
theorem dL_law_843 : decode cL_law 843 = .ok (.land, 1) := by decide +kernel
theorem dL_law_844 : decode cL_law 844 = .ok (.lor, 1) := by decide +kernel
theorem dL_law_845 : decode cL_law 845 = .ok (.invokevirtual 135, 3) := by decide +kernel
theorem dL_law_848 : decode cL_law 848 = .ok (.if_icmp .eq 114, 3) := by decide +kernel
theorem dL_law_851 : decode cL_law 851 = .ok (.iconst 0, 1) := by decide +kernel
theorem dL_law_852 : decode cL_law 852 = .ok (.ireturn, 1) := by decide +kernel
theorem dL_law_853 : decode cL_law 853 = .ok (.aload_n 1, 1) := by decide +kernel
theorem dL_law_854 : decode cL_law 854 = .ok (.aload_n 0, 1) := by decide +kernel
theorem dL_law_855 : decode cL_law 855 = .ok (.iload_n 3, 1) := by decide +kernel
theorem dL_law_856 : decode cL_law 856 = .ok (.iconst 1, 1) := by decide +kernel
theorem dL_law_857 : decode cL_law 857 = .ok (.iadd, 1) := by decide +kernel
theorem dL_law_858 : decode cL_law 858 = .ok (.iaload, 1) := by decide +kernel
theorem dL_law_859 : decode cL_law 859 = .ok (.i2l, 1) := by decide +kernel
theorem dL_law_860 : decode cL_law 860 = .ok (.bipush 32, 2) := by decide +kernel
theorem dL_law_862 : decode cL_law 862 = .ok (.lshl, 1) := by decide +kernel
theorem dL_law_863 : decode cL_law 863 = .ok (.aload_n 0, 1) := by decide +kernel
theorem dL_law_864 : decode cL_law 864 = .ok (.iload_n 3, 1) := by decide +kernel
theorem dL_law_865 : decode cL_law 865 = .ok (.iconst 2, 1) := by decide +kernel
theorem dL_law_866 : decode cL_law 866 = .ok (.iadd, 1) := by decide +kernel
theorem dL_law_867 : decode cL_law 867 = .ok (.iaload, 1) := by decide +kernel
theorem dL_law_868 : decode cL_law 868 = .ok (.i2l, 1) := by decide +kernel
theorem dL_law_869 : decode cL_law 869 = .ok (.ldc2_w 129, 3) := by decide +kernel
theorem dL_law_872 : decode cL_law 872 = .ok (.land, 1) := by decide +kernel
theorem dL_law_873 : decode cL_law 873 = .ok (.lor, 1) := by decide +kernel
theorem dL_law_874 : decode cL_law 874 = .ok (.aload_n 0, 1) := by decide +kernel
theorem dL_law_875 : decode cL_law 875 = .ok (.iload_n 3, 1) := by decide +kernel
theorem dL_law_876 : decode cL_law 876 = .ok (.iconst 3, 1) := by decide +kernel
theorem dL_law_877 : decode cL_law 877 = .ok (.iadd, 1) := by decide +kernel
theorem dL_law_878 : decode cL_law 878 = .ok (.iaload, 1) := by decide +kernel
theorem dL_law_879 : decode cL_law 879 = .ok (.invokevirtual 136, 3) := by decide +kernel
theorem dL_law_882 : decode cL_law 882 = .ok (.aload_n 2, 1) := by decide +kernel
theorem dL_law_883 : decode cL_law 883 = .ok (.aload_n 0, 1) := by decide +kernel
theorem dL_law_884 : decode cL_law 884 = .ok (.iload_n 3, 1) := by decide +kernel
theorem dL_law_885 : decode cL_law 885 = .ok (.iconst 1, 1) := by decide +kernel
theorem dL_law_886 : decode cL_law 886 = .ok (.iadd, 1) := by decide +kernel
theorem dL_law_887 : decode cL_law 887 = .ok (.iaload, 1) := by decide +kernel
theorem dL_law_888 : decode cL_law 888 = .ok (.i2l, 1) := by decide +kernel
theorem dL_law_889 : decode cL_law 889 = .ok (.bipush 32, 2) := by decide +kernel
theorem dL_law_891 : decode cL_law 891 = .ok (.lshl, 1) := by decide +kernel
theorem dL_law_892 : decode cL_law 892 = .ok (.aload_n 0, 1) := by decide +kernel
theorem dL_law_893 : decode cL_law 893 = .ok (.iload_n 3, 1) := by decide +kernel
theorem dL_law_894 : decode cL_law 894 = .ok (.iconst 2, 1) := by decide +kernel
theorem dL_law_895 : decode cL_law 895 = .ok (.iadd, 1) := by decide +kernel
theorem dL_law_896 : decode cL_law 896 = .ok (.iaload, 1) := by decide +kernel
theorem dL_law_897 : decode cL_law 897 = .ok (.i2l, 1) := by decide +kernel
theorem dL_law_898 : decode cL_law 898 = .ok (.ldc2_w 129, 3) := by decide +kernel
theorem dL_law_901 : decode cL_law 901 = .ok (.land, 1) := by decide +kernel
theorem dL_law_902 : decode cL_law 902 = .ok (.lor, 1) := by decide +kernel
theorem dL_law_903 : decode cL_law 903 = .ok (.aload_n 0, 1) := by decide +kernel
theorem dL_law_904 : decode cL_law 904 = .ok (.iload_n 3, 1) := by decide +kernel
theorem dL_law_905 : decode cL_law 905 = .ok (.iconst 3, 1) := by decide +kernel
theorem dL_law_906 : decode cL_law 906 = .ok (.iadd, 1) := by decide +kernel
theorem dL_law_907 : decode cL_law 907 = .ok (.iaload, 1) := by decide +kernel
theorem dL_law_908 : decode cL_law 908 = .ok (.invokevirtual 140, 3) := by decide +kernel
theorem dL_law_911 : decode cL_law 911 = .ok (.if_icmp .eq 51, 3) := by decide +kernel
theorem dL_law_914 : decode cL_law 914 = .ok (.iconst 0, 1) := by decide +kernel
theorem dL_law_915 : decode cL_law 915 = .ok (.ireturn, 1) := by decide +kernel
theorem dL_law_916 : decode cL_law 916 = .ok (.aload_n 1, 1) := by decide +kernel
theorem dL_law_917 : decode cL_law 917 = .ok (.aload_n 0, 1) := by decide +kernel
theorem dL_law_918 : decode cL_law 918 = .ok (.iload_n 3, 1) := by decide +kernel
theorem dL_law_919 : decode cL_law 919 = .ok (.iconst 1, 1) := by decide +kernel
theorem dL_law_920 : decode cL_law 920 = .ok (.iadd, 1) := by decide +kernel
theorem dL_law_921 : decode cL_law 921 = .ok (.iaload, 1) := by decide +kernel
theorem dL_law_922 : decode cL_law 922 = .ok (.invokevirtual 141, 3) := by decide +kernel
theorem dL_law_925 : decode cL_law 925 = .ok (.aload_n 2, 1) := by decide +kernel
theorem dL_law_926 : decode cL_law 926 = .ok (.aload_n 0, 1) := by decide +kernel
theorem dL_law_927 : decode cL_law 927 = .ok (.iload_n 3, 1) := by decide +kernel
theorem dL_law_928 : decode cL_law 928 = .ok (.iconst 1, 1) := by decide +kernel
theorem dL_law_929 : decode cL_law 929 = .ok (.iadd, 1) := by decide +kernel
theorem dL_law_930 : decode cL_law 930 = .ok (.iaload, 1) := by decide +kernel
theorem dL_law_931 : decode cL_law 931 = .ok (.invokevirtual 144, 3) := by decide +kernel
theorem dL_law_934 : decode cL_law 934 = .ok (.if_icmp .eq 28, 3) := by decide +kernel
theorem dL_law_937 : decode cL_law 937 = .ok (.iconst 0, 1) := by decide +kernel
theorem dL_law_938 : decode cL_law 938 = .ok (.ireturn, 1) := by decide +kernel
theorem dL_law_939 : decode cL_law 939 = .ok (.aload_n 1, 1) := by decide +kernel
theorem dL_law_940 : decode cL_law 940 = .ok (.aload_n 0, 1) := by decide +kernel
theorem dL_law_941 : decode cL_law 941 = .ok (.iload_n 3, 1) := by decide +kernel
theorem dL_law_942 : decode cL_law 942 = .ok (.iconst 1, 1) := by decide +kernel
theorem dL_law_943 : decode cL_law 943 = .ok (.iadd, 1) := by decide +kernel
theorem dL_law_944 : decode cL_law 944 = .ok (.iaload, 1) := by decide +kernel
theorem dL_law_945 : decode cL_law 945 = .ok (.invokevirtual 145, 3) := by decide +kernel
theorem dL_law_948 : decode cL_law 948 = .ok (.aload_n 2, 1) := by decide +kernel
theorem dL_law_949 : decode cL_law 949 = .ok (.aload_n 0, 1) := by decide +kernel
theorem dL_law_950 : decode cL_law 950 = .ok (.iload_n 3, 1) := by decide +kernel
theorem dL_law_951 : decode cL_law 951 = .ok (.iconst 1, 1) := by decide +kernel
theorem dL_law_952 : decode cL_law 952 = .ok (.iadd, 1) := by decide +kernel
theorem dL_law_953 : decode cL_law 953 = .ok (.iaload, 1) := by decide +kernel
theorem dL_law_954 : decode cL_law 954 = .ok (.invokevirtual 148, 3) := by decide +kernel
theorem dL_law_957 : decode cL_law 957 = .ok (.if_icmp .eq 5, 3) := by decide +kernel
theorem dL_law_960 : decode cL_law 960 = .ok (.iconst 0, 1) := by decide +kernel
theorem dL_law_961 : decode cL_law 961 = .ok (.ireturn, 1) := by decide +kernel
theorem dL_law_962 : decode cL_law 962 = .ok (.iinc 3 4, 3) := by decide +kernel
theorem dL_law_965 : decode cL_law 965 = .ok (.goto (-947), 3) := by decide +kernel
theorem dL_law_968 : decode cL_law 968 = .ok (.iconst 1, 1) := by decide +kernel
theorem dL_law_969 : decode cL_law 969 = .ok (.ireturn, 1) := by decide +kernel
end
section
/-! the small machine: values, heaps, methods -/
abbrev xV : Type := Int ⊕ (Int ⊕ Option Nat)
abbrev xH : Type := List (Nat × Nat) × (Nat → Int → Option Nat) × (Nat → Int → Int)
abbrev xG : Type := va_G × (ClassId × ClassId × ClassId) × (Nat × Nat × Nat × (Nat → Int32))
/-- name, code, locals, answer, class, calls below it, words below it, parameters -/
abbrev xM : Type := MethodName × ByteArray × Nat × Option FieldType × Nat × Nat × Nat × Nat
abbrev xI (x : Int) : xV := Sum.inl x
abbrev xL (x : Int) : xV := Sum.inr (Sum.inl x)
abbrev xP (k : Nat) : xV := Sum.inr (Sum.inr (some k))
abbrev xS : xV := Sum.inr (Sum.inr none)
def xin (x : Int) : Prop := -2147483648 ≤ x ∧ x ≤ 2147483647
def xlin (x : Int) : Prop := -9223372036854775808 ≤ x ∧ x ≤ 9223372036854775807
def xnm (y : xM) : MethodName := y.1
def xcd (y : xM) : ByteArray := y.2.1
def xml (y : xM) : Nat := y.2.2.1
def xrt (y : xM) : Option FieldType := y.2.2.2.1
def xow (y : xM) : Nat := y.2.2.2.2.1
def xdp (y : xM) : Nat := y.2.2.2.2.2.1
def xlo (y : xM) : Nat := y.2.2.2.2.2.2.1
def xar (y : xM) : Nat := y.2.2.2.2.2.2.2
def xT : List Cond := lw_tbl.filter goodWord
def xW (w : Cond) : Prop := w ∈ lw_tbl ∧ goodWord w = true
theorem xW_in {w : Cond} : w ∈ xT ↔ xW w := List.mem_filter
theorem xW_t (i : Nat) {w : Cond} (h : tables_1[i]? = some w) (g : goodWord w = true) : xW w := ⟨List.mem_append_right _ (List.mem_of_getElem? h), g⟩
theorem xW_s (i : Nat) {w : Cond} (h : (k2_sels lw_privs)[i]? = some w) (g : goodWord w = true) : xW w := ⟨List.mem_append_left _ (List.mem_of_getElem? h), g⟩
def xR (o : Nat) : String := match o with
  | 0 => RX0
  | 1 => RX1
  | 2 => RX2
  | 3 => RX3
  | 4 => RX4
  | 5 => RX5
  | 6 => RX6
  | 7 => RX7
  | 8 => RX8
  | 9 => RX9
  | 10 => RX10
  | 11 => RL
  | 12 => RJ6
  | _ => RJ9
def xC (ci : Nat) : String := match ci with
  | 0 => RX0
  | 1 => RX1
  | 2 => RX2
  | 3 => RX3
  | 4 => RX6
  | 5 => RX7
  | 6 => RX9
  | _ => RX10
def xTb (ci : Nat) : u_T := match ci with
  | 0 => TX0
  | 1 => TX1
  | 2 => TX2
  | 3 => TX3
  | 4 => TX6
  | 5 => TX7
  | 6 => TX9
  | _ => TX10
def xN (ci : Nat) : Nat := match ci with
  | 0 => 5
  | 1 => 3
  | 2 => 3
  | 3 => 3
  | 4 => 5
  | 5 => 7
  | 6 => 9
  | _ => 23
def xTy (ci : Nat) : Nat → FieldType := match ci with
  | 0 => tyX0
  | 1 => tyX1
  | 2 => tyX2
  | 3 => tyX3
  | 4 => tyX6
  | 5 => tyX7
  | 6 => tyX9
  | _ => tyX10
def xfr (ci k : Nat) : Bool := match xTy ci k with
  | .int => false
  | _ => true
theorem xcl_at {ci : Nat} (h : ci < 8) : vwCl[ci]? = some (xC ci, xTb ci, xN ci) := by
  rcases (by omega : ci = 0 ∨ ci = 1 ∨ ci = 2 ∨ ci = 3 ∨ ci = 4 ∨ ci = 5 ∨ ci = 6 ∨ ci = 7) with rfl | rfl | rfl | rfl | rfl | rfl | rfl | rfl <;> rfl
theorem xty_ok {ci : Nat} (h : ci < 8) : ∀ k, k < xN ci → parseFieldDescriptor (xTb ci k).2.2.1 = some (xTy ci k) := by
  rcases (by omega : ci = 0 ∨ ci = 1 ∨ ci = 2 ∨ ci = 3 ∨ ci = 4 ∨ ci = 5 ∨ ci = 6 ∨ ci = 7) with rfl | rfl | rfl | rfl | rfl | rfl | rfl | rfl
  · exact tyX0_ok
  · exact tyX1_ok
  · exact tyX2_ok
  · exact tyX3_ok
  · exact tyX6_ok
  · exact tyX7_ok
  · exact tyX9_ok
  · exact tyX10_ok
theorem xnm_ok {ci : Nat} (h : ci < 8) : ∀ a, a < xN ci → ∀ b, b < xN ci → a ≠ b → (xTb ci a).2.1 ≠ (xTb ci b).2.1 := by
  rcases (by omega : ci = 0 ∨ ci = 1 ∨ ci = 2 ∨ ci = 3 ∨ ci = 4 ∨ ci = 5 ∨ ci = 6 ∨ ci = 7) with rfl | rfl | rfl | rfl | rfl | rfl | rfl | rfl
  · exact nmX0
  · exact nmX1
  · exact nmX2
  · exact nmX3
  · exact nmX6
  · exact nmX7
  · exact nmX9
  · exact nmX10
theorem xlay0 : ∀ k, k < 5 → xW (u_lay RX0 TX0 k) := by
  intro k hk
  have H : ∀ k, k < 5 → tables_1[([159, 161, 163, 165, 167] : List Nat).getD k 0]? = some (u_lay RX0 TX0 k) ∧ goodWord (u_lay RX0 TX0 k) = true := by decide +kernel
  exact xW_t _ (H k hk).1 (H k hk).2
theorem xlay1 : ∀ k, k < 3 → xW (u_lay RX1 TX1 k) := by
  intro k hk
  have H : ∀ k, k < 3 → tables_1[([44, 46, 48] : List Nat).getD k 0]? = some (u_lay RX1 TX1 k) ∧ goodWord (u_lay RX1 TX1 k) = true := by decide +kernel
  exact xW_t _ (H k hk).1 (H k hk).2
theorem xlay2 : ∀ k, k < 3 → xW (u_lay RX2 TX2 k) := by
  intro k hk
  have H : ∀ k, k < 3 → tables_1[([111, 113, 115] : List Nat).getD k 0]? = some (u_lay RX2 TX2 k) ∧ goodWord (u_lay RX2 TX2 k) = true := by decide +kernel
  exact xW_t _ (H k hk).1 (H k hk).2
theorem xlay3 : ∀ k, k < 3 → xW (u_lay RX3 TX3 k) := by
  intro k hk
  have H : ∀ k, k < 3 → tables_1[([179, 181, 183] : List Nat).getD k 0]? = some (u_lay RX3 TX3 k) ∧ goodWord (u_lay RX3 TX3 k) = true := by decide +kernel
  exact xW_t _ (H k hk).1 (H k hk).2
theorem xlay4 : ∀ k, k < 5 → xW (u_lay RX6 TX6 k) := by
  intro k hk
  have H : ∀ k, k < 5 → tables_1[([136, 138, 140, 142, 144] : List Nat).getD k 0]? = some (u_lay RX6 TX6 k) ∧ goodWord (u_lay RX6 TX6 k) = true := by decide +kernel
  exact xW_t _ (H k hk).1 (H k hk).2
theorem xlay5 : ∀ k, k < 7 → xW (u_lay RX7 TX7 k) := by
  intro k hk
  have H : ∀ k, k < 7 → tables_1[([84, 86, 88, 90, 92, 94, 96] : List Nat).getD k 0]? = some (u_lay RX7 TX7 k) ∧ goodWord (u_lay RX7 TX7 k) = true := by decide +kernel
  exact xW_t _ (H k hk).1 (H k hk).2
theorem xlay6 : ∀ k, k < 9 → xW (u_lay RX9 TX9 k) := by
  intro k hk
  have H : ∀ k, k < 9 → tables_1[([195, 197, 199, 201, 203, 205, 207, 209, 211] : List Nat).getD k 0]? = some (u_lay RX9 TX9 k) ∧ goodWord (u_lay RX9 TX9 k) = true := by decide +kernel
  exact xW_t _ (H k hk).1 (H k hk).2
theorem xlay7 : ∀ k, k < 23 → xW (u_lay RX10 TX10 k) := by
  intro k hk
  have H : ∀ k, k < 23 → tables_1[([704, 706, 708, 710, 712, 714, 716, 718, 720, 722, 724, 726, 728, 730, 732, 734, 736, 738, 740, 742, 744, 746, 748] : List Nat).getD k 0]? = some (u_lay RX10 TX10 k) ∧ goodWord (u_lay RX10 TX10 k) = true := by decide +kernel
  exact xW_t _ (H k hk).1 (H k hk).2
theorem xin_ok {ci : Nat} (h : ci < 8) : ∀ w ∈ u_ws (xC ci) (xTb ci) (xN ci), xW w := by
  intro w hw
  obtain ⟨k, hk, rfl⟩ := List.mem_map.mp hw
  have hk := List.mem_range.mp hk
  rcases (by omega : ci = 0 ∨ ci = 1 ∨ ci = 2 ∨ ci = 3 ∨ ci = 4 ∨ ci = 5 ∨ ci = 6 ∨ ci = 7) with rfl | rfl | rfl | rfl | rfl | rfl | rfl | rfl
  · exact xlay0 k hk
  · exact xlay1 k hk
  · exact xlay2 k hk
  · exact xlay3 k hk
  · exact xlay4 k hk
  · exact xlay5 k hk
  · exact xlay6 k hk
  · exact xlay7 k hk
/-- a field's link: class own's pool entry idx is field k of class ci -/
def xFl (own idx ci k : Nat) : Prop := xW (.fieldLink (xR own) idx (xTb ci k).1 (xTb ci k).2.1 (xTb ci k).2.2.1) ∧ k < xN ci ∧ ci < 8
def xOk (y : xM) : Prop := xW (.code (xnm y) (xcd y) (xml y) (xrt y)) ∧ plainName (xnm y).cls = true ∧ ((xnm y).cls ≠ "java/lang/invoke/MethodHandle" ∧ (xnm y).cls ≠ "java/lang/invoke/VarHandle") ∧ xW (.initialized (xnm y).cls) ∧ xR (xow y) = (xnm y).cls ∧ (parseMethodDescriptor (xnm y).desc).map (fun d => d.parameters.length) = some (xar y)
/-- an instance method of class ci by a virtual call -/
def xLv (own idx ci : Nat) (y : xM) : Prop := (xnm y).cls = xC ci ∧ ci < 8 ∧ xW (.methodLink (xR own) idx (xnm y)) ∧ xW (.instanceMethod (xnm y)) ∧ xW (.selects (xC ci) (xnm y) (xnm y))
def xLs (own idx : Nat) (y : xM) : Prop := xW (.methodLink (xR own) idx (xnm y)) ∧ xW (.static (xnm y))
def xLi (own idx : Nat) (y : xM) : Prop := xW (.methodLink (xR own) idx (xnm y)) ∧ xW (.instanceMethod (xnm y)) ∧ (xnm y).name = "<init>" ∧ xrt y = none
def xLn (own idx : Nat) (y : xM) : Prop := Cond.methodLinkNest (xR own) idx (xnm y) RX9 ∈ lw_tbl ∧ xW (.instanceMethod (xnm y)) ∧ (xnm y).name = "<init>" ∧ xrt y = none
def xCl (own idx ci : Nat) : Prop := xW (.classLink (xR own) idx (xC ci)) ∧ xW (.instantiable (xC ci) (xN ci)) ∧ xW (.initialized (xC ci)) ∧ ci < 8
def xK1 (own idx : Nat) (v : Int) : Prop := xW (.constant (xR own) idx (Int32.ofInt v)) ∧ xin v
def xK2 (own idx : Nat) (v : Int) : Prop := xW (.constantLong (xR own) idx (Int64.ofInt v)) ∧ xlin v
abbrev mJ6_bitCount_0f7a4 : xM := (yJ6_bitCount_0f7a4, cJ6_bitCount_0f7a4, 1, (some .int), 12, 0, 0, 1)
abbrev mJ9_min_7cf53 : xM := (yJ9_min_7cf53, cJ9_min_7cf53, 2, (some .int), 13, 0, 0, 2)
abbrev mX0_insertEdge : xM := (yX0_insertEdge, cX0_insertEdge, 4, none, 0, 0, 0, 2)
abbrev mX0_isPlaced : xM := (yX0_isPlaced, cX0_isPlaced, 2, (some .boolean), 0, 0, 0, 1)
abbrev mX0_joinBehind : xM := (yX0_joinBehind, cX0_joinBehind, 6, none, 0, 0, 0, 3)
abbrev mX0_placeChain : xM := (yX0_placeChain, cX0_placeChain, 6, (some .int), 0, 0, 0, 3)
abbrev mX10_blockCount : xM := (yX10_blockCount, cX10_blockCount, 1, (some .int), 10, 0, 0, 0)
abbrev mX10_bypassIn : xM := (yX10_bypassIn, cX10_bypassIn, 7, (some .int), 10, 0, 0, 2)
abbrev mX10_clearText : xM := (yX10_clearText, cX10_clearText, 2, (some .int), 10, 0, 0, 0)
abbrev mX10_copy : xM := (yX10_copy, cX10_copy, 3, none, 10, 0, 0, 2)
abbrev mX10_executionsOf : xM := (yX10_executionsOf, cX10_executionsOf, 6, (some .int), 10, 0, 0, 2)
abbrev mX10_hotCount : xM := (yX10_hotCount, cX10_hotCount, 1, (some .int), 10, 0, 0, 0)
abbrev mX10_in : xM := (yX10_in, cX10_in, 6, (some .boolean), 10, 0, 0, 3)
abbrev mX10_isLoopHead : xM := (yX10_isLoopHead, cX10_isLoopHead, 7, (some .boolean), 10, 0, 0, 2)
abbrev mX10_layChains : xM := (yX10_layChains, cX10_layChains, 7, none, 10, 0, 0, 0)
abbrev mX10_note : xM := (yX10_note, cX10_note, 2, none, 10, 0, 0, 0)
abbrev mX10_positionOf : xM := (yX10_positionOf, cX10_positionOf, 5, (some .int), 10, 0, 0, 2)
abbrev mX10_rotateIn : xM := (yX10_rotateIn, cX10_rotateIn, 5, none, 10, 0, 0, 3)
abbrev mX10_swapIn : xM := (yX10_swapIn, cX10_swapIn, 4, none, 10, 0, 0, 3)
abbrev mX10_tenThousands : xM := (yX10_tenThousands, cX10_tenThousands, 4, (some .long), 10, 0, 0, 1)
abbrev mX10_undo : xM := (yX10_undo, cX10_undo, 2, (some .int), 10, 0, 0, 0)
abbrev mX10_up : xM := (yX10_up, cX10_up, 2, (some .int), 10, 0, 0, 2)
abbrev mX10_weightOf : xM := (yX10_weightOf, cX10_weightOf, 7, (some .int), 10, 0, 0, 1)
abbrev mX1_hasBlock : xM := (yX1_hasBlock, cX1_hasBlock, 2, (some .boolean), 1, 0, 0, 1)
abbrev mX1_hasPosition : xM := (yX1_hasPosition, cX1_hasPosition, 2, (some .boolean), 1, 0, 0, 1)
abbrev mX2_forget : xM := (yX2_forget, cX2_forget, 1, none, 2, 0, 0, 0)
abbrev mX3_collectFreeBlocks : xM := (yX3_collectFreeBlocks, cX3_collectFreeBlocks, 3, none, 3, 0, 0, 1)
abbrev mX3_contains : xM := (yX3_contains, cX3_contains, 2, (some .boolean), 3, 0, 0, 2)
abbrev mX3_costThrough : xM := (yX3_costThrough, cX3_costThrough, 5, (some .int), 3, 0, 0, 3)
abbrev mX4_roundUp : xM := (yX4_roundUp, cX4_roundUp, 2, (some .int), 4, 0, 0, 2)
abbrev mX5_withoutLowest : xM := (yX5_withoutLowest, cX5_withoutLowest, 6, (some .long), 5, 0, 0, 2)
abbrev mX6_addSign : xM := (yX6_addSign, cX6_addSign, 2, (some .int), 6, 0, 0, 1)
abbrev mX6_digitHere : xM := (yX6_digitHere, cX6_digitHere, 4, (some .int), 6, 0, 0, 2)
abbrev mX6_dropSigns : xM := (yX6_dropSigns, cX6_dropSigns, 2, (some .int), 6, 0, 0, 0)
abbrev mX7_count : xM := (yX7_count, cX7_count, 3, (some .int), 7, 0, 0, 2)
abbrev mX7_exchange : xM := (yX7_exchange, cX7_exchange, 4, none, 7, 0, 0, 2)
abbrev mX7_followerAt : xM := (yX7_followerAt, cX7_followerAt, 3, (some .int), 7, 0, 0, 1)
abbrev mX7_layOutByNumber : xM := (yX7_layOutByNumber, cX7_layOutByNumber, 2, none, 7, 0, 0, 0)
abbrev mX7_leadsTo : xM := (yX7_leadsTo, cX7_leadsTo, 4, (some .boolean), 7, 0, 0, 2)
abbrev mX7_putCount : xM := (yX7_putCount, cX7_putCount, 4, none, 7, 0, 0, 3)
abbrev mX7_putTarget : xM := (yX7_putTarget, cX7_putTarget, 4, none, 7, 0, 0, 3)
abbrev mX7_refusalToDivide : xM := (yX7_refusalToDivide, cX7_refusalToDivide, 1, (some .int), 7, 0, 0, 1)
abbrev mX7_target : xM := (yX7_target, cX7_target, 3, (some .int), 7, 0, 0, 2)
abbrev mX7_turn : xM := (yX7_turn, cX7_turn, 5, none, 7, 0, 0, 2)
abbrev mX9_blockCount : xM := (yX9_blockCount, cX9_blockCount, 1, (some .int), 9, 0, 0, 0)
abbrev mX9_hotCount : xM := (yX9_hotCount, cX9_hotCount, 1, (some .int), 9, 0, 0, 0)
abbrev mX0_init : xM := (yX0_init, cX0_init, 1, none, 0, 1, 40, 0)
abbrev mX0_sortEdges : xM := (yX0_sortEdges, cX0_sortEdges, 4, none, 0, 1, 23, 1)
abbrev mX0_weightOf : xM := (yX0_weightOf, cX0_weightOf, 9, (some .int), 0, 1, 22, 2)
abbrev mX10_append : xM := (yX10_append, cX10_append, 2, (some .int), 10, 1, 25, 1)
abbrev mX10_figure : xM := (yX10_figure, cX10_figure, 4, (some .int), 10, 1, 25, 2)
abbrev mX10_followerOf : xM := (yX10_followerOf, cX10_followerOf, 5, (some .int), 10, 1, 24, 2)
abbrev mX10_init : xM := (yX10_init, cX10_init, 1, none, 10, 1, 40, 0)
abbrev mX10_isBlock : xM := (yX10_isBlock, cX10_isBlock, 2, (some .boolean), 10, 1, 25, 1)
abbrev mX10_layOrder : xM := (yX10_layOrder, cX10_layOrder, 9, none, 10, 1, 24, 2)
abbrev mX10_layRotated : xM := (yX10_layRotated, cX10_layRotated, 7, none, 10, 1, 22, 4)
abbrev mX10_restore : xM := (yX10_restore, cX10_restore, 3, (some .int), 10, 1, 25, 1)
abbrev mX10_save : xM := (yX10_save, cX10_save, 3, (some .int), 10, 1, 25, 1)
abbrev mX10_setAlignment : xM := (yX10_setAlignment, cX10_setAlignment, 3, (some .int), 10, 1, 21, 1)
abbrev mX10_splitIn : xM := (yX10_splitIn, cX10_splitIn, 9, (some .int), 10, 1, 25, 2)
abbrev mX1_copyFrom : xM := (yX1_copyFrom, cX1_copyFrom, 2, none, 1, 1, 40, 1)
abbrev mX1_init : xM := (yX1_init, cX1_init, 1, none, 1, 1, 40, 0)
abbrev mX3_cheapestNext : xM := (yX3_cheapestNext, cX3_cheapestNext, 8, (some .int), 3, 1, 24, 3)
abbrev mX3_init : xM := (yX3_init, cX3_init, 1, none, 3, 1, 40, 0)
abbrev mX4_isLoopHead : xM := (yX4_isLoopHead, cX4_isLoopHead, 3, (some .boolean), 4, 1, 23, 2)
abbrev mX5_isWellFormed : xM := (yX5_isWellFormed, cX5_isWellFormed, 3, (some .boolean), 5, 1, 25, 2)
abbrev mX6_readDigit : xM := (yX6_readDigit, cX6_readDigit, 4, (some .int), 6, 1, 23, 2)
abbrev mX7_branchBytesBefore : xM := (yX7_branchBytesBefore, cX7_branchBytesBefore, 5, (some .int), 7, 1, 22, 2)
abbrev mX7_copyFrom : xM := (yX7_copyFrom, cX7_copyFrom, 2, none, 7, 1, 40, 1)
abbrev mX7_followerOf : xM := (yX7_followerOf, cX7_followerOf, 3, (some .int), 7, 1, 22, 1)
abbrev mX7_hasEdge : xM := (yX7_hasEdge, cX7_hasEdge, 3, (some .boolean), 7, 1, 21, 2)
abbrev mX7_init : xM := (yX7_init, cX7_init, 2, none, 7, 1, 40, 1)
abbrev mX7_joinEqualEdges : xM := (yX7_joinEqualEdges, cX7_joinEqualEdges, 2, none, 7, 1, 23, 1)
abbrev mX7_passCost : xM := (yX7_passCost, cX7_passCost, 5, (some .int), 7, 1, 22, 3)
abbrev mX7_refusalToExchange : xM := (yX7_refusalToExchange, cX7_refusalToExchange, 3, (some .int), 7, 1, 21, 2)
abbrev mX7_refusalToGoAround : xM := (yX7_refusalToGoAround, cX7_refusalToGoAround, 3, (some .int), 7, 1, 22, 1)
abbrev mX7_refusalToTurn : xM := (yX7_refusalToTurn, cX7_refusalToTurn, 3, (some .int), 7, 1, 21, 2)
abbrev mX7_runsOf : xM := (yX7_runsOf, cX7_runsOf, 5, (some .int), 7, 1, 22, 1)
abbrev mX8_slotTaken : xM := (yX8_slotTaken, cX8_slotTaken, 4, (some .int), 8, 1, 22, 3)
abbrev mX9_append : xM := (yX9_append, cX9_append, 2, (some .int), 9, 1, 21, 1)
abbrev mX9_blockAt : xM := (yX9_blockAt, cX9_blockAt, 2, (some .int), 9, 1, 21, 1)
abbrev mX9_clearText : xM := (yX9_clearText, cX9_clearText, 1, (some .int), 9, 1, 21, 0)
abbrev mX9_size : xM := (yX9_size, cX9_size, 2, (some .int), 9, 1, 21, 1)
abbrev mX0_heaviestHead : xM := (yX0_heaviestHead, cX0_heaviestHead, 6, (some .int), 0, 2, 50, 1)
abbrev mX0_merge : xM := (yX0_merge, cX0_merge, 4, none, 0, 2, 46, 1)
abbrev mX10_branchBytesOf : xM := (yX10_branchBytesOf, cX10_branchBytesOf, 6, (some .int), 10, 2, 48, 2)
abbrev mX10_bypassError : xM := (yX10_bypassError, cX10_bypassError, 3, (some .int), 10, 2, 46, 2)
abbrev mX10_chainHead : xM := (yX10_chainHead, cX10_chainHead, 2, (some .int), 10, 2, 46, 1)
abbrev mX10_edgeCostOf : xM := (yX10_edgeCostOf, cX10_edgeCostOf, 6, (some .int), 10, 2, 48, 3)
abbrev mX10_executions : xM := (yX10_executions, cX10_executions, 2, (some .int), 10, 2, 46, 1)
abbrev mX10_isEdge : xM := (yX10_isEdge, cX10_isEdge, 3, (some .boolean), 10, 2, 46, 2)
abbrev mX10_isPosition : xM := (yX10_isPosition, cX10_isPosition, 2, (some .boolean), 10, 2, 46, 1)
abbrev mX10_size : xM := (yX10_size, cX10_size, 2, (some .int), 10, 2, 46, 1)
abbrev mX10_split : xM := (yX10_split, cX10_split, 2, (some .int), 10, 2, 53, 1)
abbrev mX10_twoFigures : xM := (yX10_twoFigures, cX10_twoFigures, 3, (some .int), 10, 2, 48, 0)
abbrev mX2_init : xM := (yX2_init, cX2_init, 3, none, 2, 2, 61, 1)
abbrev mX2_remember : xM := (yX2_remember, cX2_remember, 2, none, 2, 2, 61, 1)
abbrev mX2_takeBack : xM := (yX2_takeBack, cX2_takeBack, 2, (some .int), 2, 2, 61, 1)
abbrev mX3_fillSet : xM := (yX3_fillSet, cX3_fillSet, 6, none, 3, 2, 51, 2)
abbrev mX4_bytesAt : xM := (yX4_bytesAt, cX4_bytesAt, 3, (some .int), 4, 2, 46, 2)
abbrev mX4_startAt : xM := (yX4_startAt, cX4_startAt, 3, (some .int), 4, 2, 45, 3)
abbrev mX5_exchanged : xM := (yX5_exchanged, cX5_exchanged, 3, (some .boolean), 5, 2, 43, 3)
abbrev mX5_isFollowedBy : xM := (yX5_isFollowedBy, cX5_isFollowedBy, 3, (some .boolean), 5, 2, 44, 3)
abbrev mX5_turned : xM := (yX5_turned, cX5_turned, 3, (some .boolean), 5, 2, 43, 3)
abbrev mX6_init : xM := (yX6_init, cX6_init, 1, none, 6, 2, 61, 0)
abbrev mX6_readCount : xM := (yX6_readCount, cX6_readCount, 3, (some .int), 6, 2, 46, 0)
abbrev mX7_divide : xM := (yX7_divide, cX7_divide, 6, none, 7, 2, 46, 1)
abbrev mX7_goAround : xM := (yX7_goAround, cX7_goAround, 5, (some .int), 7, 2, 44, 1)
abbrev mX7_shareOfCost : xM := (yX7_shareOfCost, cX7_shareOfCost, 5, (some .int), 7, 2, 46, 2)
abbrev mX8_costOf : xM := (yX8_costOf, cX8_costOf, 10, (some .int), 8, 2, 46, 3)
abbrev mX9_branchBytes : xM := (yX9_branchBytes, cX9_branchBytes, 2, (some .int), 9, 2, 46, 1)
abbrev mX9_edgeCost : xM := (yX9_edgeCost, cX9_edgeCost, 3, (some .int), 9, 2, 46, 2)
abbrev mX9_edgeCount : xM := (yX9_edgeCount, cX9_edgeCount, 3, (some .int), 9, 2, 43, 2)
abbrev mX9_executions : xM := (yX9_executions, cX9_executions, 2, (some .int), 9, 2, 46, 1)
abbrev mX9_restore : xM := (yX9_restore, cX9_restore, 2, (some .int), 9, 2, 61, 1)
abbrev mX9_save : xM := (yX9_save, cX9_save, 2, (some .int), 9, 2, 61, 1)
abbrev mX9_successor : xM := (yX9_successor, cX9_successor, 3, (some .int), 9, 2, 43, 2)
abbrev mX0_arrange : xM := (yX0_arrange, cX0_arrange, 4, none, 0, 3, 75, 1)
abbrev mX10_addressOf : xM := (yX10_addressOf, cX10_addressOf, 7, (some .int), 10, 3, 73, 2)
abbrev mX10_blockAt : xM := (yX10_blockAt, cX10_blockAt, 2, (some .int), 10, 3, 67, 1)
abbrev mX10_branchBytes : xM := (yX10_branchBytes, cX10_branchBytes, 2, (some .int), 10, 3, 73, 1)
abbrev mX10_bypass : xM := (yX10_bypass, cX10_bypass, 3, (some .int), 10, 3, 68, 1)
abbrev mX10_costOf : xM := (yX10_costOf, cX10_costOf, 5, (some .int), 10, 3, 73, 1)
abbrev mX10_edgeCost : xM := (yX10_edgeCost, cX10_edgeCost, 3, (some .int), 10, 3, 73, 2)
abbrev mX10_edgeCount : xM := (yX10_edgeCount, cX10_edgeCount, 3, (some .int), 10, 3, 68, 2)
abbrev mX10_execute : xM := (yX10_execute, cX10_execute, 14, (some .int), 10, 3, 73, 2)
abbrev mX10_rangeError : xM := (yX10_rangeError, cX10_rangeError, 4, (some .int), 10, 3, 67, 3)
abbrev mX10_readSuccessor : xM := (yX10_readSuccessor, cX10_readSuccessor, 5, (some .boolean), 10, 3, 70, 2)
abbrev mX10_setCount : xM := (yX10_setCount, cX10_setCount, 5, (some .int), 10, 3, 68, 3)
abbrev mX10_successor : xM := (yX10_successor, cX10_successor, 3, (some .int), 10, 3, 68, 2)
abbrev mX10_swapError : xM := (yX10_swapError, cX10_swapError, 3, (some .int), 10, 3, 67, 2)
abbrev mX3_coldCost : xM := (yX3_coldCost, cX3_coldCost, 3, (some .int), 3, 3, 70, 1)
abbrev mX3_fillShares : xM := (yX3_fillShares, cX3_fillShares, 5, none, 3, 3, 70, 1)
abbrev mX4_endOfCode : xM := (yX4_endOfCode, cX4_endOfCode, 3, (some .int), 4, 3, 68, 1)
abbrev mX4_startOf : xM := (yX4_startOf, cX4_startOf, 5, (some .int), 4, 3, 68, 2)
abbrev mX5_divided : xM := (yX5_divided, cX5_divided, 2, (some .boolean), 5, 3, 71, 2)
abbrev mX5_wentAround : xM := (yX5_wentAround, cX5_wentAround, 2, (some .boolean), 5, 3, 68, 2)
abbrev mX6_readEdge : xM := (yX6_readEdge, cX6_readEdge, 5, (some .boolean), 6, 3, 68, 2)
abbrev mX6_readHead : xM := (yX6_readHead, cX6_readHead, 3, (some .boolean), 6, 3, 68, 0)
abbrev mX7_totalCost : xM := (yX7_totalCost, cX7_totalCost, 3, (some .int), 7, 3, 70, 0)
abbrev mX9_bypass : xM := (yX9_bypass, cX9_bypass, 3, (some .int), 9, 3, 82, 1)
abbrev mX9_chainHead : xM := (yX9_chainHead, cX9_chainHead, 2, (some .int), 9, 3, 69, 1)
abbrev mX9_execute : xM := (yX9_execute, cX9_execute, 4, (some .int), 9, 3, 75, 2)
abbrev mX9_init : xM := (yX9_init, cX9_init, 2, none, 9, 3, 83, 0)
abbrev mX9_setAlignment : xM := (yX9_setAlignment, cX9_setAlignment, 3, (some .int), 9, 3, 82, 1)
abbrev mX9_setCount : xM := (yX9_setCount, cX9_setCount, 5, (some .int), 9, 3, 82, 3)
abbrev mX9_split : xM := (yX9_split, cX9_split, 3, (some .int), 9, 3, 82, 1)
abbrev mX9_undo : xM := (yX9_undo, cX9_undo, 1, (some .int), 9, 3, 82, 0)
abbrev mX10_address : xM := (yX10_address, cX10_address, 2, (some .int), 10, 4, 99, 1)
abbrev mX10_bestRotation : xM := (yX10_bestRotation, cX10_bestRotation, 8, (some .int), 10, 4, 97, 2)
abbrev mX10_codeSize : xM := (yX10_codeSize, cX10_codeSize, 2, (some .int), 10, 4, 99, 0)
abbrev mX10_command : xM := (yX10_command, cX10_command, 5, (some .boolean), 10, 4, 99, 4)
abbrev mX10_cost : xM := (yX10_cost, cX10_cost, 1, (some .int), 10, 4, 97, 0)
abbrev mX10_findOptimal : xM := (yX10_findOptimal, cX10_findOptimal, 5, (some .int), 10, 4, 97, 0)
abbrev mX10_orderByChains : xM := (yX10_orderByChains, cX10_orderByChains, 5, (some .int), 10, 4, 97, 0)
abbrev mX10_readBlock : xM := (yX10_readBlock, cX10_readBlock, 5, (some .boolean), 10, 4, 94, 1)
abbrev mX10_rotate : xM := (yX10_rotate, cX10_rotate, 4, (some .int), 10, 4, 97, 2)
abbrev mX10_swap : xM := (yX10_swap, cX10_swap, 4, (some .int), 10, 4, 97, 2)
abbrev mX3_leastCost : xM := (yX3_leastCost, cX3_leastCost, 3, (some .int), 3, 4, 94, 1)
abbrev mX5_succeeds : xM := (yX5_succeeds, cX5_succeeds, 5, (some .boolean), 5, 4, 92, 2)
abbrev mX6_readBlock : xM := (yX6_readBlock, cX6_readBlock, 5, (some .boolean), 6, 4, 92, 1)
abbrev mX9_address : xM := (yX9_address, cX9_address, 2, (some .int), 9, 4, 92, 1)
abbrev mX9_bestRotation : xM := (yX9_bestRotation, cX9_bestRotation, 8, (some .int), 9, 4, 92, 2)
abbrev mX9_codeSize : xM := (yX9_codeSize, cX9_codeSize, 1, (some .int), 9, 4, 90, 0)
abbrev mX9_cost : xM := (yX9_cost, cX9_cost, 1, (some .int), 9, 4, 92, 0)
abbrev mX9_orderByChains : xM := (yX9_orderByChains, cX9_orderByChains, 1, (some .int), 9, 4, 98, 0)
abbrev mX9_rotate : xM := (yX9_rotate, cX9_rotate, 4, (some .int), 9, 4, 92, 2)
abbrev mX9_swap : xM := (yX9_swap, cX9_swap, 4, (some .int), 9, 4, 92, 2)
abbrev mX10_optimalCost : xM := (yX10_optimalCost, cX10_optimalCost, 1, (some .int), 10, 5, 121, 0)
abbrev mX10_orderOptimally : xM := (yX10_orderOptimally, cX10_orderOptimally, 2, (some .int), 10, 5, 121, 0)
abbrev mX10_readText : xM := (yX10_readText, cX10_readText, 2, (some .int), 10, 5, 118, 0)
abbrev mX10_runScript : xM := (yX10_runScript, cX10_runScript, 6, (some .int), 10, 5, 123, 2)
abbrev mX3_arrange : xM := (yX3_arrange, cX3_arrange, 6, none, 3, 5, 116, 1)
abbrev mX5_firstFailure : xM := (yX5_firstFailure, cX5_firstFailure, 6, (some .int), 5, 5, 116, 3)
abbrev mX6_readBlocks : xM := (yX6_readBlocks, cX6_readBlocks, 2, (some .boolean), 6, 5, 116, 0)
abbrev mX9_optimalCost : xM := (yX9_optimalCost, cX9_optimalCost, 1, (some .int), 9, 5, 116, 0)
abbrev mX10_errorPosition : xM := (yX10_errorPosition, cX10_errorPosition, 1, (some .int), 10, 6, 139, 0)
abbrev mX10_load : xM := (yX10_load, cX10_load, 2, (some .int), 10, 6, 139, 0)
abbrev mX6_read : xM := (yX6_read, cX6_read, 2, (some .int), 6, 6, 137, 0)
abbrev mX9_orderOptimally : xM := (yX9_orderOptimally, cX9_orderOptimally, 1, (some .int), 9, 6, 141, 0)
abbrev mX9_runScript : xM := (yX9_runScript, cX9_runScript, 4, (some .int), 9, 6, 141, 2)
abbrev mX9_errorPosition : xM := (yX9_errorPosition, cX9_errorPosition, 1, (some .int), 9, 7, 158, 0)
abbrev mX9_load : xM := (yX9_load, cX9_load, 2, (some .int), 9, 7, 158, 0)
abbrev mL_law : xM := (yL_law, cL_law, 4, (some .boolean), 11, 8, 179, 1)
theorem ok_J6_bitCount_0f7a4 : xOk mJ6_bitCount_0f7a4 := ⟨xW_t 594 (by decide +kernel) (by decide +kernel), (by decide +kernel), ⟨(by decide +kernel), (by decide +kernel)⟩, (xW_t 12 (by decide +kernel) (by decide +kernel)), rfl, (by decide +kernel)⟩
theorem ok_X0_insertEdge : xOk mX0_insertEdge := ⟨xW_t 442 (by decide +kernel) (by decide +kernel), (by decide +kernel), ⟨(by decide +kernel), (by decide +kernel)⟩, (xW_t 6 (by decide +kernel) (by decide +kernel)), rfl, (by decide +kernel)⟩
theorem ok_X0_isPlaced : xOk mX0_isPlaced := ⟨xW_t 521 (by decide +kernel) (by decide +kernel), (by decide +kernel), ⟨(by decide +kernel), (by decide +kernel)⟩, (xW_t 6 (by decide +kernel) (by decide +kernel)), rfl, (by decide +kernel)⟩
theorem ok_X0_joinBehind : xOk mX0_joinBehind := ⟨xW_t 446 (by decide +kernel) (by decide +kernel), (by decide +kernel), ⟨(by decide +kernel), (by decide +kernel)⟩, (xW_t 6 (by decide +kernel) (by decide +kernel)), rfl, (by decide +kernel)⟩
theorem ok_X0_placeChain : xOk mX0_placeChain := ⟨xW_t 513 (by decide +kernel) (by decide +kernel), (by decide +kernel), ⟨(by decide +kernel), (by decide +kernel)⟩, (xW_t 6 (by decide +kernel) (by decide +kernel)), rfl, (by decide +kernel)⟩
theorem ok_X10_blockCount : xOk mX10_blockCount := ⟨xW_t 797 (by decide +kernel) (by decide +kernel), (by decide +kernel), ⟨(by decide +kernel), (by decide +kernel)⟩, (xW_t 8 (by decide +kernel) (by decide +kernel)), rfl, (by decide +kernel)⟩
theorem ok_X10_bypassIn : xOk mX10_bypassIn := ⟨xW_t 975 (by decide +kernel) (by decide +kernel), (by decide +kernel), ⟨(by decide +kernel), (by decide +kernel)⟩, (xW_t 8 (by decide +kernel) (by decide +kernel)), rfl, (by decide +kernel)⟩
theorem ok_X10_clearText : xOk mX10_clearText := ⟨xW_t 762 (by decide +kernel) (by decide +kernel), (by decide +kernel), ⟨(by decide +kernel), (by decide +kernel)⟩, (xW_t 8 (by decide +kernel) (by decide +kernel)), rfl, (by decide +kernel)⟩
theorem ok_X10_copy : xOk mX10_copy := ⟨xW_t 793 (by decide +kernel) (by decide +kernel), (by decide +kernel), ⟨(by decide +kernel), (by decide +kernel)⟩, (xW_t 8 (by decide +kernel) (by decide +kernel)), rfl, (by decide +kernel)⟩
theorem ok_X10_executionsOf : xOk mX10_executionsOf := ⟨xW_t 825 (by decide +kernel) (by decide +kernel), (by decide +kernel), ⟨(by decide +kernel), (by decide +kernel)⟩, (xW_t 8 (by decide +kernel) (by decide +kernel)), rfl, (by decide +kernel)⟩
theorem ok_X10_hotCount : xOk mX10_hotCount := ⟨xW_t 837 (by decide +kernel) (by decide +kernel), (by decide +kernel), ⟨(by decide +kernel), (by decide +kernel)⟩, (xW_t 8 (by decide +kernel) (by decide +kernel)), rfl, (by decide +kernel)⟩
theorem ok_X10_in : xOk mX10_in := ⟨xW_t 758 (by decide +kernel) (by decide +kernel), (by decide +kernel), ⟨(by decide +kernel), (by decide +kernel)⟩, (xW_t 8 (by decide +kernel) (by decide +kernel)), rfl, (by decide +kernel)⟩
theorem ok_X10_isLoopHead : xOk mX10_isLoopHead := ⟨xW_t 869 (by decide +kernel) (by decide +kernel), (by decide +kernel), ⟨(by decide +kernel), (by decide +kernel)⟩, (xW_t 8 (by decide +kernel) (by decide +kernel)), rfl, (by decide +kernel)⟩
theorem ok_X10_layChains : xOk mX10_layChains := ⟨xW_t 896 (by decide +kernel) (by decide +kernel), (by decide +kernel), ⟨(by decide +kernel), (by decide +kernel)⟩, (xW_t 8 (by decide +kernel) (by decide +kernel)), rfl, (by decide +kernel)⟩
theorem ok_X10_note : xOk mX10_note := ⟨xW_t 904 (by decide +kernel) (by decide +kernel), (by decide +kernel), ⟨(by decide +kernel), (by decide +kernel)⟩, (xW_t 8 (by decide +kernel) (by decide +kernel)), rfl, (by decide +kernel)⟩
theorem ok_X10_positionOf : xOk mX10_positionOf := ⟨xW_t 857 (by decide +kernel) (by decide +kernel), (by decide +kernel), ⟨(by decide +kernel), (by decide +kernel)⟩, (xW_t 8 (by decide +kernel) (by decide +kernel)), rfl, (by decide +kernel)⟩
theorem ok_X10_rotateIn : xOk mX10_rotateIn := ⟨xW_t 954 (by decide +kernel) (by decide +kernel), (by decide +kernel), ⟨(by decide +kernel), (by decide +kernel)⟩, (xW_t 8 (by decide +kernel) (by decide +kernel)), rfl, (by decide +kernel)⟩
theorem ok_X10_swapIn : xOk mX10_swapIn := ⟨xW_t 947 (by decide +kernel) (by decide +kernel), (by decide +kernel), ⟨(by decide +kernel), (by decide +kernel)⟩, (xW_t 8 (by decide +kernel) (by decide +kernel)), rfl, (by decide +kernel)⟩
theorem ok_X10_tenThousands : xOk mX10_tenThousands := ⟨xW_t 995 (by decide +kernel) (by decide +kernel), (by decide +kernel), ⟨(by decide +kernel), (by decide +kernel)⟩, (xW_t 8 (by decide +kernel) (by decide +kernel)), rfl, (by decide +kernel)⟩
theorem ok_X10_undo : xOk mX10_undo := ⟨xW_t 987 (by decide +kernel) (by decide +kernel), (by decide +kernel), ⟨(by decide +kernel), (by decide +kernel)⟩, (xW_t 8 (by decide +kernel) (by decide +kernel)), rfl, (by decide +kernel)⟩
theorem ok_X10_up : xOk mX10_up := ⟨xW_t 872 (by decide +kernel) (by decide +kernel), (by decide +kernel), ⟨(by decide +kernel), (by decide +kernel)⟩, (xW_t 8 (by decide +kernel) (by decide +kernel)), rfl, (by decide +kernel)⟩
theorem ok_X10_weightOf : xOk mX10_weightOf := ⟨xW_t 908 (by decide +kernel) (by decide +kernel), (by decide +kernel), ⟨(by decide +kernel), (by decide +kernel)⟩, (xW_t 8 (by decide +kernel) (by decide +kernel)), rfl, (by decide +kernel)⟩
theorem ok_X1_hasBlock : xOk mX1_hasBlock := ⟨xW_t 316 (by decide +kernel) (by decide +kernel), (by decide +kernel), ⟨(by decide +kernel), (by decide +kernel)⟩, (xW_t 2 (by decide +kernel) (by decide +kernel)), rfl, (by decide +kernel)⟩
theorem ok_X1_hasPosition : xOk mX1_hasPosition := ⟨xW_t 352 (by decide +kernel) (by decide +kernel), (by decide +kernel), ⟨(by decide +kernel), (by decide +kernel)⟩, (xW_t 2 (by decide +kernel) (by decide +kernel)), rfl, (by decide +kernel)⟩
theorem ok_X2_forget : xOk mX2_forget := ⟨xW_t 304 (by decide +kernel) (by decide +kernel), (by decide +kernel), ⟨(by decide +kernel), (by decide +kernel)⟩, (xW_t 4 (by decide +kernel) (by decide +kernel)), rfl, (by decide +kernel)⟩
theorem ok_X3_collectFreeBlocks : xOk mX3_collectFreeBlocks := ⟨xW_t 463 (by decide +kernel) (by decide +kernel), (by decide +kernel), ⟨(by decide +kernel), (by decide +kernel)⟩, (xW_t 7 (by decide +kernel) (by decide +kernel)), rfl, (by decide +kernel)⟩
theorem ok_X3_contains : xOk mX3_contains := ⟨xW_t 470 (by decide +kernel) (by decide +kernel), (by decide +kernel), ⟨(by decide +kernel), (by decide +kernel)⟩, (xW_t 7 (by decide +kernel) (by decide +kernel)), rfl, (by decide +kernel)⟩
theorem ok_X3_costThrough : xOk mX3_costThrough := ⟨xW_t 479 (by decide +kernel) (by decide +kernel), (by decide +kernel), ⟨(by decide +kernel), (by decide +kernel)⟩, (xW_t 7 (by decide +kernel) (by decide +kernel)), rfl, (by decide +kernel)⟩
theorem ok_X4_roundUp : xOk mX4_roundUp := ⟨xW_t 389 (by decide +kernel) (by decide +kernel), (by decide +kernel), ⟨(by decide +kernel), (by decide +kernel)⟩, (xW_t 11 (by decide +kernel) (by decide +kernel)), rfl, (by decide +kernel)⟩
theorem ok_X5_withoutLowest : xOk mX5_withoutLowest := ⟨xW_t 615 (by decide +kernel) (by decide +kernel), (by decide +kernel), ⟨(by decide +kernel), (by decide +kernel)⟩, (xW_t 13 (by decide +kernel) (by decide +kernel)), rfl, (by decide +kernel)⟩
theorem ok_X6_addSign : xOk mX6_addSign := ⟨xW_t 221 (by decide +kernel) (by decide +kernel), (by decide +kernel), ⟨(by decide +kernel), (by decide +kernel)⟩, (xW_t 5 (by decide +kernel) (by decide +kernel)), rfl, (by decide +kernel)⟩
theorem ok_X6_digitHere : xOk mX6_digitHere := ⟨xW_t 249 (by decide +kernel) (by decide +kernel), (by decide +kernel), ⟨(by decide +kernel), (by decide +kernel)⟩, (xW_t 5 (by decide +kernel) (by decide +kernel)), rfl, (by decide +kernel)⟩
theorem ok_X6_dropSigns : xOk mX6_dropSigns := ⟨xW_t 229 (by decide +kernel) (by decide +kernel), (by decide +kernel), ⟨(by decide +kernel), (by decide +kernel)⟩, (xW_t 5 (by decide +kernel) (by decide +kernel)), rfl, (by decide +kernel)⟩
theorem ok_X7_count : xOk mX7_count := ⟨xW_t 334 (by decide +kernel) (by decide +kernel), (by decide +kernel), ⟨(by decide +kernel), (by decide +kernel)⟩, (xW_t 3 (by decide +kernel) (by decide +kernel)), rfl, (by decide +kernel)⟩
theorem ok_X7_exchange : xOk mX7_exchange := ⟨xW_t 547 (by decide +kernel) (by decide +kernel), (by decide +kernel), ⟨(by decide +kernel), (by decide +kernel)⟩, (xW_t 3 (by decide +kernel) (by decide +kernel)), rfl, (by decide +kernel)⟩
theorem ok_X7_followerAt : xOk mX7_followerAt := ⟨xW_t 368 (by decide +kernel) (by decide +kernel), (by decide +kernel), ⟨(by decide +kernel), (by decide +kernel)⟩, (xW_t 3 (by decide +kernel) (by decide +kernel)), rfl, (by decide +kernel)⟩
theorem ok_X7_layOutByNumber : xOk mX7_layOutByNumber := ⟨xW_t 257 (by decide +kernel) (by decide +kernel), (by decide +kernel), ⟨(by decide +kernel), (by decide +kernel)⟩, (xW_t 3 (by decide +kernel) (by decide +kernel)), rfl, (by decide +kernel)⟩
theorem ok_X7_leadsTo : xOk mX7_leadsTo := ⟨xW_t 396 (by decide +kernel) (by decide +kernel), (by decide +kernel), ⟨(by decide +kernel), (by decide +kernel)⟩, (xW_t 3 (by decide +kernel) (by decide +kernel)), rfl, (by decide +kernel)⟩
theorem ok_X7_putCount : xOk mX7_putCount := ⟨xW_t 284 (by decide +kernel) (by decide +kernel), (by decide +kernel), ⟨(by decide +kernel), (by decide +kernel)⟩, (xW_t 3 (by decide +kernel) (by decide +kernel)), rfl, (by decide +kernel)⟩
theorem ok_X7_putTarget : xOk mX7_putTarget := ⟨xW_t 280 (by decide +kernel) (by decide +kernel), (by decide +kernel), ⟨(by decide +kernel), (by decide +kernel)⟩, (xW_t 3 (by decide +kernel) (by decide +kernel)), rfl, (by decide +kernel)⟩
theorem ok_X7_refusalToDivide : xOk mX7_refusalToDivide := ⟨xW_t 558 (by decide +kernel) (by decide +kernel), (by decide +kernel), ⟨(by decide +kernel), (by decide +kernel)⟩, (xW_t 3 (by decide +kernel) (by decide +kernel)), rfl, (by decide +kernel)⟩
theorem ok_X7_target : xOk mX7_target := ⟨xW_t 276 (by decide +kernel) (by decide +kernel), (by decide +kernel), ⟨(by decide +kernel), (by decide +kernel)⟩, (xW_t 3 (by decide +kernel) (by decide +kernel)), rfl, (by decide +kernel)⟩
theorem ok_X7_turn : xOk mX7_turn := ⟨xW_t 496 (by decide +kernel) (by decide +kernel), (by decide +kernel), ⟨(by decide +kernel), (by decide +kernel)⟩, (xW_t 3 (by decide +kernel) (by decide +kernel)), rfl, (by decide +kernel)⟩
theorem ok_X9_blockCount : xOk mX9_blockCount := ⟨xW_t 308 (by decide +kernel) (by decide +kernel), (by decide +kernel), ⟨(by decide +kernel), (by decide +kernel)⟩, (xW_t 1 (by decide +kernel) (by decide +kernel)), rfl, (by decide +kernel)⟩
theorem ok_X9_hotCount : xOk mX9_hotCount := ⟨xW_t 356 (by decide +kernel) (by decide +kernel), (by decide +kernel), ⟨(by decide +kernel), (by decide +kernel)⟩, (xW_t 1 (by decide +kernel) (by decide +kernel)), rfl, (by decide +kernel)⟩
theorem ok_X0_init : xOk mX0_init := ⟨xW_t 151 (by decide +kernel) (by decide +kernel), (by decide +kernel), ⟨(by decide +kernel), (by decide +kernel)⟩, (xW_t 6 (by decide +kernel) (by decide +kernel)), rfl, (by decide +kernel)⟩
theorem ok_X0_sortEdges : xOk mX0_sortEdges := ⟨xW_t 437 (by decide +kernel) (by decide +kernel), (by decide +kernel), ⟨(by decide +kernel), (by decide +kernel)⟩, (xW_t 6 (by decide +kernel) (by decide +kernel)), rfl, (by decide +kernel)⟩
theorem ok_X0_weightOf : xOk mX0_weightOf := ⟨xW_t 525 (by decide +kernel) (by decide +kernel), (by decide +kernel), ⟨(by decide +kernel), (by decide +kernel)⟩, (xW_t 6 (by decide +kernel) (by decide +kernel)), rfl, (by decide +kernel)⟩
theorem ok_X10_append : xOk mX10_append := ⟨xW_t 754 (by decide +kernel) (by decide +kernel), (by decide +kernel), ⟨(by decide +kernel), (by decide +kernel)⟩, (xW_t 8 (by decide +kernel) (by decide +kernel)), rfl, (by decide +kernel)⟩
theorem ok_X10_figure : xOk mX10_figure := ⟨xW_t 774 (by decide +kernel) (by decide +kernel), (by decide +kernel), ⟨(by decide +kernel), (by decide +kernel)⟩, (xW_t 8 (by decide +kernel) (by decide +kernel)), rfl, (by decide +kernel)⟩
theorem ok_X10_followerOf : xOk mX10_followerOf := ⟨xW_t 853 (by decide +kernel) (by decide +kernel), (by decide +kernel), ⟨(by decide +kernel), (by decide +kernel)⟩, (xW_t 8 (by decide +kernel) (by decide +kernel)), rfl, (by decide +kernel)⟩
theorem ok_X10_init : xOk mX10_init := ⟨xW_t 679 (by decide +kernel) (by decide +kernel), (by decide +kernel), ⟨(by decide +kernel), (by decide +kernel)⟩, (xW_t 8 (by decide +kernel) (by decide +kernel)), rfl, (by decide +kernel)⟩
theorem ok_X10_isBlock : xOk mX10_isBlock := ⟨xW_t 805 (by decide +kernel) (by decide +kernel), (by decide +kernel), ⟨(by decide +kernel), (by decide +kernel)⟩, (xW_t 8 (by decide +kernel) (by decide +kernel)), rfl, (by decide +kernel)⟩
theorem ok_X10_layOrder : xOk mX10_layOrder := ⟨xW_t 920 (by decide +kernel) (by decide +kernel), (by decide +kernel), ⟨(by decide +kernel), (by decide +kernel)⟩, (xW_t 8 (by decide +kernel) (by decide +kernel)), rfl, (by decide +kernel)⟩
theorem ok_X10_layRotated : xOk mX10_layRotated := ⟨xW_t 936 (by decide +kernel) (by decide +kernel), (by decide +kernel), ⟨(by decide +kernel), (by decide +kernel)⟩, (xW_t 8 (by decide +kernel) (by decide +kernel)), rfl, (by decide +kernel)⟩
theorem ok_X10_restore : xOk mX10_restore := ⟨xW_t 1014 (by decide +kernel) (by decide +kernel), (by decide +kernel), ⟨(by decide +kernel), (by decide +kernel)⟩, (xW_t 8 (by decide +kernel) (by decide +kernel)), rfl, (by decide +kernel)⟩
theorem ok_X10_save : xOk mX10_save := ⟨xW_t 1010 (by decide +kernel) (by decide +kernel), (by decide +kernel), ⟨(by decide +kernel), (by decide +kernel)⟩, (xW_t 8 (by decide +kernel) (by decide +kernel)), rfl, (by decide +kernel)⟩
theorem ok_X10_setAlignment : xOk mX10_setAlignment := ⟨xW_t 983 (by decide +kernel) (by decide +kernel), (by decide +kernel), ⟨(by decide +kernel), (by decide +kernel)⟩, (xW_t 8 (by decide +kernel) (by decide +kernel)), rfl, (by decide +kernel)⟩
theorem ok_X10_splitIn : xOk mX10_splitIn := ⟨xW_t 963 (by decide +kernel) (by decide +kernel), (by decide +kernel), ⟨(by decide +kernel), (by decide +kernel)⟩, (xW_t 8 (by decide +kernel) (by decide +kernel)), rfl, (by decide +kernel)⟩
theorem ok_X1_copyFrom : xOk mX1_copyFrom := ⟨xW_t 292 (by decide +kernel) (by decide +kernel), (by decide +kernel), ⟨(by decide +kernel), (by decide +kernel)⟩, (xW_t 2 (by decide +kernel) (by decide +kernel)), rfl, (by decide +kernel)⟩
theorem ok_X1_init : xOk mX1_init := ⟨xW_t 27 (by decide +kernel) (by decide +kernel), (by decide +kernel), ⟨(by decide +kernel), (by decide +kernel)⟩, (xW_t 2 (by decide +kernel) (by decide +kernel)), rfl, (by decide +kernel)⟩
theorem ok_X3_cheapestNext : xOk mX3_cheapestNext := ⟨xW_t 474 (by decide +kernel) (by decide +kernel), (by decide +kernel), ⟨(by decide +kernel), (by decide +kernel)⟩, (xW_t 7 (by decide +kernel) (by decide +kernel)), rfl, (by decide +kernel)⟩
theorem ok_X3_init : xOk mX3_init := ⟨xW_t 174 (by decide +kernel) (by decide +kernel), (by decide +kernel), ⟨(by decide +kernel), (by decide +kernel)⟩, (xW_t 7 (by decide +kernel) (by decide +kernel)), rfl, (by decide +kernel)⟩
theorem ok_X4_isLoopHead : xOk mX4_isLoopHead := ⟨xW_t 392 (by decide +kernel) (by decide +kernel), (by decide +kernel), ⟨(by decide +kernel), (by decide +kernel)⟩, (xW_t 11 (by decide +kernel) (by decide +kernel)), rfl, (by decide +kernel)⟩
theorem ok_X5_isWellFormed : xOk mX5_isWellFormed := ⟨xW_t 612 (by decide +kernel) (by decide +kernel), (by decide +kernel), ⟨(by decide +kernel), (by decide +kernel)⟩, (xW_t 13 (by decide +kernel) (by decide +kernel)), rfl, (by decide +kernel)⟩
theorem ok_X6_readDigit : xOk mX6_readDigit := ⟨xW_t 245 (by decide +kernel) (by decide +kernel), (by decide +kernel), ⟨(by decide +kernel), (by decide +kernel)⟩, (xW_t 5 (by decide +kernel) (by decide +kernel)), rfl, (by decide +kernel)⟩
theorem ok_X7_branchBytesBefore : xOk mX7_branchBytesBefore := ⟨xW_t 404 (by decide +kernel) (by decide +kernel), (by decide +kernel), ⟨(by decide +kernel), (by decide +kernel)⟩, (xW_t 3 (by decide +kernel) (by decide +kernel)), rfl, (by decide +kernel)⟩
theorem ok_X7_copyFrom : xOk mX7_copyFrom := ⟨xW_t 299 (by decide +kernel) (by decide +kernel), (by decide +kernel), ⟨(by decide +kernel), (by decide +kernel)⟩, (xW_t 3 (by decide +kernel) (by decide +kernel)), rfl, (by decide +kernel)⟩
theorem ok_X7_followerOf : xOk mX7_followerOf := ⟨xW_t 419 (by decide +kernel) (by decide +kernel), (by decide +kernel), ⟨(by decide +kernel), (by decide +kernel)⟩, (xW_t 3 (by decide +kernel) (by decide +kernel)), rfl, (by decide +kernel)⟩
theorem ok_X7_hasEdge : xOk mX7_hasEdge := ⟨xW_t 324 (by decide +kernel) (by decide +kernel), (by decide +kernel), ⟨(by decide +kernel), (by decide +kernel)⟩, (xW_t 3 (by decide +kernel) (by decide +kernel)), rfl, (by decide +kernel)⟩
theorem ok_X7_init : xOk mX7_init := ⟨xW_t 56 (by decide +kernel) (by decide +kernel), (by decide +kernel), ⟨(by decide +kernel), (by decide +kernel)⟩, (xW_t 3 (by decide +kernel) (by decide +kernel)), rfl, (by decide +kernel)⟩
theorem ok_X7_joinEqualEdges : xOk mX7_joinEqualEdges := ⟨xW_t 580 (by decide +kernel) (by decide +kernel), (by decide +kernel), ⟨(by decide +kernel), (by decide +kernel)⟩, (xW_t 3 (by decide +kernel) (by decide +kernel)), rfl, (by decide +kernel)⟩
theorem ok_X7_passCost : xOk mX7_passCost := ⟨xW_t 376 (by decide +kernel) (by decide +kernel), (by decide +kernel), ⟨(by decide +kernel), (by decide +kernel)⟩, (xW_t 3 (by decide +kernel) (by decide +kernel)), rfl, (by decide +kernel)⟩
theorem ok_X7_refusalToExchange : xOk mX7_refusalToExchange := ⟨xW_t 543 (by decide +kernel) (by decide +kernel), (by decide +kernel), ⟨(by decide +kernel), (by decide +kernel)⟩, (xW_t 3 (by decide +kernel) (by decide +kernel)), rfl, (by decide +kernel)⟩
theorem ok_X7_refusalToGoAround : xOk mX7_refusalToGoAround := ⟨xW_t 571 (by decide +kernel) (by decide +kernel), (by decide +kernel), ⟨(by decide +kernel), (by decide +kernel)⟩, (xW_t 3 (by decide +kernel) (by decide +kernel)), rfl, (by decide +kernel)⟩
theorem ok_X7_refusalToTurn : xOk mX7_refusalToTurn := ⟨xW_t 491 (by decide +kernel) (by decide +kernel), (by decide +kernel), ⟨(by decide +kernel), (by decide +kernel)⟩, (xW_t 3 (by decide +kernel) (by decide +kernel)), rfl, (by decide +kernel)⟩
theorem ok_X7_runsOf : xOk mX7_runsOf := ⟨xW_t 342 (by decide +kernel) (by decide +kernel), (by decide +kernel), ⟨(by decide +kernel), (by decide +kernel)⟩, (xW_t 3 (by decide +kernel) (by decide +kernel)), rfl, (by decide +kernel)⟩
theorem ok_X8_slotTaken : xOk mX8_slotTaken := ⟨xW_t 662 (by decide +kernel) (by decide +kernel), (by decide +kernel), ⟨(by decide +kernel), (by decide +kernel)⟩, (xW_t 14 (by decide +kernel) (by decide +kernel)), rfl, (by decide +kernel)⟩
theorem ok_X9_append : xOk mX9_append := ⟨xW_t 217 (by decide +kernel) (by decide +kernel), (by decide +kernel), ⟨(by decide +kernel), (by decide +kernel)⟩, (xW_t 1 (by decide +kernel) (by decide +kernel)), rfl, (by decide +kernel)⟩
theorem ok_X9_blockAt : xOk mX9_blockAt := ⟨xW_t 348 (by decide +kernel) (by decide +kernel), (by decide +kernel), ⟨(by decide +kernel), (by decide +kernel)⟩, (xW_t 1 (by decide +kernel) (by decide +kernel)), rfl, (by decide +kernel)⟩
theorem ok_X9_clearText : xOk mX9_clearText := ⟨xW_t 225 (by decide +kernel) (by decide +kernel), (by decide +kernel), ⟨(by decide +kernel), (by decide +kernel)⟩, (xW_t 1 (by decide +kernel) (by decide +kernel)), rfl, (by decide +kernel)⟩
theorem ok_X9_size : xOk mX9_size := ⟨xW_t 312 (by decide +kernel) (by decide +kernel), (by decide +kernel), ⟨(by decide +kernel), (by decide +kernel)⟩, (xW_t 1 (by decide +kernel) (by decide +kernel)), rfl, (by decide +kernel)⟩
theorem ok_X0_heaviestHead : xOk mX0_heaviestHead := ⟨xW_t 517 (by decide +kernel) (by decide +kernel), (by decide +kernel), ⟨(by decide +kernel), (by decide +kernel)⟩, (xW_t 6 (by decide +kernel) (by decide +kernel)), rfl, (by decide +kernel)⟩
theorem ok_X0_merge : xOk mX0_merge := ⟨xW_t 433 (by decide +kernel) (by decide +kernel), (by decide +kernel), ⟨(by decide +kernel), (by decide +kernel)⟩, (xW_t 6 (by decide +kernel) (by decide +kernel)), rfl, (by decide +kernel)⟩
theorem ok_X10_branchBytesOf : xOk mX10_branchBytesOf := ⟨xW_t 876 (by decide +kernel) (by decide +kernel), (by decide +kernel), ⟨(by decide +kernel), (by decide +kernel)⟩, (xW_t 8 (by decide +kernel) (by decide +kernel)), rfl, (by decide +kernel)⟩
theorem ok_X10_bypassError : xOk mX10_bypassError := ⟨xW_t 971 (by decide +kernel) (by decide +kernel), (by decide +kernel), ⟨(by decide +kernel), (by decide +kernel)⟩, (xW_t 8 (by decide +kernel) (by decide +kernel)), rfl, (by decide +kernel)⟩
theorem ok_X10_chainHead : xOk mX10_chainHead := ⟨xW_t 892 (by decide +kernel) (by decide +kernel), (by decide +kernel), ⟨(by decide +kernel), (by decide +kernel)⟩, (xW_t 8 (by decide +kernel) (by decide +kernel)), rfl, (by decide +kernel)⟩
theorem ok_X10_edgeCostOf : xOk mX10_edgeCostOf := ⟨xW_t 849 (by decide +kernel) (by decide +kernel), (by decide +kernel), ⟨(by decide +kernel), (by decide +kernel)⟩, (xW_t 8 (by decide +kernel) (by decide +kernel)), rfl, (by decide +kernel)⟩
theorem ok_X10_executions : xOk mX10_executions := ⟨xW_t 821 (by decide +kernel) (by decide +kernel), (by decide +kernel), ⟨(by decide +kernel), (by decide +kernel)⟩, (xW_t 8 (by decide +kernel) (by decide +kernel)), rfl, (by decide +kernel)⟩
theorem ok_X10_isEdge : xOk mX10_isEdge := ⟨xW_t 813 (by decide +kernel) (by decide +kernel), (by decide +kernel), ⟨(by decide +kernel), (by decide +kernel)⟩, (xW_t 8 (by decide +kernel) (by decide +kernel)), rfl, (by decide +kernel)⟩
theorem ok_X10_isPosition : xOk mX10_isPosition := ⟨xW_t 833 (by decide +kernel) (by decide +kernel), (by decide +kernel), ⟨(by decide +kernel), (by decide +kernel)⟩, (xW_t 8 (by decide +kernel) (by decide +kernel)), rfl, (by decide +kernel)⟩
theorem ok_X10_size : xOk mX10_size := ⟨xW_t 801 (by decide +kernel) (by decide +kernel), (by decide +kernel), ⟨(by decide +kernel), (by decide +kernel)⟩, (xW_t 8 (by decide +kernel) (by decide +kernel)), rfl, (by decide +kernel)⟩
theorem ok_X10_split : xOk mX10_split := ⟨xW_t 958 (by decide +kernel) (by decide +kernel), (by decide +kernel), ⟨(by decide +kernel), (by decide +kernel)⟩, (xW_t 8 (by decide +kernel) (by decide +kernel)), rfl, (by decide +kernel)⟩
theorem ok_X10_twoFigures : xOk mX10_twoFigures := ⟨xW_t 778 (by decide +kernel) (by decide +kernel), (by decide +kernel), ⟨(by decide +kernel), (by decide +kernel)⟩, (xW_t 8 (by decide +kernel) (by decide +kernel)), rfl, (by decide +kernel)⟩
theorem ok_X2_init : xOk mX2_init := ⟨xW_t 104 (by decide +kernel) (by decide +kernel), (by decide +kernel), ⟨(by decide +kernel), (by decide +kernel)⟩, (xW_t 4 (by decide +kernel) (by decide +kernel)), rfl, (by decide +kernel)⟩
theorem ok_X2_remember : xOk mX2_remember := ⟨xW_t 504 (by decide +kernel) (by decide +kernel), (by decide +kernel), ⟨(by decide +kernel), (by decide +kernel)⟩, (xW_t 4 (by decide +kernel) (by decide +kernel)), rfl, (by decide +kernel)⟩
theorem ok_X2_takeBack : xOk mX2_takeBack := ⟨xW_t 605 (by decide +kernel) (by decide +kernel), (by decide +kernel), ⟨(by decide +kernel), (by decide +kernel)⟩, (xW_t 4 (by decide +kernel) (by decide +kernel)), rfl, (by decide +kernel)⟩
theorem ok_X3_fillSet : xOk mX3_fillSet := ⟨xW_t 467 (by decide +kernel) (by decide +kernel), (by decide +kernel), ⟨(by decide +kernel), (by decide +kernel)⟩, (xW_t 7 (by decide +kernel) (by decide +kernel)), rfl, (by decide +kernel)⟩
theorem ok_X4_bytesAt : xOk mX4_bytesAt := ⟨xW_t 399 (by decide +kernel) (by decide +kernel), (by decide +kernel), ⟨(by decide +kernel), (by decide +kernel)⟩, (xW_t 11 (by decide +kernel) (by decide +kernel)), rfl, (by decide +kernel)⟩
theorem ok_X4_startAt : xOk mX4_startAt := ⟨xW_t 386 (by decide +kernel) (by decide +kernel), (by decide +kernel), ⟨(by decide +kernel), (by decide +kernel)⟩, (xW_t 11 (by decide +kernel) (by decide +kernel)), rfl, (by decide +kernel)⟩
theorem ok_X5_exchanged : xOk mX5_exchanged := ⟨xW_t 625 (by decide +kernel) (by decide +kernel), (by decide +kernel), ⟨(by decide +kernel), (by decide +kernel)⟩, (xW_t 13 (by decide +kernel) (by decide +kernel)), rfl, (by decide +kernel)⟩
theorem ok_X5_isFollowedBy : xOk mX5_isFollowedBy := ⟨xW_t 649 (by decide +kernel) (by decide +kernel), (by decide +kernel), ⟨(by decide +kernel), (by decide +kernel)⟩, (xW_t 13 (by decide +kernel) (by decide +kernel)), rfl, (by decide +kernel)⟩
theorem ok_X5_turned : xOk mX5_turned := ⟨xW_t 630 (by decide +kernel) (by decide +kernel), (by decide +kernel), ⟨(by decide +kernel), (by decide +kernel)⟩, (xW_t 13 (by decide +kernel) (by decide +kernel)), rfl, (by decide +kernel)⟩
theorem ok_X6_init : xOk mX6_init := ⟨xW_t 123 (by decide +kernel) (by decide +kernel), (by decide +kernel), ⟨(by decide +kernel), (by decide +kernel)⟩, (xW_t 5 (by decide +kernel) (by decide +kernel)), rfl, (by decide +kernel)⟩
theorem ok_X6_readCount : xOk mX6_readCount := ⟨xW_t 253 (by decide +kernel) (by decide +kernel), (by decide +kernel), ⟨(by decide +kernel), (by decide +kernel)⟩, (xW_t 5 (by decide +kernel) (by decide +kernel)), rfl, (by decide +kernel)⟩
theorem ok_X7_divide : xOk mX7_divide := ⟨xW_t 562 (by decide +kernel) (by decide +kernel), (by decide +kernel), ⟨(by decide +kernel), (by decide +kernel)⟩, (xW_t 3 (by decide +kernel) (by decide +kernel)), rfl, (by decide +kernel)⟩
theorem ok_X7_goAround : xOk mX7_goAround := ⟨xW_t 575 (by decide +kernel) (by decide +kernel), (by decide +kernel), ⟨(by decide +kernel), (by decide +kernel)⟩, (xW_t 3 (by decide +kernel) (by decide +kernel)), rfl, (by decide +kernel)⟩
theorem ok_X7_shareOfCost : xOk mX7_shareOfCost := ⟨xW_t 372 (by decide +kernel) (by decide +kernel), (by decide +kernel), ⟨(by decide +kernel), (by decide +kernel)⟩, (xW_t 3 (by decide +kernel) (by decide +kernel)), rfl, (by decide +kernel)⟩
theorem ok_X8_costOf : xOk mX8_costOf := ⟨xW_t 657 (by decide +kernel) (by decide +kernel), (by decide +kernel), ⟨(by decide +kernel), (by decide +kernel)⟩, (xW_t 14 (by decide +kernel) (by decide +kernel)), rfl, (by decide +kernel)⟩
theorem ok_X9_branchBytes : xOk mX9_branchBytes := ⟨xW_t 415 (by decide +kernel) (by decide +kernel), (by decide +kernel), ⟨(by decide +kernel), (by decide +kernel)⟩, (xW_t 1 (by decide +kernel) (by decide +kernel)), rfl, (by decide +kernel)⟩
theorem ok_X9_edgeCost : xOk mX9_edgeCost := ⟨xW_t 424 (by decide +kernel) (by decide +kernel), (by decide +kernel), ⟨(by decide +kernel), (by decide +kernel)⟩, (xW_t 1 (by decide +kernel) (by decide +kernel)), rfl, (by decide +kernel)⟩
theorem ok_X9_edgeCount : xOk mX9_edgeCount := ⟨xW_t 330 (by decide +kernel) (by decide +kernel), (by decide +kernel), ⟨(by decide +kernel), (by decide +kernel)⟩, (xW_t 1 (by decide +kernel) (by decide +kernel)), rfl, (by decide +kernel)⟩
theorem ok_X9_executions : xOk mX9_executions := ⟨xW_t 338 (by decide +kernel) (by decide +kernel), (by decide +kernel), ⟨(by decide +kernel), (by decide +kernel)⟩, (xW_t 1 (by decide +kernel) (by decide +kernel)), rfl, (by decide +kernel)⟩
theorem ok_X9_restore : xOk mX9_restore := ⟨xW_t 674 (by decide +kernel) (by decide +kernel), (by decide +kernel), ⟨(by decide +kernel), (by decide +kernel)⟩, (xW_t 1 (by decide +kernel) (by decide +kernel)), rfl, (by decide +kernel)⟩
theorem ok_X9_save : xOk mX9_save := ⟨xW_t 670 (by decide +kernel) (by decide +kernel), (by decide +kernel), ⟨(by decide +kernel), (by decide +kernel)⟩, (xW_t 1 (by decide +kernel) (by decide +kernel)), rfl, (by decide +kernel)⟩
theorem ok_X9_successor : xOk mX9_successor := ⟨xW_t 320 (by decide +kernel) (by decide +kernel), (by decide +kernel), ⟨(by decide +kernel), (by decide +kernel)⟩, (xW_t 1 (by decide +kernel) (by decide +kernel)), rfl, (by decide +kernel)⟩
theorem ok_X0_arrange : xOk mX0_arrange := ⟨xW_t 509 (by decide +kernel) (by decide +kernel), (by decide +kernel), ⟨(by decide +kernel), (by decide +kernel)⟩, (xW_t 6 (by decide +kernel) (by decide +kernel)), rfl, (by decide +kernel)⟩
theorem ok_X10_addressOf : xOk mX10_addressOf := ⟨xW_t 865 (by decide +kernel) (by decide +kernel), (by decide +kernel), ⟨(by decide +kernel), (by decide +kernel)⟩, (xW_t 8 (by decide +kernel) (by decide +kernel)), rfl, (by decide +kernel)⟩
theorem ok_X10_blockAt : xOk mX10_blockAt := ⟨xW_t 829 (by decide +kernel) (by decide +kernel), (by decide +kernel), ⟨(by decide +kernel), (by decide +kernel)⟩, (xW_t 8 (by decide +kernel) (by decide +kernel)), rfl, (by decide +kernel)⟩
theorem ok_X10_branchBytes : xOk mX10_branchBytes := ⟨xW_t 884 (by decide +kernel) (by decide +kernel), (by decide +kernel), ⟨(by decide +kernel), (by decide +kernel)⟩, (xW_t 8 (by decide +kernel) (by decide +kernel)), rfl, (by decide +kernel)⟩
theorem ok_X10_bypass : xOk mX10_bypass := ⟨xW_t 967 (by decide +kernel) (by decide +kernel), (by decide +kernel), ⟨(by decide +kernel), (by decide +kernel)⟩, (xW_t 8 (by decide +kernel) (by decide +kernel)), rfl, (by decide +kernel)⟩
theorem ok_X10_costOf : xOk mX10_costOf := ⟨xW_t 845 (by decide +kernel) (by decide +kernel), (by decide +kernel), ⟨(by decide +kernel), (by decide +kernel)⟩, (xW_t 8 (by decide +kernel) (by decide +kernel)), rfl, (by decide +kernel)⟩
theorem ok_X10_edgeCost : xOk mX10_edgeCost := ⟨xW_t 888 (by decide +kernel) (by decide +kernel), (by decide +kernel), ⟨(by decide +kernel), (by decide +kernel)⟩, (xW_t 8 (by decide +kernel) (by decide +kernel)), rfl, (by decide +kernel)⟩
theorem ok_X10_edgeCount : xOk mX10_edgeCount := ⟨xW_t 817 (by decide +kernel) (by decide +kernel), (by decide +kernel), ⟨(by decide +kernel), (by decide +kernel)⟩, (xW_t 8 (by decide +kernel) (by decide +kernel)), rfl, (by decide +kernel)⟩
theorem ok_X10_execute : xOk mX10_execute := ⟨xW_t 1004 (by decide +kernel) (by decide +kernel), (by decide +kernel), ⟨(by decide +kernel), (by decide +kernel)⟩, (xW_t 8 (by decide +kernel) (by decide +kernel)), rfl, (by decide +kernel)⟩
theorem ok_X10_rangeError : xOk mX10_rangeError := ⟨xW_t 932 (by decide +kernel) (by decide +kernel), (by decide +kernel), ⟨(by decide +kernel), (by decide +kernel)⟩, (xW_t 8 (by decide +kernel) (by decide +kernel)), rfl, (by decide +kernel)⟩
theorem ok_X10_readSuccessor : xOk mX10_readSuccessor := ⟨xW_t 786 (by decide +kernel) (by decide +kernel), (by decide +kernel), ⟨(by decide +kernel), (by decide +kernel)⟩, (xW_t 8 (by decide +kernel) (by decide +kernel)), rfl, (by decide +kernel)⟩
theorem ok_X10_setCount : xOk mX10_setCount := ⟨xW_t 979 (by decide +kernel) (by decide +kernel), (by decide +kernel), ⟨(by decide +kernel), (by decide +kernel)⟩, (xW_t 8 (by decide +kernel) (by decide +kernel)), rfl, (by decide +kernel)⟩
theorem ok_X10_successor : xOk mX10_successor := ⟨xW_t 809 (by decide +kernel) (by decide +kernel), (by decide +kernel), ⟨(by decide +kernel), (by decide +kernel)⟩, (xW_t 8 (by decide +kernel) (by decide +kernel)), rfl, (by decide +kernel)⟩
theorem ok_X10_swapError : xOk mX10_swapError := ⟨xW_t 944 (by decide +kernel) (by decide +kernel), (by decide +kernel), ⟨(by decide +kernel), (by decide +kernel)⟩, (xW_t 8 (by decide +kernel) (by decide +kernel)), rfl, (by decide +kernel)⟩
theorem ok_X3_coldCost : xOk mX3_coldCost := ⟨xW_t 482 (by decide +kernel) (by decide +kernel), (by decide +kernel), ⟨(by decide +kernel), (by decide +kernel)⟩, (xW_t 7 (by decide +kernel) (by decide +kernel)), rfl, (by decide +kernel)⟩
theorem ok_X3_fillShares : xOk mX3_fillShares := ⟨xW_t 458 (by decide +kernel) (by decide +kernel), (by decide +kernel), ⟨(by decide +kernel), (by decide +kernel)⟩, (xW_t 7 (by decide +kernel) (by decide +kernel)), rfl, (by decide +kernel)⟩
theorem ok_X4_endOfCode : xOk mX4_endOfCode := ⟨xW_t 383 (by decide +kernel) (by decide +kernel), (by decide +kernel), ⟨(by decide +kernel), (by decide +kernel)⟩, (xW_t 11 (by decide +kernel) (by decide +kernel)), rfl, (by decide +kernel)⟩
theorem ok_X4_startOf : xOk mX4_startOf := ⟨xW_t 411 (by decide +kernel) (by decide +kernel), (by decide +kernel), ⟨(by decide +kernel), (by decide +kernel)⟩, (xW_t 11 (by decide +kernel) (by decide +kernel)), rfl, (by decide +kernel)⟩
theorem ok_X5_divided : xOk mX5_divided := ⟨xW_t 635 (by decide +kernel) (by decide +kernel), (by decide +kernel), ⟨(by decide +kernel), (by decide +kernel)⟩, (xW_t 13 (by decide +kernel) (by decide +kernel)), rfl, (by decide +kernel)⟩
theorem ok_X5_wentAround : xOk mX5_wentAround := ⟨xW_t 644 (by decide +kernel) (by decide +kernel), (by decide +kernel), ⟨(by decide +kernel), (by decide +kernel)⟩, (xW_t 13 (by decide +kernel) (by decide +kernel)), rfl, (by decide +kernel)⟩
theorem ok_X6_readEdge : xOk mX6_readEdge := ⟨xW_t 272 (by decide +kernel) (by decide +kernel), (by decide +kernel), ⟨(by decide +kernel), (by decide +kernel)⟩, (xW_t 5 (by decide +kernel) (by decide +kernel)), rfl, (by decide +kernel)⟩
theorem ok_X6_readHead : xOk mX6_readHead := ⟨xW_t 241 (by decide +kernel) (by decide +kernel), (by decide +kernel), ⟨(by decide +kernel), (by decide +kernel)⟩, (xW_t 5 (by decide +kernel) (by decide +kernel)), rfl, (by decide +kernel)⟩
theorem ok_X7_totalCost : xOk mX7_totalCost := ⟨xW_t 364 (by decide +kernel) (by decide +kernel), (by decide +kernel), ⟨(by decide +kernel), (by decide +kernel)⟩, (xW_t 3 (by decide +kernel) (by decide +kernel)), rfl, (by decide +kernel)⟩
theorem ok_X9_bypass : xOk mX9_bypass := ⟨xW_t 567 (by decide +kernel) (by decide +kernel), (by decide +kernel), ⟨(by decide +kernel), (by decide +kernel)⟩, (xW_t 1 (by decide +kernel) (by decide +kernel)), rfl, (by decide +kernel)⟩
theorem ok_X9_chainHead : xOk mX9_chainHead := ⟨xW_t 429 (by decide +kernel) (by decide +kernel), (by decide +kernel), ⟨(by decide +kernel), (by decide +kernel)⟩, (xW_t 1 (by decide +kernel) (by decide +kernel)), rfl, (by decide +kernel)⟩
theorem ok_X9_execute : xOk mX9_execute := ⟨xW_t 654 (by decide +kernel) (by decide +kernel), (by decide +kernel), ⟨(by decide +kernel), (by decide +kernel)⟩, (xW_t 1 (by decide +kernel) (by decide +kernel)), rfl, (by decide +kernel)⟩
theorem ok_X9_init : xOk mX9_init := ⟨xW_t 19 (by decide +kernel) (by decide +kernel), (by decide +kernel), ⟨(by decide +kernel), (by decide +kernel)⟩, (xW_t 1 (by decide +kernel) (by decide +kernel)), rfl, (by decide +kernel)⟩
theorem ok_X9_setAlignment : xOk mX9_setAlignment := ⟨xW_t 591 (by decide +kernel) (by decide +kernel), (by decide +kernel), ⟨(by decide +kernel), (by decide +kernel)⟩, (xW_t 1 (by decide +kernel) (by decide +kernel)), rfl, (by decide +kernel)⟩
theorem ok_X9_setCount : xOk mX9_setCount := ⟨xW_t 586 (by decide +kernel) (by decide +kernel), (by decide +kernel), ⟨(by decide +kernel), (by decide +kernel)⟩, (xW_t 1 (by decide +kernel) (by decide +kernel)), rfl, (by decide +kernel)⟩
theorem ok_X9_split : xOk mX9_split := ⟨xW_t 555 (by decide +kernel) (by decide +kernel), (by decide +kernel), ⟨(by decide +kernel), (by decide +kernel)⟩, (xW_t 1 (by decide +kernel) (by decide +kernel)), rfl, (by decide +kernel)⟩
theorem ok_X9_undo : xOk mX9_undo := ⟨xW_t 601 (by decide +kernel) (by decide +kernel), (by decide +kernel), ⟨(by decide +kernel), (by decide +kernel)⟩, (xW_t 1 (by decide +kernel) (by decide +kernel)), rfl, (by decide +kernel)⟩
theorem ok_X10_address : xOk mX10_address := ⟨xW_t 880 (by decide +kernel) (by decide +kernel), (by decide +kernel), ⟨(by decide +kernel), (by decide +kernel)⟩, (xW_t 8 (by decide +kernel) (by decide +kernel)), rfl, (by decide +kernel)⟩
theorem ok_X10_bestRotation : xOk mX10_bestRotation := ⟨xW_t 928 (by decide +kernel) (by decide +kernel), (by decide +kernel), ⟨(by decide +kernel), (by decide +kernel)⟩, (xW_t 8 (by decide +kernel) (by decide +kernel)), rfl, (by decide +kernel)⟩
theorem ok_X10_codeSize : xOk mX10_codeSize := ⟨xW_t 861 (by decide +kernel) (by decide +kernel), (by decide +kernel), ⟨(by decide +kernel), (by decide +kernel)⟩, (xW_t 8 (by decide +kernel) (by decide +kernel)), rfl, (by decide +kernel)⟩
theorem ok_X10_command : xOk mX10_command := ⟨xW_t 1000 (by decide +kernel) (by decide +kernel), (by decide +kernel), ⟨(by decide +kernel), (by decide +kernel)⟩, (xW_t 8 (by decide +kernel) (by decide +kernel)), rfl, (by decide +kernel)⟩
theorem ok_X10_cost : xOk mX10_cost := ⟨xW_t 841 (by decide +kernel) (by decide +kernel), (by decide +kernel), ⟨(by decide +kernel), (by decide +kernel)⟩, (xW_t 8 (by decide +kernel) (by decide +kernel)), rfl, (by decide +kernel)⟩
theorem ok_X10_findOptimal : xOk mX10_findOptimal := ⟨xW_t 916 (by decide +kernel) (by decide +kernel), (by decide +kernel), ⟨(by decide +kernel), (by decide +kernel)⟩, (xW_t 8 (by decide +kernel) (by decide +kernel)), rfl, (by decide +kernel)⟩
theorem ok_X10_orderByChains : xOk mX10_orderByChains := ⟨xW_t 900 (by decide +kernel) (by decide +kernel), (by decide +kernel), ⟨(by decide +kernel), (by decide +kernel)⟩, (xW_t 8 (by decide +kernel) (by decide +kernel)), rfl, (by decide +kernel)⟩
theorem ok_X10_readBlock : xOk mX10_readBlock := ⟨xW_t 782 (by decide +kernel) (by decide +kernel), (by decide +kernel), ⟨(by decide +kernel), (by decide +kernel)⟩, (xW_t 8 (by decide +kernel) (by decide +kernel)), rfl, (by decide +kernel)⟩
theorem ok_X10_rotate : xOk mX10_rotate := ⟨xW_t 951 (by decide +kernel) (by decide +kernel), (by decide +kernel), ⟨(by decide +kernel), (by decide +kernel)⟩, (xW_t 8 (by decide +kernel) (by decide +kernel)), rfl, (by decide +kernel)⟩
theorem ok_X10_swap : xOk mX10_swap := ⟨xW_t 940 (by decide +kernel) (by decide +kernel), (by decide +kernel), ⟨(by decide +kernel), (by decide +kernel)⟩, (xW_t 8 (by decide +kernel) (by decide +kernel)), rfl, (by decide +kernel)⟩
theorem ok_X3_leastCost : xOk mX3_leastCost := ⟨xW_t 454 (by decide +kernel) (by decide +kernel), (by decide +kernel), ⟨(by decide +kernel), (by decide +kernel)⟩, (xW_t 7 (by decide +kernel) (by decide +kernel)), rfl, (by decide +kernel)⟩
theorem ok_X5_succeeds : xOk mX5_succeeds := ⟨xW_t 622 (by decide +kernel) (by decide +kernel), (by decide +kernel), ⟨(by decide +kernel), (by decide +kernel)⟩, (xW_t 13 (by decide +kernel) (by decide +kernel)), rfl, (by decide +kernel)⟩
theorem ok_X6_readBlock : xOk mX6_readBlock := ⟨xW_t 265 (by decide +kernel) (by decide +kernel), (by decide +kernel), ⟨(by decide +kernel), (by decide +kernel)⟩, (xW_t 5 (by decide +kernel) (by decide +kernel)), rfl, (by decide +kernel)⟩
theorem ok_X9_address : xOk mX9_address := ⟨xW_t 408 (by decide +kernel) (by decide +kernel), (by decide +kernel), ⟨(by decide +kernel), (by decide +kernel)⟩, (xW_t 1 (by decide +kernel) (by decide +kernel)), rfl, (by decide +kernel)⟩
theorem ok_X9_bestRotation : xOk mX9_bestRotation := ⟨xW_t 487 (by decide +kernel) (by decide +kernel), (by decide +kernel), ⟨(by decide +kernel), (by decide +kernel)⟩, (xW_t 1 (by decide +kernel) (by decide +kernel)), rfl, (by decide +kernel)⟩
theorem ok_X9_codeSize : xOk mX9_codeSize := ⟨xW_t 380 (by decide +kernel) (by decide +kernel), (by decide +kernel), ⟨(by decide +kernel), (by decide +kernel)⟩, (xW_t 1 (by decide +kernel) (by decide +kernel)), rfl, (by decide +kernel)⟩
theorem ok_X9_cost : xOk mX9_cost := ⟨xW_t 360 (by decide +kernel) (by decide +kernel), (by decide +kernel), ⟨(by decide +kernel), (by decide +kernel)⟩, (xW_t 1 (by decide +kernel) (by decide +kernel)), rfl, (by decide +kernel)⟩
theorem ok_X9_orderByChains : xOk mX9_orderByChains := ⟨xW_t 500 (by decide +kernel) (by decide +kernel), (by decide +kernel), ⟨(by decide +kernel), (by decide +kernel)⟩, (xW_t 1 (by decide +kernel) (by decide +kernel)), rfl, (by decide +kernel)⟩
theorem ok_X9_rotate : xOk mX9_rotate := ⟨xW_t 551 (by decide +kernel) (by decide +kernel), (by decide +kernel), ⟨(by decide +kernel), (by decide +kernel)⟩, (xW_t 1 (by decide +kernel) (by decide +kernel)), rfl, (by decide +kernel)⟩
theorem ok_X9_swap : xOk mX9_swap := ⟨xW_t 539 (by decide +kernel) (by decide +kernel), (by decide +kernel), ⟨(by decide +kernel), (by decide +kernel)⟩, (xW_t 1 (by decide +kernel) (by decide +kernel)), rfl, (by decide +kernel)⟩
theorem ok_X10_optimalCost : xOk mX10_optimalCost := ⟨xW_t 912 (by decide +kernel) (by decide +kernel), (by decide +kernel), ⟨(by decide +kernel), (by decide +kernel)⟩, (xW_t 8 (by decide +kernel) (by decide +kernel)), rfl, (by decide +kernel)⟩
theorem ok_X10_orderOptimally : xOk mX10_orderOptimally := ⟨xW_t 924 (by decide +kernel) (by decide +kernel), (by decide +kernel), ⟨(by decide +kernel), (by decide +kernel)⟩, (xW_t 8 (by decide +kernel) (by decide +kernel)), rfl, (by decide +kernel)⟩
theorem ok_X10_readText : xOk mX10_readText := ⟨xW_t 770 (by decide +kernel) (by decide +kernel), (by decide +kernel), ⟨(by decide +kernel), (by decide +kernel)⟩, (xW_t 8 (by decide +kernel) (by decide +kernel)), rfl, (by decide +kernel)⟩
theorem ok_X10_runScript : xOk mX10_runScript := ⟨xW_t 991 (by decide +kernel) (by decide +kernel), (by decide +kernel), ⟨(by decide +kernel), (by decide +kernel)⟩, (xW_t 8 (by decide +kernel) (by decide +kernel)), rfl, (by decide +kernel)⟩
theorem ok_X3_arrange : xOk mX3_arrange := ⟨xW_t 534 (by decide +kernel) (by decide +kernel), (by decide +kernel), ⟨(by decide +kernel), (by decide +kernel)⟩, (xW_t 7 (by decide +kernel) (by decide +kernel)), rfl, (by decide +kernel)⟩
theorem ok_X5_firstFailure : xOk mX5_firstFailure := ⟨xW_t 619 (by decide +kernel) (by decide +kernel), (by decide +kernel), ⟨(by decide +kernel), (by decide +kernel)⟩, (xW_t 13 (by decide +kernel) (by decide +kernel)), rfl, (by decide +kernel)⟩
theorem ok_X6_readBlocks : xOk mX6_readBlocks := ⟨xW_t 261 (by decide +kernel) (by decide +kernel), (by decide +kernel), ⟨(by decide +kernel), (by decide +kernel)⟩, (xW_t 5 (by decide +kernel) (by decide +kernel)), rfl, (by decide +kernel)⟩
theorem ok_X9_optimalCost : xOk mX9_optimalCost := ⟨xW_t 450 (by decide +kernel) (by decide +kernel), (by decide +kernel), ⟨(by decide +kernel), (by decide +kernel)⟩, (xW_t 1 (by decide +kernel) (by decide +kernel)), rfl, (by decide +kernel)⟩
theorem ok_X10_errorPosition : xOk mX10_errorPosition := ⟨xW_t 766 (by decide +kernel) (by decide +kernel), (by decide +kernel), ⟨(by decide +kernel), (by decide +kernel)⟩, (xW_t 8 (by decide +kernel) (by decide +kernel)), rfl, (by decide +kernel)⟩
theorem ok_X10_load : xOk mX10_load := ⟨xW_t 790 (by decide +kernel) (by decide +kernel), (by decide +kernel), ⟨(by decide +kernel), (by decide +kernel)⟩, (xW_t 8 (by decide +kernel) (by decide +kernel)), rfl, (by decide +kernel)⟩
theorem ok_X6_read : xOk mX6_read := ⟨xW_t 237 (by decide +kernel) (by decide +kernel), (by decide +kernel), ⟨(by decide +kernel), (by decide +kernel)⟩, (xW_t 5 (by decide +kernel) (by decide +kernel)), rfl, (by decide +kernel)⟩
theorem ok_X9_orderOptimally : xOk mX9_orderOptimally := ⟨xW_t 530 (by decide +kernel) (by decide +kernel), (by decide +kernel), ⟨(by decide +kernel), (by decide +kernel)⟩, (xW_t 1 (by decide +kernel) (by decide +kernel)), rfl, (by decide +kernel)⟩
theorem ok_X9_runScript : xOk mX9_runScript := ⟨xW_t 609 (by decide +kernel) (by decide +kernel), (by decide +kernel), ⟨(by decide +kernel), (by decide +kernel)⟩, (xW_t 1 (by decide +kernel) (by decide +kernel)), rfl, (by decide +kernel)⟩
theorem ok_X9_errorPosition : xOk mX9_errorPosition := ⟨xW_t 233 (by decide +kernel) (by decide +kernel), (by decide +kernel), ⟨(by decide +kernel), (by decide +kernel)⟩, (xW_t 1 (by decide +kernel) (by decide +kernel)), rfl, (by decide +kernel)⟩
theorem ok_X9_load : xOk mX9_load := ⟨xW_t 288 (by decide +kernel) (by decide +kernel), (by decide +kernel), ⟨(by decide +kernel), (by decide +kernel)⟩, (xW_t 1 (by decide +kernel) (by decide +kernel)), rfl, (by decide +kernel)⟩
theorem f_0_9 : xFl 0 9 0 0 := ⟨xW_t 153 (by decide +kernel) (by decide +kernel), by decide, by decide⟩
theorem f_0_15 : xFl 0 15 0 1 := ⟨xW_t 155 (by decide +kernel) (by decide +kernel), by decide, by decide⟩
theorem f_0_18 : xFl 0 18 0 2 := ⟨xW_t 156 (by decide +kernel) (by decide +kernel), by decide, by decide⟩
theorem f_0_21 : xFl 0 21 0 3 := ⟨xW_t 157 (by decide +kernel) (by decide +kernel), by decide, by decide⟩
theorem f_0_25 : xFl 0 25 0 4 := ⟨xW_t 158 (by decide +kernel) (by decide +kernel), by decide, by decide⟩
theorem f_0_28 : xFl 0 28 5 0 := ⟨xW_t 59 (by decide +kernel) (by decide +kernel), by decide, by decide⟩
theorem f_0_34 : xFl 0 34 1 0 := ⟨xW_t 30 (by decide +kernel) (by decide +kernel), by decide, by decide⟩
theorem l_0_39 : xLv 0 39 0 mX0_sortEdges := ⟨rfl, by decide, xW_t 434 (by decide +kernel) (by decide +kernel), (xW_t 436 (by decide +kernel) (by decide +kernel)), (xW_s 7 (by decide +kernel) (by decide +kernel))⟩
theorem f_0_43 : xFl 0 43 5 2 := ⟨xW_t 68 (by decide +kernel) (by decide +kernel), by decide, by decide⟩
theorem l_0_46 : xLv 0 46 0 mX0_joinBehind := ⟨rfl, by decide, xW_t 443 (by decide +kernel) (by decide +kernel), (xW_t 445 (by decide +kernel) (by decide +kernel)), (xW_s 9 (by decide +kernel) (by decide +kernel))⟩
theorem f_0_50 : xFl 0 50 5 1 := ⟨xW_t 65 (by decide +kernel) (by decide +kernel), by decide, by decide⟩
theorem l_0_53 : xLv 0 53 5 mX7_count := ⟨rfl, by decide, xW_t 438 (by decide +kernel) (by decide +kernel), (xW_t 332 (by decide +kernel) (by decide +kernel)), (xW_t 333 (by decide +kernel) (by decide +kernel))⟩
theorem l_0_57 : xLv 0 57 0 mX0_insertEdge := ⟨rfl, by decide, xW_t 439 (by decide +kernel) (by decide +kernel), (xW_t 441 (by decide +kernel) (by decide +kernel)), (xW_s 8 (by decide +kernel) (by decide +kernel))⟩
theorem f_0_61 : xFl 0 61 5 3 := ⟨xW_t 70 (by decide +kernel) (by decide +kernel), by decide, by decide⟩
theorem l_0_64 : xLv 0 64 0 mX0_placeChain := ⟨rfl, by decide, xW_t 510 (by decide +kernel) (by decide +kernel), (xW_t 512 (by decide +kernel) (by decide +kernel)), (xW_s 15 (by decide +kernel) (by decide +kernel))⟩
theorem l_0_68 : xLv 0 68 0 mX0_heaviestHead := ⟨rfl, by decide, xW_t 514 (by decide +kernel) (by decide +kernel), (xW_t 516 (by decide +kernel) (by decide +kernel)), (xW_s 16 (by decide +kernel) (by decide +kernel))⟩
theorem f_0_72 : xFl 0 72 5 5 := ⟨xW_t 79 (by decide +kernel) (by decide +kernel), by decide, by decide⟩
theorem f_0_75 : xFl 0 75 5 4 := ⟨xW_t 74 (by decide +kernel) (by decide +kernel), by decide, by decide⟩
theorem l_0_78 : xLv 0 78 0 mX0_isPlaced := ⟨rfl, by decide, xW_t 518 (by decide +kernel) (by decide +kernel), (xW_t 520 (by decide +kernel) (by decide +kernel)), (xW_s 17 (by decide +kernel) (by decide +kernel))⟩
theorem l_0_82 : xLv 0 82 0 mX0_weightOf := ⟨rfl, by decide, xW_t 522 (by decide +kernel) (by decide +kernel), (xW_t 524 (by decide +kernel) (by decide +kernel)), (xW_s 18 (by decide +kernel) (by decide +kernel))⟩
theorem l_0_86 : xLv 0 86 5 mX7_target := ⟨rfl, by decide, xW_t 526 (by decide +kernel) (by decide +kernel), (xW_t 274 (by decide +kernel) (by decide +kernel)), (xW_t 275 (by decide +kernel) (by decide +kernel))⟩
theorem f_1_9 : xFl 1 9 1 0 := ⟨xW_t 29 (by decide +kernel) (by decide +kernel), by decide, by decide⟩
theorem f_1_15 : xFl 1 15 1 1 := ⟨xW_t 36 (by decide +kernel) (by decide +kernel), by decide, by decide⟩
theorem f_1_18 : xFl 1 18 1 2 := ⟨xW_t 39 (by decide +kernel) (by decide +kernel), by decide, by decide⟩
theorem k_2_9 : xCl 2 9 5 := ⟨xW_t 106 (by decide +kernel) (by decide +kernel), (xW_t 53 (by decide +kernel) (by decide +kernel)), (xW_t 3 (by decide +kernel) (by decide +kernel)), by decide⟩
theorem f_2_11 : xFl 2 11 2 0 := ⟨xW_t 108 (by decide +kernel) (by decide +kernel), by decide, by decide⟩
theorem f_2_17 : xFl 2 17 2 1 := ⟨xW_t 109 (by decide +kernel) (by decide +kernel), by decide, by decide⟩
theorem f_2_21 : xFl 2 21 2 2 := ⟨xW_t 110 (by decide +kernel) (by decide +kernel), by decide, by decide⟩
theorem l_2_24 : xLi 2 24 mX7_init := ⟨xW_t 107 (by decide +kernel) (by decide +kernel), (xW_t 55 (by decide +kernel) (by decide +kernel)), rfl, rfl⟩
theorem l_2_27 : xLv 2 27 5 mX7_copyFrom := ⟨rfl, by decide, xW_t 505 (by decide +kernel) (by decide +kernel), (xW_t 297 (by decide +kernel) (by decide +kernel)), (xW_t 298 (by decide +kernel) (by decide +kernel))⟩
theorem f_3_11 : xFl 3 11 3 0 := ⟨xW_t 176 (by decide +kernel) (by decide +kernel), by decide, by decide⟩
theorem f_3_15 : xFl 3 15 3 1 := ⟨xW_t 177 (by decide +kernel) (by decide +kernel), by decide, by decide⟩
theorem f_3_18 : xFl 3 18 3 2 := ⟨xW_t 178 (by decide +kernel) (by decide +kernel), by decide, by decide⟩
theorem l_3_22 : xLv 3 22 3 mX3_fillShares := ⟨rfl, by decide, xW_t 455 (by decide +kernel) (by decide +kernel), (xW_t 457 (by decide +kernel) (by decide +kernel)), (xW_s 10 (by decide +kernel) (by decide +kernel))⟩
theorem l_3_26 : xLv 3 26 3 mX3_collectFreeBlocks := ⟨rfl, by decide, xW_t 460 (by decide +kernel) (by decide +kernel), (xW_t 462 (by decide +kernel) (by decide +kernel)), (xW_s 11 (by decide +kernel) (by decide +kernel))⟩
theorem l_3_29 : xLv 3 29 3 mX3_fillSet := ⟨rfl, by decide, xW_t 464 (by decide +kernel) (by decide +kernel), (xW_t 466 (by decide +kernel) (by decide +kernel)), (xW_s 12 (by decide +kernel) (by decide +kernel))⟩
theorem l_3_33 : xLs 3 33 mX3_coldCost := ⟨xW_t 480 (by decide +kernel) (by decide +kernel), (xW_t 481 (by decide +kernel) (by decide +kernel))⟩
theorem f_3_37 : xFl 3 37 5 5 := ⟨xW_t 77 (by decide +kernel) (by decide +kernel), by decide, by decide⟩
theorem f_3_42 : xFl 3 42 5 0 := ⟨xW_t 61 (by decide +kernel) (by decide +kernel), by decide, by decide⟩
theorem f_3_46 : xFl 3 46 1 0 := ⟨xW_t 32 (by decide +kernel) (by decide +kernel), by decide, by decide⟩
theorem f_3_51 : xFl 3 51 5 4 := ⟨xW_t 73 (by decide +kernel) (by decide +kernel), by decide, by decide⟩
theorem l_3_54 : xLv 3 54 5 mX7_followerAt := ⟨rfl, by decide, xW_t 483 (by decide +kernel) (by decide +kernel), (xW_t 366 (by decide +kernel) (by decide +kernel)), (xW_t 367 (by decide +kernel) (by decide +kernel))⟩
theorem l_3_58 : xLv 3 58 5 mX7_shareOfCost := ⟨rfl, by decide, xW_t 459 (by decide +kernel) (by decide +kernel), (xW_t 370 (by decide +kernel) (by decide +kernel)), (xW_t 371 (by decide +kernel) (by decide +kernel))⟩
theorem l_3_62 : xLv 3 62 3 mX3_leastCost := ⟨rfl, by decide, xW_t 535 (by decide +kernel) (by decide +kernel), (xW_t 452 (by decide +kernel) (by decide +kernel)), (xW_t 453 (by decide +kernel) (by decide +kernel))⟩
theorem l_3_65 : xLv 3 65 3 mX3_cheapestNext := ⟨rfl, by decide, xW_t 471 (by decide +kernel) (by decide +kernel), (xW_t 473 (by decide +kernel) (by decide +kernel)), (xW_s 13 (by decide +kernel) (by decide +kernel))⟩
theorem l_3_69 : xLs 3 69 mX3_contains := ⟨xW_t 468 (by decide +kernel) (by decide +kernel), (xW_t 469 (by decide +kernel) (by decide +kernel))⟩
theorem l_3_73 : xLv 3 73 3 mX3_costThrough := ⟨rfl, by decide, xW_t 476 (by decide +kernel) (by decide +kernel), (xW_t 478 (by decide +kernel) (by decide +kernel)), (xW_s 14 (by decide +kernel) (by decide +kernel))⟩
theorem q_3_79 : xK1 3 79 (2147483647) := ⟨xW_t 475 (by decide +kernel) (by decide +kernel), by decide, by decide⟩
theorem f_4_9 : xFl 4 9 5 0 := ⟨xW_t 60 (by decide +kernel) (by decide +kernel), by decide, by decide⟩
theorem f_4_15 : xFl 4 15 1 0 := ⟨xW_t 31 (by decide +kernel) (by decide +kernel), by decide, by decide⟩
theorem l_4_21 : xLs 4 21 mX4_startAt := ⟨xW_t 384 (by decide +kernel) (by decide +kernel), (xW_t 385 (by decide +kernel) (by decide +kernel))⟩
theorem f_4_27 : xFl 4 27 5 4 := ⟨xW_t 72 (by decide +kernel) (by decide +kernel), by decide, by decide⟩
theorem l_4_31 : xLs 4 31 mX4_bytesAt := ⟨xW_t 397 (by decide +kernel) (by decide +kernel), (xW_t 398 (by decide +kernel) (by decide +kernel))⟩
theorem f_4_35 : xFl 4 35 5 5 := ⟨xW_t 78 (by decide +kernel) (by decide +kernel), by decide, by decide⟩
theorem l_4_38 : xLs 4 38 mX4_roundUp := ⟨xW_t 387 (by decide +kernel) (by decide +kernel), (xW_t 388 (by decide +kernel) (by decide +kernel))⟩
theorem l_4_42 : xLs 4 42 mX4_isLoopHead := ⟨xW_t 390 (by decide +kernel) (by decide +kernel), (xW_t 391 (by decide +kernel) (by decide +kernel))⟩
theorem f_4_46 : xFl 4 46 5 6 := ⟨xW_t 82 (by decide +kernel) (by decide +kernel), by decide, by decide⟩
theorem f_4_49 : xFl 4 49 1 2 := ⟨xW_t 40 (by decide +kernel) (by decide +kernel), by decide, by decide⟩
theorem l_4_52 : xLv 4 52 5 mX7_followerAt := ⟨rfl, by decide, xW_t 400 (by decide +kernel) (by decide +kernel), (xW_t 366 (by decide +kernel) (by decide +kernel)), (xW_t 367 (by decide +kernel) (by decide +kernel))⟩
theorem l_4_56 : xLv 4 56 5 mX7_branchBytesBefore := ⟨rfl, by decide, xW_t 401 (by decide +kernel) (by decide +kernel), (xW_t 402 (by decide +kernel) (by decide +kernel)), (xW_t 403 (by decide +kernel) (by decide +kernel))⟩
theorem l_4_59 : xLv 4 59 5 mX7_leadsTo := ⟨rfl, by decide, xW_t 393 (by decide +kernel) (by decide +kernel), (xW_t 394 (by decide +kernel) (by decide +kernel)), (xW_t 395 (by decide +kernel) (by decide +kernel))⟩
theorem l_5_9 : xLs 5 9 mX5_withoutLowest := ⟨xW_t 613 (by decide +kernel) (by decide +kernel), (xW_t 614 (by decide +kernel) (by decide +kernel))⟩
theorem q_5_15 : xK2 5 15 (10000) := ⟨xW_t 616 (by decide +kernel) (by decide +kernel), by decide, by decide⟩
theorem l_5_17 : xLs 5 17 mX5_succeeds := ⟨xW_t 620 (by decide +kernel) (by decide +kernel), (xW_t 621 (by decide +kernel) (by decide +kernel))⟩
theorem l_5_21 : xLs 5 21 mX5_exchanged := ⟨xW_t 623 (by decide +kernel) (by decide +kernel), (xW_t 624 (by decide +kernel) (by decide +kernel))⟩
theorem l_5_25 : xLs 5 25 mX5_turned := ⟨xW_t 628 (by decide +kernel) (by decide +kernel), (xW_t 629 (by decide +kernel) (by decide +kernel))⟩
theorem l_5_28 : xLs 5 28 mX5_divided := ⟨xW_t 633 (by decide +kernel) (by decide +kernel), (xW_t 634 (by decide +kernel) (by decide +kernel))⟩
theorem f_5_31 : xFl 5 31 5 0 := ⟨xW_t 62 (by decide +kernel) (by decide +kernel), by decide, by decide⟩
theorem l_5_37 : xLv 5 37 1 mX1_hasBlock := ⟨rfl, by decide, xW_t 638 (by decide +kernel) (by decide +kernel), (xW_t 314 (by decide +kernel) (by decide +kernel)), (xW_t 315 (by decide +kernel) (by decide +kernel))⟩
theorem l_5_43 : xLs 5 43 mX4_startOf := ⟨xW_t 639 (by decide +kernel) (by decide +kernel), (xW_t 410 (by decide +kernel) (by decide +kernel))⟩
theorem l_5_49 : xLv 5 49 5 mX7_totalCost := ⟨rfl, by decide, xW_t 640 (by decide +kernel) (by decide +kernel), (xW_t 362 (by decide +kernel) (by decide +kernel)), (xW_t 363 (by decide +kernel) (by decide +kernel))⟩
theorem l_5_53 : xLs 5 53 mX4_endOfCode := ⟨xW_t 641 (by decide +kernel) (by decide +kernel), (xW_t 382 (by decide +kernel) (by decide +kernel))⟩
theorem l_5_57 : xLs 5 57 mX5_wentAround := ⟨xW_t 642 (by decide +kernel) (by decide +kernel), (xW_t 643 (by decide +kernel) (by decide +kernel))⟩
theorem l_5_60 : xLs 5 60 mX5_isFollowedBy := ⟨xW_t 647 (by decide +kernel) (by decide +kernel), (xW_t 648 (by decide +kernel) (by decide +kernel))⟩
theorem l_5_63 : xLv 5 63 5 mX7_refusalToExchange := ⟨rfl, by decide, xW_t 626 (by decide +kernel) (by decide +kernel), (xW_t 541 (by decide +kernel) (by decide +kernel)), (xW_t 542 (by decide +kernel) (by decide +kernel))⟩
theorem l_5_67 : xLv 5 67 5 mX7_exchange := ⟨rfl, by decide, xW_t 627 (by decide +kernel) (by decide +kernel), (xW_t 545 (by decide +kernel) (by decide +kernel)), (xW_t 546 (by decide +kernel) (by decide +kernel))⟩
theorem l_5_71 : xLv 5 71 5 mX7_refusalToTurn := ⟨rfl, by decide, xW_t 631 (by decide +kernel) (by decide +kernel), (xW_t 489 (by decide +kernel) (by decide +kernel)), (xW_t 490 (by decide +kernel) (by decide +kernel))⟩
theorem l_5_74 : xLv 5 74 5 mX7_turn := ⟨rfl, by decide, xW_t 632 (by decide +kernel) (by decide +kernel), (xW_t 494 (by decide +kernel) (by decide +kernel)), (xW_t 495 (by decide +kernel) (by decide +kernel))⟩
theorem l_5_77 : xLs 5 77 mX7_refusalToDivide := ⟨xW_t 636 (by decide +kernel) (by decide +kernel), (xW_t 557 (by decide +kernel) (by decide +kernel))⟩
theorem l_5_81 : xLv 5 81 5 mX7_divide := ⟨rfl, by decide, xW_t 637 (by decide +kernel) (by decide +kernel), (xW_t 560 (by decide +kernel) (by decide +kernel)), (xW_t 561 (by decide +kernel) (by decide +kernel))⟩
theorem l_5_85 : xLv 5 85 5 mX7_refusalToGoAround := ⟨rfl, by decide, xW_t 645 (by decide +kernel) (by decide +kernel), (xW_t 569 (by decide +kernel) (by decide +kernel)), (xW_t 570 (by decide +kernel) (by decide +kernel))⟩
theorem l_5_88 : xLv 5 88 5 mX7_goAround := ⟨rfl, by decide, xW_t 646 (by decide +kernel) (by decide +kernel), (xW_t 573 (by decide +kernel) (by decide +kernel)), (xW_t 574 (by decide +kernel) (by decide +kernel))⟩
theorem l_5_91 : xLv 5 91 5 mX7_followerOf := ⟨rfl, by decide, xW_t 650 (by decide +kernel) (by decide +kernel), (xW_t 417 (by decide +kernel) (by decide +kernel)), (xW_t 418 (by decide +kernel) (by decide +kernel))⟩
theorem k_6_9 : xCl 6 9 1 := ⟨xW_t 125 (by decide +kernel) (by decide +kernel), (xW_t 24 (by decide +kernel) (by decide +kernel)), (xW_t 2 (by decide +kernel) (by decide +kernel)), by decide⟩
theorem l_6_11 : xLn 6 11 mX1_init := ⟨List.mem_append_right _ (List.mem_of_getElem? (i := 126) (by decide +kernel)), (xW_t 26 (by decide +kernel) (by decide +kernel)), rfl, rfl⟩
theorem f_6_12 : xFl 6 12 4 0 := ⟨xW_t 129 (by decide +kernel) (by decide +kernel), by decide, by decide⟩
theorem k_6_18 : xCl 6 18 5 := ⟨xW_t 127 (by decide +kernel) (by decide +kernel), (xW_t 53 (by decide +kernel) (by decide +kernel)), (xW_t 3 (by decide +kernel) (by decide +kernel)), by decide⟩
theorem l_6_20 : xLi 6 20 mX7_init := ⟨xW_t 128 (by decide +kernel) (by decide +kernel), (xW_t 55 (by decide +kernel) (by decide +kernel)), rfl, rfl⟩
theorem f_6_23 : xFl 6 23 4 1 := ⟨xW_t 131 (by decide +kernel) (by decide +kernel), by decide, by decide⟩
theorem f_6_27 : xFl 6 27 4 2 := ⟨xW_t 133 (by decide +kernel) (by decide +kernel), by decide, by decide⟩
theorem f_6_31 : xFl 6 31 4 3 := ⟨xW_t 134 (by decide +kernel) (by decide +kernel), by decide, by decide⟩
theorem f_6_35 : xFl 6 35 4 4 := ⟨xW_t 135 (by decide +kernel) (by decide +kernel), by decide, by decide⟩
theorem l_6_38 : xLv 6 38 4 mX6_readHead := ⟨rfl, by decide, xW_t 238 (by decide +kernel) (by decide +kernel), (xW_t 240 (by decide +kernel) (by decide +kernel)), (xW_s 0 (by decide +kernel) (by decide +kernel))⟩
theorem l_6_42 : xLv 6 42 4 mX6_readBlocks := ⟨rfl, by decide, xW_t 258 (by decide +kernel) (by decide +kernel), (xW_t 260 (by decide +kernel) (by decide +kernel)), (xW_s 4 (by decide +kernel) (by decide +kernel))⟩
theorem l_6_45 : xLv 6 45 4 mX6_readDigit := ⟨rfl, by decide, xW_t 242 (by decide +kernel) (by decide +kernel), (xW_t 244 (by decide +kernel) (by decide +kernel)), (xW_s 1 (by decide +kernel) (by decide +kernel))⟩
theorem f_6_49 : xFl 6 49 1 0 := ⟨xW_t 34 (by decide +kernel) (by decide +kernel), by decide, by decide⟩
theorem l_6_52 : xLv 6 52 4 mX6_readCount := ⟨rfl, by decide, xW_t 250 (by decide +kernel) (by decide +kernel), (xW_t 252 (by decide +kernel) (by decide +kernel)), (xW_s 3 (by decide +kernel) (by decide +kernel))⟩
theorem f_6_56 : xFl 6 56 1 1 := ⟨xW_t 37 (by decide +kernel) (by decide +kernel), by decide, by decide⟩
theorem l_6_59 : xLv 6 59 5 mX7_layOutByNumber := ⟨rfl, by decide, xW_t 254 (by decide +kernel) (by decide +kernel), (xW_t 255 (by decide +kernel) (by decide +kernel)), (xW_t 256 (by decide +kernel) (by decide +kernel))⟩
theorem l_6_62 : xLv 6 62 4 mX6_readBlock := ⟨rfl, by decide, xW_t 262 (by decide +kernel) (by decide +kernel), (xW_t 264 (by decide +kernel) (by decide +kernel)), (xW_s 5 (by decide +kernel) (by decide +kernel))⟩
theorem f_6_66 : xFl 6 66 1 2 := ⟨xW_t 42 (by decide +kernel) (by decide +kernel), by decide, by decide⟩
theorem l_6_69 : xLs 6 69 mJ9_min_7cf53 := ⟨xW_t 266 (by decide +kernel) (by decide +kernel), (xW_t 267 (by decide +kernel) (by decide +kernel))⟩
theorem f_6_74 : xFl 6 74 5 1 := ⟨xW_t 66 (by decide +kernel) (by decide +kernel), by decide, by decide⟩
theorem l_6_77 : xLv 6 77 4 mX6_readEdge := ⟨rfl, by decide, xW_t 269 (by decide +kernel) (by decide +kernel), (xW_t 271 (by decide +kernel) (by decide +kernel)), (xW_s 6 (by decide +kernel) (by decide +kernel))⟩
theorem l_6_81 : xLv 6 81 4 mX6_digitHere := ⟨rfl, by decide, xW_t 246 (by decide +kernel) (by decide +kernel), (xW_t 248 (by decide +kernel) (by decide +kernel)), (xW_s 2 (by decide +kernel) (by decide +kernel))⟩
theorem l_6_84 : xLv 6 84 5 mX7_target := ⟨rfl, by decide, xW_t 273 (by decide +kernel) (by decide +kernel), (xW_t 274 (by decide +kernel) (by decide +kernel)), (xW_t 275 (by decide +kernel) (by decide +kernel))⟩
theorem l_6_87 : xLv 6 87 5 mX7_putTarget := ⟨rfl, by decide, xW_t 277 (by decide +kernel) (by decide +kernel), (xW_t 278 (by decide +kernel) (by decide +kernel)), (xW_t 279 (by decide +kernel) (by decide +kernel))⟩
theorem l_6_91 : xLv 6 91 5 mX7_putCount := ⟨rfl, by decide, xW_t 281 (by decide +kernel) (by decide +kernel), (xW_t 282 (by decide +kernel) (by decide +kernel)), (xW_t 283 (by decide +kernel) (by decide +kernel))⟩
theorem f_7_9 : xFl 7 9 5 1 := ⟨xW_t 63 (by decide +kernel) (by decide +kernel), by decide, by decide⟩
theorem f_7_15 : xFl 7 15 5 2 := ⟨xW_t 67 (by decide +kernel) (by decide +kernel), by decide, by decide⟩
theorem f_7_18 : xFl 7 18 5 3 := ⟨xW_t 69 (by decide +kernel) (by decide +kernel), by decide, by decide⟩
theorem f_7_21 : xFl 7 21 5 4 := ⟨xW_t 71 (by decide +kernel) (by decide +kernel), by decide, by decide⟩
theorem f_7_24 : xFl 7 24 5 5 := ⟨xW_t 76 (by decide +kernel) (by decide +kernel), by decide, by decide⟩
theorem f_7_28 : xFl 7 28 5 6 := ⟨xW_t 81 (by decide +kernel) (by decide +kernel), by decide, by decide⟩
theorem f_7_31 : xFl 7 31 5 0 := ⟨xW_t 58 (by decide +kernel) (by decide +kernel), by decide, by decide⟩
theorem f_7_41 : xFl 7 41 1 0 := ⟨xW_t 33 (by decide +kernel) (by decide +kernel), by decide, by decide⟩
theorem l_7_46 : xLv 7 46 1 mX1_hasBlock := ⟨rfl, by decide, xW_t 325 (by decide +kernel) (by decide +kernel), (xW_t 314 (by decide +kernel) (by decide +kernel)), (xW_t 315 (by decide +kernel) (by decide +kernel))⟩
theorem f_7_50 : xFl 7 50 1 1 := ⟨xW_t 38 (by decide +kernel) (by decide +kernel), by decide, by decide⟩
theorem l_7_53 : xLv 7 53 5 mX7_target := ⟨rfl, by decide, xW_t 343 (by decide +kernel) (by decide +kernel), (xW_t 274 (by decide +kernel) (by decide +kernel)), (xW_t 275 (by decide +kernel) (by decide +kernel))⟩
theorem l_7_57 : xLv 7 57 5 mX7_count := ⟨rfl, by decide, xW_t 344 (by decide +kernel) (by decide +kernel), (xW_t 332 (by decide +kernel) (by decide +kernel)), (xW_t 333 (by decide +kernel) (by decide +kernel))⟩
theorem l_7_60 : xLv 7 60 5 mX7_followerAt := ⟨rfl, by decide, xW_t 365 (by decide +kernel) (by decide +kernel), (xW_t 366 (by decide +kernel) (by decide +kernel)), (xW_t 367 (by decide +kernel) (by decide +kernel))⟩
theorem l_7_64 : xLv 7 64 5 mX7_passCost := ⟨rfl, by decide, xW_t 373 (by decide +kernel) (by decide +kernel), (xW_t 374 (by decide +kernel) (by decide +kernel)), (xW_t 375 (by decide +kernel) (by decide +kernel))⟩
theorem l_7_68 : xLv 7 68 5 mX7_shareOfCost := ⟨rfl, by decide, xW_t 369 (by decide +kernel) (by decide +kernel), (xW_t 370 (by decide +kernel) (by decide +kernel)), (xW_t 371 (by decide +kernel) (by decide +kernel))⟩
theorem l_7_71 : xLv 7 71 1 mX1_hasPosition := ⟨rfl, by decide, xW_t 492 (by decide +kernel) (by decide +kernel), (xW_t 350 (by decide +kernel) (by decide +kernel)), (xW_t 351 (by decide +kernel) (by decide +kernel))⟩
theorem l_7_74 : xLv 7 74 5 mX7_runsOf := ⟨rfl, by decide, xW_t 563 (by decide +kernel) (by decide +kernel), (xW_t 340 (by decide +kernel) (by decide +kernel)), (xW_t 341 (by decide +kernel) (by decide +kernel))⟩
theorem f_7_77 : xFl 7 77 1 2 := ⟨xW_t 43 (by decide +kernel) (by decide +kernel), by decide, by decide⟩
theorem l_7_80 : xLv 7 80 5 mX7_putTarget := ⟨rfl, by decide, xW_t 576 (by decide +kernel) (by decide +kernel), (xW_t 278 (by decide +kernel) (by decide +kernel)), (xW_t 279 (by decide +kernel) (by decide +kernel))⟩
theorem l_7_84 : xLv 7 84 5 mX7_joinEqualEdges := ⟨rfl, by decide, xW_t 577 (by decide +kernel) (by decide +kernel), (xW_t 579 (by decide +kernel) (by decide +kernel)), (xW_s 19 (by decide +kernel) (by decide +kernel))⟩
theorem l_7_88 : xLv 7 88 5 mX7_putCount := ⟨rfl, by decide, xW_t 582 (by decide +kernel) (by decide +kernel), (xW_t 282 (by decide +kernel) (by decide +kernel)), (xW_t 283 (by decide +kernel) (by decide +kernel))⟩
theorem l_7_91 : xLs 7 91 mJ9_min_7cf53 := ⟨xW_t 581 (by decide +kernel) (by decide +kernel), (xW_t 267 (by decide +kernel) (by decide +kernel))⟩
theorem q_8_9 : xK2 8 9 (6364136223846793005) := ⟨xW_t 658 (by decide +kernel) (by decide +kernel), by decide, by decide⟩
theorem q_8_11 : xK2 8 11 (1442695040888963407) := ⟨xW_t 659 (by decide +kernel) (by decide +kernel), by decide, by decide⟩
theorem f_8_13 : xFl 8 13 5 1 := ⟨xW_t 64 (by decide +kernel) (by decide +kernel), by decide, by decide⟩
theorem l_8_19 : xLs 8 19 mX8_slotTaken := ⟨xW_t 660 (by decide +kernel) (by decide +kernel), (xW_t 661 (by decide +kernel) (by decide +kernel))⟩
theorem l_8_23 : xLv 8 23 5 mX7_followerOf := ⟨rfl, by decide, xW_t 664 (by decide +kernel) (by decide +kernel), (xW_t 417 (by decide +kernel) (by decide +kernel)), (xW_t 418 (by decide +kernel) (by decide +kernel))⟩
theorem l_8_27 : xLv 8 27 5 mX7_passCost := ⟨rfl, by decide, xW_t 665 (by decide +kernel) (by decide +kernel), (xW_t 374 (by decide +kernel) (by decide +kernel)), (xW_t 375 (by decide +kernel) (by decide +kernel))⟩
theorem l_8_31 : xLv 8 31 5 mX7_target := ⟨rfl, by decide, xW_t 666 (by decide +kernel) (by decide +kernel), (xW_t 274 (by decide +kernel) (by decide +kernel)), (xW_t 275 (by decide +kernel) (by decide +kernel))⟩
theorem l_8_35 : xLv 8 35 5 mX7_count := ⟨rfl, by decide, xW_t 663 (by decide +kernel) (by decide +kernel), (xW_t 332 (by decide +kernel) (by decide +kernel)), (xW_t 333 (by decide +kernel) (by decide +kernel))⟩
theorem k_9_9 : xCl 9 9 1 := ⟨xW_t 23 (by decide +kernel) (by decide +kernel), (xW_t 24 (by decide +kernel) (by decide +kernel)), (xW_t 2 (by decide +kernel) (by decide +kernel)), by decide⟩
theorem l_9_11 : xLn 9 11 mX1_init := ⟨List.mem_append_right _ (List.mem_of_getElem? (i := 25) (by decide +kernel)), (xW_t 26 (by decide +kernel) (by decide +kernel)), rfl, rfl⟩
theorem f_9_12 : xFl 9 12 6 0 := ⟨xW_t 186 (by decide +kernel) (by decide +kernel), by decide, by decide⟩
theorem k_9_16 : xCl 9 16 5 := ⟨xW_t 52 (by decide +kernel) (by decide +kernel), (xW_t 53 (by decide +kernel) (by decide +kernel)), (xW_t 3 (by decide +kernel) (by decide +kernel)), by decide⟩
theorem l_9_18 : xLi 9 18 mX7_init := ⟨xW_t 54 (by decide +kernel) (by decide +kernel), (xW_t 55 (by decide +kernel) (by decide +kernel)), rfl, rfl⟩
theorem f_9_21 : xFl 9 21 6 1 := ⟨xW_t 187 (by decide +kernel) (by decide +kernel), by decide, by decide⟩
theorem f_9_25 : xFl 9 25 6 2 := ⟨xW_t 188 (by decide +kernel) (by decide +kernel), by decide, by decide⟩
theorem f_9_28 : xFl 9 28 6 3 := ⟨xW_t 189 (by decide +kernel) (by decide +kernel), by decide, by decide⟩
theorem f_9_32 : xFl 9 32 6 4 := ⟨xW_t 190 (by decide +kernel) (by decide +kernel), by decide, by decide⟩
theorem k_9_36 : xCl 9 36 2 := ⟨xW_t 100 (by decide +kernel) (by decide +kernel), (xW_t 101 (by decide +kernel) (by decide +kernel)), (xW_t 4 (by decide +kernel) (by decide +kernel)), by decide⟩
theorem l_9_38 : xLi 9 38 mX2_init := ⟨xW_t 102 (by decide +kernel) (by decide +kernel), (xW_t 103 (by decide +kernel) (by decide +kernel)), rfl, rfl⟩
theorem f_9_39 : xFl 9 39 6 5 := ⟨xW_t 191 (by decide +kernel) (by decide +kernel), by decide, by decide⟩
theorem k_9_43 : xCl 9 43 4 := ⟨xW_t 119 (by decide +kernel) (by decide +kernel), (xW_t 120 (by decide +kernel) (by decide +kernel)), (xW_t 5 (by decide +kernel) (by decide +kernel)), by decide⟩
theorem l_9_45 : xLn 9 45 mX6_init := ⟨List.mem_append_right _ (List.mem_of_getElem? (i := 121) (by decide +kernel)), (xW_t 122 (by decide +kernel) (by decide +kernel)), rfl, rfl⟩
theorem f_9_46 : xFl 9 46 6 6 := ⟨xW_t 192 (by decide +kernel) (by decide +kernel), by decide, by decide⟩
theorem k_9_50 : xCl 9 50 0 := ⟨xW_t 147 (by decide +kernel) (by decide +kernel), (xW_t 148 (by decide +kernel) (by decide +kernel)), (xW_t 6 (by decide +kernel) (by decide +kernel)), by decide⟩
theorem l_9_52 : xLn 9 52 mX0_init := ⟨List.mem_append_right _ (List.mem_of_getElem? (i := 149) (by decide +kernel)), (xW_t 150 (by decide +kernel) (by decide +kernel)), rfl, rfl⟩
theorem f_9_53 : xFl 9 53 6 7 := ⟨xW_t 193 (by decide +kernel) (by decide +kernel), by decide, by decide⟩
theorem k_9_57 : xCl 9 57 3 := ⟨xW_t 170 (by decide +kernel) (by decide +kernel), (xW_t 171 (by decide +kernel) (by decide +kernel)), (xW_t 7 (by decide +kernel) (by decide +kernel)), by decide⟩
theorem l_9_59 : xLn 9 59 mX3_init := ⟨List.mem_append_right _ (List.mem_of_getElem? (i := 172) (by decide +kernel)), (xW_t 173 (by decide +kernel) (by decide +kernel)), rfl, rfl⟩
theorem f_9_60 : xFl 9 60 6 8 := ⟨xW_t 194 (by decide +kernel) (by decide +kernel), by decide, by decide⟩
theorem l_9_64 : xLv 9 64 4 mX6_addSign := ⟨rfl, by decide, xW_t 218 (by decide +kernel) (by decide +kernel), (xW_t 219 (by decide +kernel) (by decide +kernel)), (xW_t 220 (by decide +kernel) (by decide +kernel))⟩
theorem l_9_68 : xLv 9 68 4 mX6_dropSigns := ⟨rfl, by decide, xW_t 226 (by decide +kernel) (by decide +kernel), (xW_t 227 (by decide +kernel) (by decide +kernel)), (xW_t 228 (by decide +kernel) (by decide +kernel))⟩
theorem l_9_72 : xLv 9 72 4 mX6_read := ⟨rfl, by decide, xW_t 234 (by decide +kernel) (by decide +kernel), (xW_t 235 (by decide +kernel) (by decide +kernel)), (xW_t 236 (by decide +kernel) (by decide +kernel))⟩
theorem f_9_75 : xFl 9 75 4 0 := ⟨xW_t 130 (by decide +kernel) (by decide +kernel), by decide, by decide⟩
theorem l_9_78 : xLv 9 78 1 mX1_copyFrom := ⟨rfl, by decide, xW_t 289 (by decide +kernel) (by decide +kernel), (xW_t 290 (by decide +kernel) (by decide +kernel)), (xW_t 291 (by decide +kernel) (by decide +kernel))⟩
theorem f_9_81 : xFl 9 81 4 1 := ⟨xW_t 132 (by decide +kernel) (by decide +kernel), by decide, by decide⟩
theorem l_9_84 : xLv 9 84 5 mX7_copyFrom := ⟨rfl, by decide, xW_t 296 (by decide +kernel) (by decide +kernel), (xW_t 297 (by decide +kernel) (by decide +kernel)), (xW_t 298 (by decide +kernel) (by decide +kernel))⟩
theorem l_9_87 : xLv 9 87 2 mX2_forget := ⟨rfl, by decide, xW_t 301 (by decide +kernel) (by decide +kernel), (xW_t 302 (by decide +kernel) (by decide +kernel)), (xW_t 303 (by decide +kernel) (by decide +kernel))⟩
theorem f_9_90 : xFl 9 90 1 0 := ⟨xW_t 35 (by decide +kernel) (by decide +kernel), by decide, by decide⟩
theorem l_9_94 : xLv 9 94 1 mX1_hasBlock := ⟨rfl, by decide, xW_t 313 (by decide +kernel) (by decide +kernel), (xW_t 314 (by decide +kernel) (by decide +kernel)), (xW_t 315 (by decide +kernel) (by decide +kernel))⟩
theorem f_9_98 : xFl 9 98 1 2 := ⟨xW_t 41 (by decide +kernel) (by decide +kernel), by decide, by decide⟩
theorem l_9_102 : xLv 9 102 5 mX7_hasEdge := ⟨rfl, by decide, xW_t 321 (by decide +kernel) (by decide +kernel), (xW_t 322 (by decide +kernel) (by decide +kernel)), (xW_t 323 (by decide +kernel) (by decide +kernel))⟩
theorem l_9_106 : xLv 9 106 5 mX7_target := ⟨rfl, by decide, xW_t 326 (by decide +kernel) (by decide +kernel), (xW_t 274 (by decide +kernel) (by decide +kernel)), (xW_t 275 (by decide +kernel) (by decide +kernel))⟩
theorem l_9_110 : xLv 9 110 5 mX7_count := ⟨rfl, by decide, xW_t 331 (by decide +kernel) (by decide +kernel), (xW_t 332 (by decide +kernel) (by decide +kernel)), (xW_t 333 (by decide +kernel) (by decide +kernel))⟩
theorem l_9_113 : xLv 9 113 5 mX7_runsOf := ⟨rfl, by decide, xW_t 339 (by decide +kernel) (by decide +kernel), (xW_t 340 (by decide +kernel) (by decide +kernel)), (xW_t 341 (by decide +kernel) (by decide +kernel))⟩
theorem l_9_116 : xLv 9 116 1 mX1_hasPosition := ⟨rfl, by decide, xW_t 349 (by decide +kernel) (by decide +kernel), (xW_t 350 (by decide +kernel) (by decide +kernel)), (xW_t 351 (by decide +kernel) (by decide +kernel))⟩
theorem f_9_119 : xFl 9 119 5 4 := ⟨xW_t 75 (by decide +kernel) (by decide +kernel), by decide, by decide⟩
theorem f_9_122 : xFl 9 122 5 5 := ⟨xW_t 80 (by decide +kernel) (by decide +kernel), by decide, by decide⟩
theorem l_9_125 : xLv 9 125 5 mX7_totalCost := ⟨rfl, by decide, xW_t 361 (by decide +kernel) (by decide +kernel), (xW_t 362 (by decide +kernel) (by decide +kernel)), (xW_t 363 (by decide +kernel) (by decide +kernel))⟩
theorem l_9_128 : xLs 9 128 mX4_endOfCode := ⟨xW_t 381 (by decide +kernel) (by decide +kernel), (xW_t 382 (by decide +kernel) (by decide +kernel))⟩
theorem l_9_134 : xLs 9 134 mX4_startOf := ⟨xW_t 409 (by decide +kernel) (by decide +kernel), (xW_t 410 (by decide +kernel) (by decide +kernel))⟩
theorem l_9_138 : xLv 9 138 5 mX7_followerOf := ⟨rfl, by decide, xW_t 416 (by decide +kernel) (by decide +kernel), (xW_t 417 (by decide +kernel) (by decide +kernel)), (xW_t 418 (by decide +kernel) (by decide +kernel))⟩
theorem l_9_141 : xLv 9 141 5 mX7_branchBytesBefore := ⟨rfl, by decide, xW_t 420 (by decide +kernel) (by decide +kernel), (xW_t 402 (by decide +kernel) (by decide +kernel)), (xW_t 403 (by decide +kernel) (by decide +kernel))⟩
theorem l_9_144 : xLv 9 144 5 mX7_passCost := ⟨rfl, by decide, xW_t 425 (by decide +kernel) (by decide +kernel), (xW_t 374 (by decide +kernel) (by decide +kernel)), (xW_t 375 (by decide +kernel) (by decide +kernel))⟩
theorem l_9_148 : xLv 9 148 0 mX0_merge := ⟨rfl, by decide, xW_t 430 (by decide +kernel) (by decide +kernel), (xW_t 431 (by decide +kernel) (by decide +kernel)), (xW_t 432 (by decide +kernel) (by decide +kernel))⟩
theorem f_9_151 : xFl 9 151 0 0 := ⟨xW_t 154 (by decide +kernel) (by decide +kernel), by decide, by decide⟩
theorem l_9_154 : xLv 9 154 3 mX3_leastCost := ⟨rfl, by decide, xW_t 451 (by decide +kernel) (by decide +kernel), (xW_t 452 (by decide +kernel) (by decide +kernel)), (xW_t 453 (by decide +kernel) (by decide +kernel))⟩
theorem l_9_157 : xLv 9 157 5 mX7_refusalToTurn := ⟨rfl, by decide, xW_t 488 (by decide +kernel) (by decide +kernel), (xW_t 489 (by decide +kernel) (by decide +kernel)), (xW_t 490 (by decide +kernel) (by decide +kernel))⟩
theorem l_9_160 : xLv 9 160 5 mX7_turn := ⟨rfl, by decide, xW_t 493 (by decide +kernel) (by decide +kernel), (xW_t 494 (by decide +kernel) (by decide +kernel)), (xW_t 495 (by decide +kernel) (by decide +kernel))⟩
theorem l_9_164 : xLv 9 164 2 mX2_remember := ⟨rfl, by decide, xW_t 501 (by decide +kernel) (by decide +kernel), (xW_t 502 (by decide +kernel) (by decide +kernel)), (xW_t 503 (by decide +kernel) (by decide +kernel))⟩
theorem l_9_167 : xLv 9 167 0 mX0_arrange := ⟨rfl, by decide, xW_t 506 (by decide +kernel) (by decide +kernel), (xW_t 507 (by decide +kernel) (by decide +kernel)), (xW_t 508 (by decide +kernel) (by decide +kernel))⟩
theorem l_9_170 : xLv 9 170 3 mX3_arrange := ⟨rfl, by decide, xW_t 531 (by decide +kernel) (by decide +kernel), (xW_t 532 (by decide +kernel) (by decide +kernel)), (xW_t 533 (by decide +kernel) (by decide +kernel))⟩
theorem l_9_171 : xLv 9 171 5 mX7_refusalToExchange := ⟨rfl, by decide, xW_t 540 (by decide +kernel) (by decide +kernel), (xW_t 541 (by decide +kernel) (by decide +kernel)), (xW_t 542 (by decide +kernel) (by decide +kernel))⟩
theorem l_9_174 : xLv 9 174 5 mX7_exchange := ⟨rfl, by decide, xW_t 544 (by decide +kernel) (by decide +kernel), (xW_t 545 (by decide +kernel) (by decide +kernel)), (xW_t 546 (by decide +kernel) (by decide +kernel))⟩
theorem l_9_177 : xLs 9 177 mX7_refusalToDivide := ⟨xW_t 556 (by decide +kernel) (by decide +kernel), (xW_t 557 (by decide +kernel) (by decide +kernel))⟩
theorem l_9_180 : xLv 9 180 5 mX7_divide := ⟨rfl, by decide, xW_t 559 (by decide +kernel) (by decide +kernel), (xW_t 560 (by decide +kernel) (by decide +kernel)), (xW_t 561 (by decide +kernel) (by decide +kernel))⟩
theorem l_9_184 : xLv 9 184 5 mX7_refusalToGoAround := ⟨rfl, by decide, xW_t 568 (by decide +kernel) (by decide +kernel), (xW_t 569 (by decide +kernel) (by decide +kernel)), (xW_t 570 (by decide +kernel) (by decide +kernel))⟩
theorem l_9_187 : xLv 9 187 5 mX7_goAround := ⟨rfl, by decide, xW_t 572 (by decide +kernel) (by decide +kernel), (xW_t 573 (by decide +kernel) (by decide +kernel)), (xW_t 574 (by decide +kernel) (by decide +kernel))⟩
theorem l_9_190 : xLv 9 190 5 mX7_putCount := ⟨rfl, by decide, xW_t 587 (by decide +kernel) (by decide +kernel), (xW_t 282 (by decide +kernel) (by decide +kernel)), (xW_t 283 (by decide +kernel) (by decide +kernel))⟩
theorem l_9_194 : xLs 9 194 mJ6_bitCount_0f7a4 := ⟨xW_t 592 (by decide +kernel) (by decide +kernel), (xW_t 593 (by decide +kernel) (by decide +kernel))⟩
theorem f_9_199 : xFl 9 199 5 6 := ⟨xW_t 83 (by decide +kernel) (by decide +kernel), by decide, by decide⟩
theorem l_9_202 : xLv 9 202 2 mX2_takeBack := ⟨rfl, by decide, xW_t 602 (by decide +kernel) (by decide +kernel), (xW_t 603 (by decide +kernel) (by decide +kernel)), (xW_t 604 (by decide +kernel) (by decide +kernel))⟩
theorem l_9_205 : xLs 9 205 mX5_isWellFormed := ⟨xW_t 610 (by decide +kernel) (by decide +kernel), (xW_t 611 (by decide +kernel) (by decide +kernel))⟩
theorem l_9_211 : xLs 9 211 mX5_firstFailure := ⟨xW_t 617 (by decide +kernel) (by decide +kernel), (xW_t 618 (by decide +kernel) (by decide +kernel))⟩
theorem l_9_215 : xLs 9 215 mX8_costOf := ⟨xW_t 655 (by decide +kernel) (by decide +kernel), (xW_t 656 (by decide +kernel) (by decide +kernel))⟩
theorem f_10_7 : xFl 10 7 7 0 := ⟨xW_t 681 (by decide +kernel) (by decide +kernel), by decide, by decide⟩
theorem f_10_13 : xFl 10 13 7 3 := ⟨xW_t 684 (by decide +kernel) (by decide +kernel), by decide, by decide⟩
theorem f_10_16 : xFl 10 16 7 5 := ⟨xW_t 686 (by decide +kernel) (by decide +kernel), by decide, by decide⟩
theorem f_10_19 : xFl 10 19 7 6 := ⟨xW_t 687 (by decide +kernel) (by decide +kernel), by decide, by decide⟩
theorem f_10_22 : xFl 10 22 7 7 := ⟨xW_t 688 (by decide +kernel) (by decide +kernel), by decide, by decide⟩
theorem f_10_25 : xFl 10 25 7 8 := ⟨xW_t 689 (by decide +kernel) (by decide +kernel), by decide, by decide⟩
theorem f_10_28 : xFl 10 28 7 11 := ⟨xW_t 692 (by decide +kernel) (by decide +kernel), by decide, by decide⟩
theorem f_10_31 : xFl 10 31 7 12 := ⟨xW_t 693 (by decide +kernel) (by decide +kernel), by decide, by decide⟩
theorem f_10_35 : xFl 10 35 7 16 := ⟨xW_t 697 (by decide +kernel) (by decide +kernel), by decide, by decide⟩
theorem f_10_38 : xFl 10 38 7 17 := ⟨xW_t 698 (by decide +kernel) (by decide +kernel), by decide, by decide⟩
theorem f_10_41 : xFl 10 41 7 18 := ⟨xW_t 699 (by decide +kernel) (by decide +kernel), by decide, by decide⟩
theorem f_10_44 : xFl 10 44 7 19 := ⟨xW_t 700 (by decide +kernel) (by decide +kernel), by decide, by decide⟩
theorem f_10_47 : xFl 10 47 7 20 := ⟨xW_t 701 (by decide +kernel) (by decide +kernel), by decide, by decide⟩
theorem f_10_50 : xFl 10 50 7 21 := ⟨xW_t 702 (by decide +kernel) (by decide +kernel), by decide, by decide⟩
theorem f_10_53 : xFl 10 53 7 2 := ⟨xW_t 683 (by decide +kernel) (by decide +kernel), by decide, by decide⟩
theorem l_10_57 : xLs 10 57 mX10_in := ⟨xW_t 756 (by decide +kernel) (by decide +kernel), (xW_t 757 (by decide +kernel) (by decide +kernel))⟩
theorem l_10_61 : xLv 10 61 7 mX10_isBlock := ⟨rfl, by decide, xW_t 802 (by decide +kernel) (by decide +kernel), (xW_t 804 (by decide +kernel) (by decide +kernel)), (xW_s 25 (by decide +kernel) (by decide +kernel))⟩
theorem q_10_65 : xK2 10 65 (255) := ⟨xW_t 755 (by decide +kernel) (by decide +kernel), by decide, by decide⟩
theorem f_10_67 : xFl 10 67 7 1 := ⟨xW_t 682 (by decide +kernel) (by decide +kernel), by decide, by decide⟩
theorem f_10_70 : xFl 10 70 7 13 := ⟨xW_t 694 (by decide +kernel) (by decide +kernel), by decide, by decide⟩
theorem l_10_73 : xLv 10 73 7 mX10_figure := ⟨rfl, by decide, xW_t 771 (by decide +kernel) (by decide +kernel), (xW_t 773 (by decide +kernel) (by decide +kernel)), (xW_s 21 (by decide +kernel) (by decide +kernel))⟩
theorem f_10_77 : xFl 10 77 7 14 := ⟨xW_t 695 (by decide +kernel) (by decide +kernel), by decide, by decide⟩
theorem l_10_80 : xLv 10 80 7 mX10_twoFigures := ⟨rfl, by decide, xW_t 775 (by decide +kernel) (by decide +kernel), (xW_t 777 (by decide +kernel) (by decide +kernel)), (xW_s 22 (by decide +kernel) (by decide +kernel))⟩
theorem l_10_84 : xLv 10 84 7 mX10_readSuccessor := ⟨rfl, by decide, xW_t 783 (by decide +kernel) (by decide +kernel), (xW_t 785 (by decide +kernel) (by decide +kernel)), (xW_s 24 (by decide +kernel) (by decide +kernel))⟩
theorem f_10_88 : xFl 10 88 7 15 := ⟨xW_t 696 (by decide +kernel) (by decide +kernel), by decide, by decide⟩
theorem l_10_91 : xLv 10 91 7 mX10_readBlock := ⟨rfl, by decide, xW_t 779 (by decide +kernel) (by decide +kernel), (xW_t 781 (by decide +kernel) (by decide +kernel)), (xW_s 23 (by decide +kernel) (by decide +kernel))⟩
theorem l_10_94 : xLv 10 94 7 mX10_readText := ⟨rfl, by decide, xW_t 767 (by decide +kernel) (by decide +kernel), (xW_t 769 (by decide +kernel) (by decide +kernel)), (xW_s 20 (by decide +kernel) (by decide +kernel))⟩
theorem f_10_97 : xFl 10 97 7 4 := ⟨xW_t 685 (by decide +kernel) (by decide +kernel), by decide, by decide⟩
theorem l_10_100 : xLs 10 100 mX10_copy := ⟨xW_t 791 (by decide +kernel) (by decide +kernel), (xW_t 792 (by decide +kernel) (by decide +kernel))⟩
theorem f_10_104 : xFl 10 104 7 9 := ⟨xW_t 690 (by decide +kernel) (by decide +kernel), by decide, by decide⟩
theorem l_10_107 : xLv 10 107 7 mX10_isEdge := ⟨rfl, by decide, xW_t 810 (by decide +kernel) (by decide +kernel), (xW_t 812 (by decide +kernel) (by decide +kernel)), (xW_s 26 (by decide +kernel) (by decide +kernel))⟩
theorem l_10_110 : xLv 10 110 7 mX10_executionsOf := ⟨rfl, by decide, xW_t 822 (by decide +kernel) (by decide +kernel), (xW_t 824 (by decide +kernel) (by decide +kernel)), (xW_s 27 (by decide +kernel) (by decide +kernel))⟩
theorem l_10_114 : xLv 10 114 7 mX10_positionOf := ⟨rfl, by decide, xW_t 854 (by decide +kernel) (by decide +kernel), (xW_t 856 (by decide +kernel) (by decide +kernel)), (xW_s 32 (by decide +kernel) (by decide +kernel))⟩
theorem l_10_117 : xLv 10 117 7 mX10_followerOf := ⟨rfl, by decide, xW_t 850 (by decide +kernel) (by decide +kernel), (xW_t 852 (by decide +kernel) (by decide +kernel)), (xW_s 31 (by decide +kernel) (by decide +kernel))⟩
theorem l_10_120 : xLv 10 120 7 mX10_edgeCostOf := ⟨rfl, by decide, xW_t 846 (by decide +kernel) (by decide +kernel), (xW_t 848 (by decide +kernel) (by decide +kernel)), (xW_s 30 (by decide +kernel) (by decide +kernel))⟩
theorem l_10_124 : xLv 10 124 7 mX10_isLoopHead := ⟨rfl, by decide, xW_t 866 (by decide +kernel) (by decide +kernel), (xW_t 868 (by decide +kernel) (by decide +kernel)), (xW_s 34 (by decide +kernel) (by decide +kernel))⟩
theorem l_10_128 : xLs 10 128 mX10_up := ⟨xW_t 870 (by decide +kernel) (by decide +kernel), (xW_t 871 (by decide +kernel) (by decide +kernel))⟩
theorem l_10_131 : xLv 10 131 7 mX10_branchBytesOf := ⟨rfl, by decide, xW_t 873 (by decide +kernel) (by decide +kernel), (xW_t 875 (by decide +kernel) (by decide +kernel)), (xW_s 35 (by decide +kernel) (by decide +kernel))⟩
theorem f_10_134 : xFl 10 134 7 22 := ⟨xW_t 703 (by decide +kernel) (by decide +kernel), by decide, by decide⟩
theorem l_10_137 : xLv 10 137 7 mX10_isPosition := ⟨rfl, by decide, xW_t 830 (by decide +kernel) (by decide +kernel), (xW_t 832 (by decide +kernel) (by decide +kernel)), (xW_s 28 (by decide +kernel) (by decide +kernel))⟩
theorem l_10_140 : xLv 10 140 7 mX10_costOf := ⟨rfl, by decide, xW_t 842 (by decide +kernel) (by decide +kernel), (xW_t 844 (by decide +kernel) (by decide +kernel)), (xW_s 29 (by decide +kernel) (by decide +kernel))⟩
theorem l_10_144 : xLv 10 144 7 mX10_addressOf := ⟨rfl, by decide, xW_t 862 (by decide +kernel) (by decide +kernel), (xW_t 864 (by decide +kernel) (by decide +kernel)), (xW_s 33 (by decide +kernel) (by decide +kernel))⟩
theorem l_10_147 : xLv 10 147 7 mX10_layChains := ⟨rfl, by decide, xW_t 893 (by decide +kernel) (by decide +kernel), (xW_t 895 (by decide +kernel) (by decide +kernel)), (xW_s 36 (by decide +kernel) (by decide +kernel))⟩
theorem l_10_150 : xLv 10 150 7 mX10_note := ⟨rfl, by decide, xW_t 901 (by decide +kernel) (by decide +kernel), (xW_t 903 (by decide +kernel) (by decide +kernel)), (xW_s 37 (by decide +kernel) (by decide +kernel))⟩
theorem l_10_153 : xLv 10 153 7 mX10_weightOf := ⟨rfl, by decide, xW_t 905 (by decide +kernel) (by decide +kernel), (xW_t 907 (by decide +kernel) (by decide +kernel)), (xW_s 38 (by decide +kernel) (by decide +kernel))⟩
theorem l_10_157 : xLv 10 157 7 mX10_layOrder := ⟨rfl, by decide, xW_t 917 (by decide +kernel) (by decide +kernel), (xW_t 919 (by decide +kernel) (by decide +kernel)), (xW_s 40 (by decide +kernel) (by decide +kernel))⟩
theorem l_10_161 : xLv 10 161 7 mX10_findOptimal := ⟨rfl, by decide, xW_t 913 (by decide +kernel) (by decide +kernel), (xW_t 915 (by decide +kernel) (by decide +kernel)), (xW_s 39 (by decide +kernel) (by decide +kernel))⟩
theorem l_10_164 : xLv 10 164 7 mX10_rangeError := ⟨rfl, by decide, xW_t 929 (by decide +kernel) (by decide +kernel), (xW_t 931 (by decide +kernel) (by decide +kernel)), (xW_s 41 (by decide +kernel) (by decide +kernel))⟩
theorem l_10_167 : xLv 10 167 7 mX10_layRotated := ⟨rfl, by decide, xW_t 933 (by decide +kernel) (by decide +kernel), (xW_t 935 (by decide +kernel) (by decide +kernel)), (xW_s 42 (by decide +kernel) (by decide +kernel))⟩
theorem f_10_171 : xFl 10 171 7 10 := ⟨xW_t 691 (by decide +kernel) (by decide +kernel), by decide, by decide⟩
theorem l_10_174 : xLv 10 174 7 mX10_swapError := ⟨rfl, by decide, xW_t 941 (by decide +kernel) (by decide +kernel), (xW_t 943 (by decide +kernel) (by decide +kernel)), (xW_s 43 (by decide +kernel) (by decide +kernel))⟩
theorem l_10_177 : xLs 10 177 mX10_swapIn := ⟨xW_t 945 (by decide +kernel) (by decide +kernel), (xW_t 946 (by decide +kernel) (by decide +kernel))⟩
theorem l_10_181 : xLs 10 181 mX10_rotateIn := ⟨xW_t 952 (by decide +kernel) (by decide +kernel), (xW_t 953 (by decide +kernel) (by decide +kernel))⟩
theorem q_10_184 : xK2 10 184 (99) := ⟨xW_t 959 (by decide +kernel) (by decide +kernel), by decide, by decide⟩
theorem l_10_186 : xLv 10 186 7 mX10_splitIn := ⟨rfl, by decide, xW_t 960 (by decide +kernel) (by decide +kernel), (xW_t 962 (by decide +kernel) (by decide +kernel)), (xW_s 44 (by decide +kernel) (by decide +kernel))⟩
theorem l_10_189 : xLv 10 189 7 mX10_bypassError := ⟨rfl, by decide, xW_t 968 (by decide +kernel) (by decide +kernel), (xW_t 970 (by decide +kernel) (by decide +kernel)), (xW_s 45 (by decide +kernel) (by decide +kernel))⟩
theorem l_10_192 : xLv 10 192 7 mX10_bypassIn := ⟨rfl, by decide, xW_t 972 (by decide +kernel) (by decide +kernel), (xW_t 974 (by decide +kernel) (by decide +kernel)), (xW_s 46 (by decide +kernel) (by decide +kernel))⟩
theorem q_10_195 : xK2 10 195 (10000) := ⟨xW_t 996 (by decide +kernel) (by decide +kernel), by decide, by decide⟩
theorem q_10_197 : xK2 10 197 (4) := ⟨xW_t 992 (by decide +kernel) (by decide +kernel), by decide, by decide⟩
theorem l_10_199 : xLs 10 199 mX10_tenThousands := ⟨xW_t 993 (by decide +kernel) (by decide +kernel), (xW_t 994 (by decide +kernel) (by decide +kernel))⟩
theorem l_10_203 : xLv 10 203 7 mX10_command := ⟨rfl, by decide, xW_t 997 (by decide +kernel) (by decide +kernel), (xW_t 999 (by decide +kernel) (by decide +kernel)), (xW_s 47 (by decide +kernel) (by decide +kernel))⟩
theorem q_10_207 : xK2 10 207 (6364136223846793005) := ⟨xW_t 1005 (by decide +kernel) (by decide +kernel), by decide, by decide⟩
theorem q_10_209 : xK2 10 209 (1442695040888963407) := ⟨xW_t 1006 (by decide +kernel) (by decide +kernel), by decide, by decide⟩
theorem q_12_265 : xK1 12 265 (1431655765) := ⟨xW_t 595 (by decide +kernel) (by decide +kernel), by decide, by decide⟩
theorem q_12_266 : xK1 12 266 (858993459) := ⟨xW_t 596 (by decide +kernel) (by decide +kernel), by decide, by decide⟩
theorem q_12_267 : xK1 12 267 (252645135) := ⟨xW_t 597 (by decide +kernel) (by decide +kernel), by decide, by decide⟩
theorem k_11_7 : xCl 11 7 6 := ⟨xW_t 15 (by decide +kernel) (by decide +kernel), (xW_t 16 (by decide +kernel) (by decide +kernel)), (xW_t 1 (by decide +kernel) (by decide +kernel)), by decide⟩
theorem l_11_9 : xLi 11 9 mX9_init := ⟨xW_t 17 (by decide +kernel) (by decide +kernel), (xW_t 18 (by decide +kernel) (by decide +kernel)), rfl, rfl⟩
theorem k_11_10 : xCl 11 10 7 := ⟨xW_t 675 (by decide +kernel) (by decide +kernel), (xW_t 676 (by decide +kernel) (by decide +kernel)), (xW_t 8 (by decide +kernel) (by decide +kernel)), by decide⟩
theorem l_11_12 : xLi 11 12 mX10_init := ⟨xW_t 677 (by decide +kernel) (by decide +kernel), (xW_t 678 (by decide +kernel) (by decide +kernel)), rfl, rfl⟩
theorem l_11_13 : xLv 11 13 6 mX9_append := ⟨rfl, by decide, xW_t 214 (by decide +kernel) (by decide +kernel), (xW_t 215 (by decide +kernel) (by decide +kernel)), (xW_t 216 (by decide +kernel) (by decide +kernel))⟩
theorem l_11_17 : xLv 11 17 7 mX10_append := ⟨rfl, by decide, xW_t 751 (by decide +kernel) (by decide +kernel), (xW_t 752 (by decide +kernel) (by decide +kernel)), (xW_t 753 (by decide +kernel) (by decide +kernel))⟩
theorem l_11_18 : xLv 11 18 6 mX9_clearText := ⟨rfl, by decide, xW_t 222 (by decide +kernel) (by decide +kernel), (xW_t 223 (by decide +kernel) (by decide +kernel)), (xW_t 224 (by decide +kernel) (by decide +kernel))⟩
theorem l_11_22 : xLv 11 22 7 mX10_clearText := ⟨rfl, by decide, xW_t 759 (by decide +kernel) (by decide +kernel), (xW_t 760 (by decide +kernel) (by decide +kernel)), (xW_t 761 (by decide +kernel) (by decide +kernel))⟩
theorem l_11_23 : xLv 11 23 6 mX9_errorPosition := ⟨rfl, by decide, xW_t 230 (by decide +kernel) (by decide +kernel), (xW_t 231 (by decide +kernel) (by decide +kernel)), (xW_t 232 (by decide +kernel) (by decide +kernel))⟩
theorem l_11_26 : xLv 11 26 7 mX10_errorPosition := ⟨rfl, by decide, xW_t 763 (by decide +kernel) (by decide +kernel), (xW_t 764 (by decide +kernel) (by decide +kernel)), (xW_t 765 (by decide +kernel) (by decide +kernel))⟩
theorem l_11_27 : xLv 11 27 6 mX9_load := ⟨rfl, by decide, xW_t 285 (by decide +kernel) (by decide +kernel), (xW_t 286 (by decide +kernel) (by decide +kernel)), (xW_t 287 (by decide +kernel) (by decide +kernel))⟩
theorem l_11_30 : xLv 11 30 7 mX10_load := ⟨rfl, by decide, xW_t 787 (by decide +kernel) (by decide +kernel), (xW_t 788 (by decide +kernel) (by decide +kernel)), (xW_t 789 (by decide +kernel) (by decide +kernel))⟩
theorem l_11_31 : xLv 11 31 6 mX9_blockCount := ⟨rfl, by decide, xW_t 305 (by decide +kernel) (by decide +kernel), (xW_t 306 (by decide +kernel) (by decide +kernel)), (xW_t 307 (by decide +kernel) (by decide +kernel))⟩
theorem l_11_34 : xLv 11 34 7 mX10_blockCount := ⟨rfl, by decide, xW_t 794 (by decide +kernel) (by decide +kernel), (xW_t 795 (by decide +kernel) (by decide +kernel)), (xW_t 796 (by decide +kernel) (by decide +kernel))⟩
theorem l_11_35 : xLv 11 35 6 mX9_size := ⟨rfl, by decide, xW_t 309 (by decide +kernel) (by decide +kernel), (xW_t 310 (by decide +kernel) (by decide +kernel)), (xW_t 311 (by decide +kernel) (by decide +kernel))⟩
theorem l_11_38 : xLv 11 38 7 mX10_size := ⟨rfl, by decide, xW_t 798 (by decide +kernel) (by decide +kernel), (xW_t 799 (by decide +kernel) (by decide +kernel)), (xW_t 800 (by decide +kernel) (by decide +kernel))⟩
theorem l_11_39 : xLv 11 39 6 mX9_successor := ⟨rfl, by decide, xW_t 317 (by decide +kernel) (by decide +kernel), (xW_t 318 (by decide +kernel) (by decide +kernel)), (xW_t 319 (by decide +kernel) (by decide +kernel))⟩
theorem l_11_43 : xLv 11 43 7 mX10_successor := ⟨rfl, by decide, xW_t 806 (by decide +kernel) (by decide +kernel), (xW_t 807 (by decide +kernel) (by decide +kernel)), (xW_t 808 (by decide +kernel) (by decide +kernel))⟩
theorem l_11_44 : xLv 11 44 6 mX9_edgeCount := ⟨rfl, by decide, xW_t 327 (by decide +kernel) (by decide +kernel), (xW_t 328 (by decide +kernel) (by decide +kernel)), (xW_t 329 (by decide +kernel) (by decide +kernel))⟩
theorem l_11_47 : xLv 11 47 7 mX10_edgeCount := ⟨rfl, by decide, xW_t 814 (by decide +kernel) (by decide +kernel), (xW_t 815 (by decide +kernel) (by decide +kernel)), (xW_t 816 (by decide +kernel) (by decide +kernel))⟩
theorem l_11_48 : xLv 11 48 6 mX9_executions := ⟨rfl, by decide, xW_t 335 (by decide +kernel) (by decide +kernel), (xW_t 336 (by decide +kernel) (by decide +kernel)), (xW_t 337 (by decide +kernel) (by decide +kernel))⟩
theorem l_11_51 : xLv 11 51 7 mX10_executions := ⟨rfl, by decide, xW_t 818 (by decide +kernel) (by decide +kernel), (xW_t 819 (by decide +kernel) (by decide +kernel)), (xW_t 820 (by decide +kernel) (by decide +kernel))⟩
theorem l_11_52 : xLv 11 52 6 mX9_blockAt := ⟨rfl, by decide, xW_t 345 (by decide +kernel) (by decide +kernel), (xW_t 346 (by decide +kernel) (by decide +kernel)), (xW_t 347 (by decide +kernel) (by decide +kernel))⟩
theorem l_11_55 : xLv 11 55 7 mX10_blockAt := ⟨rfl, by decide, xW_t 826 (by decide +kernel) (by decide +kernel), (xW_t 827 (by decide +kernel) (by decide +kernel)), (xW_t 828 (by decide +kernel) (by decide +kernel))⟩
theorem l_11_56 : xLv 11 56 6 mX9_hotCount := ⟨rfl, by decide, xW_t 353 (by decide +kernel) (by decide +kernel), (xW_t 354 (by decide +kernel) (by decide +kernel)), (xW_t 355 (by decide +kernel) (by decide +kernel))⟩
theorem l_11_59 : xLv 11 59 7 mX10_hotCount := ⟨rfl, by decide, xW_t 834 (by decide +kernel) (by decide +kernel), (xW_t 835 (by decide +kernel) (by decide +kernel)), (xW_t 836 (by decide +kernel) (by decide +kernel))⟩
theorem l_11_60 : xLv 11 60 6 mX9_cost := ⟨rfl, by decide, xW_t 357 (by decide +kernel) (by decide +kernel), (xW_t 358 (by decide +kernel) (by decide +kernel)), (xW_t 359 (by decide +kernel) (by decide +kernel))⟩
theorem l_11_63 : xLv 11 63 7 mX10_cost := ⟨rfl, by decide, xW_t 838 (by decide +kernel) (by decide +kernel), (xW_t 839 (by decide +kernel) (by decide +kernel)), (xW_t 840 (by decide +kernel) (by decide +kernel))⟩
theorem l_11_64 : xLv 11 64 6 mX9_codeSize := ⟨rfl, by decide, xW_t 377 (by decide +kernel) (by decide +kernel), (xW_t 378 (by decide +kernel) (by decide +kernel)), (xW_t 379 (by decide +kernel) (by decide +kernel))⟩
theorem l_11_67 : xLv 11 67 7 mX10_codeSize := ⟨rfl, by decide, xW_t 858 (by decide +kernel) (by decide +kernel), (xW_t 859 (by decide +kernel) (by decide +kernel)), (xW_t 860 (by decide +kernel) (by decide +kernel))⟩
theorem l_11_68 : xLv 11 68 6 mX9_address := ⟨rfl, by decide, xW_t 405 (by decide +kernel) (by decide +kernel), (xW_t 406 (by decide +kernel) (by decide +kernel)), (xW_t 407 (by decide +kernel) (by decide +kernel))⟩
theorem l_11_71 : xLv 11 71 7 mX10_address := ⟨rfl, by decide, xW_t 877 (by decide +kernel) (by decide +kernel), (xW_t 878 (by decide +kernel) (by decide +kernel)), (xW_t 879 (by decide +kernel) (by decide +kernel))⟩
theorem l_11_72 : xLv 11 72 6 mX9_branchBytes := ⟨rfl, by decide, xW_t 412 (by decide +kernel) (by decide +kernel), (xW_t 413 (by decide +kernel) (by decide +kernel)), (xW_t 414 (by decide +kernel) (by decide +kernel))⟩
theorem l_11_75 : xLv 11 75 7 mX10_branchBytes := ⟨rfl, by decide, xW_t 881 (by decide +kernel) (by decide +kernel), (xW_t 882 (by decide +kernel) (by decide +kernel)), (xW_t 883 (by decide +kernel) (by decide +kernel))⟩
theorem l_11_76 : xLv 11 76 6 mX9_edgeCost := ⟨rfl, by decide, xW_t 421 (by decide +kernel) (by decide +kernel), (xW_t 422 (by decide +kernel) (by decide +kernel)), (xW_t 423 (by decide +kernel) (by decide +kernel))⟩
theorem l_11_79 : xLv 11 79 7 mX10_edgeCost := ⟨rfl, by decide, xW_t 885 (by decide +kernel) (by decide +kernel), (xW_t 886 (by decide +kernel) (by decide +kernel)), (xW_t 887 (by decide +kernel) (by decide +kernel))⟩
theorem l_11_80 : xLv 11 80 6 mX9_chainHead := ⟨rfl, by decide, xW_t 426 (by decide +kernel) (by decide +kernel), (xW_t 427 (by decide +kernel) (by decide +kernel)), (xW_t 428 (by decide +kernel) (by decide +kernel))⟩
theorem l_11_83 : xLv 11 83 7 mX10_chainHead := ⟨rfl, by decide, xW_t 889 (by decide +kernel) (by decide +kernel), (xW_t 890 (by decide +kernel) (by decide +kernel)), (xW_t 891 (by decide +kernel) (by decide +kernel))⟩
theorem l_11_84 : xLv 11 84 6 mX9_optimalCost := ⟨rfl, by decide, xW_t 447 (by decide +kernel) (by decide +kernel), (xW_t 448 (by decide +kernel) (by decide +kernel)), (xW_t 449 (by decide +kernel) (by decide +kernel))⟩
theorem l_11_87 : xLv 11 87 7 mX10_optimalCost := ⟨rfl, by decide, xW_t 909 (by decide +kernel) (by decide +kernel), (xW_t 910 (by decide +kernel) (by decide +kernel)), (xW_t 911 (by decide +kernel) (by decide +kernel))⟩
theorem l_11_88 : xLv 11 88 6 mX9_bestRotation := ⟨rfl, by decide, xW_t 484 (by decide +kernel) (by decide +kernel), (xW_t 485 (by decide +kernel) (by decide +kernel)), (xW_t 486 (by decide +kernel) (by decide +kernel))⟩
theorem l_11_91 : xLv 11 91 7 mX10_bestRotation := ⟨rfl, by decide, xW_t 925 (by decide +kernel) (by decide +kernel), (xW_t 926 (by decide +kernel) (by decide +kernel)), (xW_t 927 (by decide +kernel) (by decide +kernel))⟩
theorem l_11_92 : xLv 11 92 6 mX9_orderByChains := ⟨rfl, by decide, xW_t 497 (by decide +kernel) (by decide +kernel), (xW_t 498 (by decide +kernel) (by decide +kernel)), (xW_t 499 (by decide +kernel) (by decide +kernel))⟩
theorem l_11_95 : xLv 11 95 7 mX10_orderByChains := ⟨rfl, by decide, xW_t 897 (by decide +kernel) (by decide +kernel), (xW_t 898 (by decide +kernel) (by decide +kernel)), (xW_t 899 (by decide +kernel) (by decide +kernel))⟩
theorem l_11_96 : xLv 11 96 6 mX9_orderOptimally := ⟨rfl, by decide, xW_t 527 (by decide +kernel) (by decide +kernel), (xW_t 528 (by decide +kernel) (by decide +kernel)), (xW_t 529 (by decide +kernel) (by decide +kernel))⟩
theorem l_11_99 : xLv 11 99 7 mX10_orderOptimally := ⟨rfl, by decide, xW_t 921 (by decide +kernel) (by decide +kernel), (xW_t 922 (by decide +kernel) (by decide +kernel)), (xW_t 923 (by decide +kernel) (by decide +kernel))⟩
theorem l_11_100 : xLv 11 100 6 mX9_swap := ⟨rfl, by decide, xW_t 536 (by decide +kernel) (by decide +kernel), (xW_t 537 (by decide +kernel) (by decide +kernel)), (xW_t 538 (by decide +kernel) (by decide +kernel))⟩
theorem l_11_103 : xLv 11 103 7 mX10_swap := ⟨rfl, by decide, xW_t 937 (by decide +kernel) (by decide +kernel), (xW_t 938 (by decide +kernel) (by decide +kernel)), (xW_t 939 (by decide +kernel) (by decide +kernel))⟩
theorem l_11_104 : xLv 11 104 6 mX9_rotate := ⟨rfl, by decide, xW_t 548 (by decide +kernel) (by decide +kernel), (xW_t 549 (by decide +kernel) (by decide +kernel)), (xW_t 550 (by decide +kernel) (by decide +kernel))⟩
theorem l_11_107 : xLv 11 107 7 mX10_rotate := ⟨rfl, by decide, xW_t 948 (by decide +kernel) (by decide +kernel), (xW_t 949 (by decide +kernel) (by decide +kernel)), (xW_t 950 (by decide +kernel) (by decide +kernel))⟩
theorem l_11_108 : xLv 11 108 6 mX9_split := ⟨rfl, by decide, xW_t 552 (by decide +kernel) (by decide +kernel), (xW_t 553 (by decide +kernel) (by decide +kernel)), (xW_t 554 (by decide +kernel) (by decide +kernel))⟩
theorem l_11_111 : xLv 11 111 7 mX10_split := ⟨rfl, by decide, xW_t 955 (by decide +kernel) (by decide +kernel), (xW_t 956 (by decide +kernel) (by decide +kernel)), (xW_t 957 (by decide +kernel) (by decide +kernel))⟩
theorem l_11_112 : xLv 11 112 6 mX9_bypass := ⟨rfl, by decide, xW_t 564 (by decide +kernel) (by decide +kernel), (xW_t 565 (by decide +kernel) (by decide +kernel)), (xW_t 566 (by decide +kernel) (by decide +kernel))⟩
theorem l_11_115 : xLv 11 115 7 mX10_bypass := ⟨rfl, by decide, xW_t 964 (by decide +kernel) (by decide +kernel), (xW_t 965 (by decide +kernel) (by decide +kernel)), (xW_t 966 (by decide +kernel) (by decide +kernel))⟩
theorem l_11_116 : xLv 11 116 6 mX9_setCount := ⟨rfl, by decide, xW_t 583 (by decide +kernel) (by decide +kernel), (xW_t 584 (by decide +kernel) (by decide +kernel)), (xW_t 585 (by decide +kernel) (by decide +kernel))⟩
theorem l_11_120 : xLv 11 120 7 mX10_setCount := ⟨rfl, by decide, xW_t 976 (by decide +kernel) (by decide +kernel), (xW_t 977 (by decide +kernel) (by decide +kernel)), (xW_t 978 (by decide +kernel) (by decide +kernel))⟩
theorem l_11_121 : xLv 11 121 6 mX9_setAlignment := ⟨rfl, by decide, xW_t 588 (by decide +kernel) (by decide +kernel), (xW_t 589 (by decide +kernel) (by decide +kernel)), (xW_t 590 (by decide +kernel) (by decide +kernel))⟩
theorem l_11_124 : xLv 11 124 7 mX10_setAlignment := ⟨rfl, by decide, xW_t 980 (by decide +kernel) (by decide +kernel), (xW_t 981 (by decide +kernel) (by decide +kernel)), (xW_t 982 (by decide +kernel) (by decide +kernel))⟩
theorem l_11_125 : xLv 11 125 6 mX9_undo := ⟨rfl, by decide, xW_t 598 (by decide +kernel) (by decide +kernel), (xW_t 599 (by decide +kernel) (by decide +kernel)), (xW_t 600 (by decide +kernel) (by decide +kernel))⟩
theorem l_11_128 : xLv 11 128 7 mX10_undo := ⟨rfl, by decide, xW_t 984 (by decide +kernel) (by decide +kernel), (xW_t 985 (by decide +kernel) (by decide +kernel)), (xW_t 986 (by decide +kernel) (by decide +kernel))⟩
theorem q_11_129 : xK2 11 129 (4294967295) := ⟨xW_t 1015 (by decide +kernel) (by decide +kernel), by decide, by decide⟩
theorem l_11_131 : xLv 11 131 6 mX9_runScript := ⟨rfl, by decide, xW_t 606 (by decide +kernel) (by decide +kernel), (xW_t 607 (by decide +kernel) (by decide +kernel)), (xW_t 608 (by decide +kernel) (by decide +kernel))⟩
theorem l_11_135 : xLv 11 135 7 mX10_runScript := ⟨rfl, by decide, xW_t 988 (by decide +kernel) (by decide +kernel), (xW_t 989 (by decide +kernel) (by decide +kernel)), (xW_t 990 (by decide +kernel) (by decide +kernel))⟩
theorem l_11_136 : xLv 11 136 6 mX9_execute := ⟨rfl, by decide, xW_t 651 (by decide +kernel) (by decide +kernel), (xW_t 652 (by decide +kernel) (by decide +kernel)), (xW_t 653 (by decide +kernel) (by decide +kernel))⟩
theorem l_11_140 : xLv 11 140 7 mX10_execute := ⟨rfl, by decide, xW_t 1001 (by decide +kernel) (by decide +kernel), (xW_t 1002 (by decide +kernel) (by decide +kernel)), (xW_t 1003 (by decide +kernel) (by decide +kernel))⟩
theorem l_11_141 : xLv 11 141 6 mX9_save := ⟨rfl, by decide, xW_t 667 (by decide +kernel) (by decide +kernel), (xW_t 668 (by decide +kernel) (by decide +kernel)), (xW_t 669 (by decide +kernel) (by decide +kernel))⟩
theorem l_11_144 : xLv 11 144 7 mX10_save := ⟨rfl, by decide, xW_t 1007 (by decide +kernel) (by decide +kernel), (xW_t 1008 (by decide +kernel) (by decide +kernel)), (xW_t 1009 (by decide +kernel) (by decide +kernel))⟩
theorem l_11_145 : xLv 11 145 6 mX9_restore := ⟨rfl, by decide, xW_t 671 (by decide +kernel) (by decide +kernel), (xW_t 672 (by decide +kernel) (by decide +kernel)), (xW_t 673 (by decide +kernel) (by decide +kernel))⟩
theorem l_11_148 : xLv 11 148 7 mX10_restore := ⟨rfl, by decide, xW_t 1011 (by decide +kernel) (by decide +kernel), (xW_t 1012 (by decide +kernel) (by decide +kernel)), (xW_t 1013 (by decide +kernel) (by decide +kernel))⟩
end
section
/-! the small machine's states as the machine's -/
def gB (G : xG) : Nat := G.2.2.1
def gb (G : xG) : Nat := G.2.2.2.1
def gN (G : xG) : Nat := G.2.2.2.2.1
def gx (G : xG) : Nat → Int32 := G.2.2.2.2.2
def gtys (G : xG) : List (ClassId × FieldType) := [(G.2.1.1, .int), (G.2.1.2.1, .boolean), (G.2.1.2.2, .object RX7)]
def xcv (G : xG) (v : xV) : Value := match v with
  | .inl x => .int (Int32.ofInt x)
  | .inr (.inl x) => .long (Int64.ofInt x)
  | .inr (.inr none) => .ref (gb G)
  | .inr (.inr (some k)) => .ref (gB G + k)
def xok (v : xV) : Prop := match v with
  | .inl x => xin x
  | .inr (.inl x) => xlin x
  | .inr (.inr _) => True
def xcat (v : xV) : Nat := match v with
  | .inr (.inl _) => 2
  | _ => 1
theorem xcat_ok (G : xG) (v : xV) : (xcv G v).category = xcat v := by
  rcases v with x | x | _ | k <;> rfl
def xrf (G : xG) (r : Option Nat) : Option Nat := r.map (fun k => gB G + k)
def xfv (G : xG) (ρ : Nat → Int → Option Nat) (M : Nat → Int → Int) (k ci j : Nat) : Value := if xfr ci j then va_rf (xrf G (ρ k j)) else .int (Int32.ofInt (M k j))
def xfs (G : xG) (ρ : Nat → Int → Option Nat) (M : Nat → Int → Int) (k ci n : Nat) : List Value := (List.range n).map (xfv G ρ M k ci)
def xcl (G : xG) (ρ : Nat → Int → Option Nat) (M : Nat → Int → Int) (k : Nat) (q : Nat × Nat) : va_E :=
  if q.1 = 100 then .inl (G.2.1.1, q.2, .inl (fun j => Int32.ofInt (M k j)))
  else if q.1 = 101 then .inl (G.2.1.2.1, q.2, .inl (fun j => Int32.ofInt (M k j)))
  else if q.1 = 102 then .inl (G.2.1.2.2, q.2, .inr (.inr (.inr (.inr (fun j => xrf G (ρ k j))))))
  else .inr (q.1, xfs G ρ M k q.1 q.2)
def xws (G : xG) (σ : List (Nat × Nat)) (ρ : Nat → Int → Option Nat) (M : Nat → Int → Int) : va_W := σ.zipIdx.map (fun q => (gB G + q.2, xcl G ρ M q.2 q.1))
theorem xws_get {G : xG} {σ : List (Nat × Nat)} {ρ : Nat → Int → Option Nat} {M : Nat → Int → Int} (k : Nat) : (xws G σ ρ M)[k]? = (σ[k]?).map (fun q => (gB G + k, xcl G ρ M k q)) := by
  unfold xws
  rw [List.getElem?_map, List.getElem?_zipIdx]
  cases h : σ[k]? <;> simp
theorem xws_at {G : xG} {σ : List (Nat × Nat)} {ρ : Nat → Int → Option Nat} {M : Nat → Int → Int} {k : Nat} {q : Nat × Nat} (h : σ[k]? = some q) : (xws G σ ρ M)[k]? = some (gB G + k, xcl G ρ M k q) := by
  rw [xws_get, h]; rfl
def xA (G : xG) : Nat → Prop := fun q => gB G ≤ q
theorem xws_D (G : xG) (σ : List (Nat × Nat)) (ρ : Nat → Int → Option Nat) (M : Nat → Int → Int) : va_D (xA G) (xws G σ ρ M) := by
  have key : ∀ (k : Nat) (q : Nat × va_E), (xws G σ ρ M)[k]? = some q → q.1 = gB G + k := by
    intro k q h
    rw [xws_get] at h
    cases hs : σ[k]? with
    | none => rw [hs] at h; cases h
    | some x => rw [hs] at h; cases h; rfl
  refine ⟨fun i j p q h1 h2 h3 => ?_, fun k q h => ?_⟩
  · have := key i p h1
    have := key j q h2
    omega
  · have := key k q h
    show gB G ≤ q.1
    omega
def xu (M : Nat → Int → Int) (k : Nat) (j v : Int) : Nat → Int → Int := fun a b => if a = k ∧ b = j then v else M a b
def xur (ρ : Nat → Int → Option Nat) (k : Nat) (j : Int) (v : Option Nat) : Nat → Int → Option Nat := fun a b => if a = k ∧ b = j then v else ρ a b
theorem xcl_cong {G : xG} {ρ ρ' : Nat → Int → Option Nat} {M M' : Nat → Int → Int} {k : Nat} {q : Nat × Nat} (h1 : ρ k = ρ' k) (h2 : M k = M' k) : xcl G ρ M k q = xcl G ρ' M' k q := by
  unfold xcl xfs xfv
  rw [h1, h2]
/-- all cells but one as they were -/
theorem xws_set {G : xG} {σ : List (Nat × Nat)} {ρ ρ' : Nat → Int → Option Nat} {M M' : Nat → Int → Int} {k : Nat} {q : Nat × Nat} (hq : σ[k]? = some q) (h1 : ∀ a, a ≠ k → ρ a = ρ' a) (h2 : ∀ a, a ≠ k → M a = M' a) : xws G σ ρ' M' = (xws G σ ρ M).set k (gB G + k, xcl G ρ' M' k q) := by
  apply List.ext_getElem?
  intro i
  by_cases hi : i = k
  · subst hi
    have hl : i < (xws G σ ρ M).length := (List.getElem?_eq_some_iff.mp (xws_at (G := G) (ρ := ρ) (M := M) hq)).1
    rw [List.getElem?_set_self hl, xws_at hq]
  · rw [List.getElem?_set_ne (Ne.symm hi), xws_get, xws_get]
    cases hs : σ[i]? with
    | none => rfl
    | some x => simp only [Option.map_some]; rw [xcl_cong (h1 i hi) (h2 i hi)]
theorem xws_push {G : xG} {σ : List (Nat × Nat)} {ρ ρ' : Nat → Int → Option Nat} {M M' : Nat → Int → Int} {q : Nat × Nat} (h1 : ∀ a, a < σ.length → ρ a = ρ' a) (h2 : ∀ a, a < σ.length → M a = M' a) : xws G (σ ++ [q]) ρ' M' = xws G σ ρ M ++ [(gB G + σ.length, xcl G ρ' M' σ.length q)] := by
  have hlen : (xws G σ ρ M).length = σ.length := by simp [xws]
  apply List.ext_getElem?
  intro i
  rw [xws_get]
  by_cases hi : i < σ.length
  · rw [List.getElem?_append_left hi, List.getElem?_append_left (by omega), xws_get]
    cases hs : σ[i]? with
    | none => rfl
    | some x => simp only [Option.map_some]; rw [xcl_cong (h1 i hi) (h2 i hi)]
  · by_cases hi2 : i = σ.length
    · subst hi2
      rw [List.getElem?_append_right (Nat.le_refl _), List.getElem?_append_right (by omega), hlen, Nat.sub_self]
      rfl
    · rw [List.getElem?_eq_none (by simp; omega), List.getElem?_eq_none (by simp [xws]; omega)]
      rfl
def xRep (G : xG) (h : xH) (H : Heap) : Prop := va_P G.1 vwCl (xws G h.1 h.2.1 h.2.2) H ∧ ∀ k j, xin (h.2.2 k j)
theorem xi_toInt {a : Int} (h : xin a) : (Int32.ofInt a).toInt = a := Int32.toInt_ofInt_of_le (by have := h.1; omega) (by have := h.2; omega)
theorem xl_toInt {a : Int} (h : xlin a) : (Int64.ofInt a).toInt = a := Int64.toInt_ofInt_of_le (by have := h.1; omega) (by have := h.2; omega)
theorem xi_eq {a b : Int} (ha : xin a) (hb : xin b) : Int32.ofInt a = Int32.ofInt b ↔ a = b := by
  rw [← Int32.toInt_inj, xi_toInt ha, xi_toInt hb]
theorem xi_le {a b : Int} (ha : xin a) (hb : xin b) : Int32.ofInt a ≤ Int32.ofInt b ↔ a ≤ b := by
  rw [Int32.le_iff_toInt_le, xi_toInt ha, xi_toInt hb]
theorem xi_lt {a b : Int} (ha : xin a) (hb : xin b) : Int32.ofInt a < Int32.ofInt b ↔ a < b := by
  rw [Int32.lt_iff_toInt_lt, xi_toInt ha, xi_toInt hb]
theorem xl_lt {a b : Int} (ha : xlin a) (hb : xlin b) : Int64.ofInt a < Int64.ofInt b ↔ a < b := by
  rw [Int64.lt_iff_toInt_lt, xl_toInt ha, xl_toInt hb]
theorem xl_eq {a b : Int} (ha : xlin a) (hb : xlin b) : Int64.ofInt a = Int64.ofInt b ↔ a = b := by
  rw [← Int64.toInt_inj, xl_toInt ha, xl_toInt hb]
theorem xi_nat {a : Int} (h : xin a) : (Int32.ofInt a).toNatClampNeg = a.toNat := Int32.toNatClampNeg_ofInt_of_le (by have := h.1; omega) (by have := h.2; omega)
theorem xi_in {a : Int} {n : Nat} (h : xin a) (h0 : 0 ≤ a) (h1 : a < n) : vp_in (Int32.ofInt a) n := vp_in_iff.mpr (by rw [xi_toInt h]; exact ⟨h0, h1⟩)
theorem x32 (v : Int32) : xin v.toInt := ⟨by have := v.le_toInt; omega, by have := v.toInt_lt; omega⟩
theorem x64 (v : Int64) : xlin v.toInt := ⟨by have := v.le_toInt; omega, by have := v.toInt_lt; omega⟩
theorem x0 : Int32.ofInt 0 = 0 := rfl
/-- what holds of the method that runs -/
def xCtx (G : xG) (y : xM) (p : Program) (R : Room) (s : State) (m : MethodId) (args : Array Value) (meth : Method) (c : Code) : Prop :=
  p.tables.exec = Jvm.exec ∧ c.code = xcd y ∧ c.maxLocals = xml y ∧ meth.sig.returnType = xrt y ∧ meth.locks = false ∧ ((xnm y).name = "<init>" → meth.name = "<init>") ∧ s.vm.findClass (xR (xow y)) = some m.cls ∧
  (∀ w ∈ xT, w.before args s = true) ∧ (∀ (o i : Nat) (z : xM), xLn o i z → va_Nw (.methodLinkNest (xR o) i (xnm z) RX9) s) ∧ va_AO RX7 s ∧ xdp y ≤ R.frames ∧ xlo y ≤ R.locals ∧ va_K G.1 vwCl (gtys G) s ∧
  va_X (gb G) (gN G) (gx G) s s.heap ∧ gb G < gB G ∧ gB G ≤ s.heap.size
def xpush (r : Option xV) (S : List xV) : List xV := match r with
  | none => S
  | some v => v :: S
/-- the instruction that ends a method with the answer r -/
def xEnd (y : xM) (pc : Nat) (r : Option xV) : Prop := match r with
  | none => decode (xcd y) pc = .ok (.return_, 1) ∧ xrt y = none
  | some (.inl v) => decode (xcd y) pc = .ok (.ireturn, 1) ∧ (xrt y = some .int ∨ (xrt y = some .boolean ∧ (v = 0 ∨ v = 1)))
  | some (.inr (.inl _)) => decode (xcd y) pc = .ok (.lreturn, 1) ∧ xrt y = some .long
  | _ => False
/-- THE JUDGEMENT: from this place the method comes to an end with Q -/
def xX (G : xG) (y : xM) (bc bs pc : Nat) (L : List (Nat × xV)) (S : List xV) (h : xH) (Q : Option xV → xH → Prop) : Prop :=
  ∀ (p : Program) (l : Launch) (e : Env) (R : Room) (s : State) (m : MethodId) (args : Array Value) (below : List Frame) (meth : Method) (c : Code) (H : Heap) (locs : List Loc) (cells slots : Nat) (ls : Array Slot) (QF : State → Prop),
  xCtx G y p R s m args meth c → lv_has ls (xml y) (L.map fun q => (q.1, xcv G q.2)) → (∀ q ∈ L, xok q.2) → (∀ v ∈ S, xok v) → xRep G h H → va_S (xA G) s.heap H locs → (s.heap.size + cells = gB G + h.1.length ∧ cells + bc ≤ R.cells) → slots + bs ≤ R.slots →
  (∀ (pc' : Nat) (ls' : Array Slot) (r : Option xV) (h' : xH) (H' : Heap) (locs' : List Loc) (cells' slots' : Nat), Q r h' → xEnd y pc' r → (∀ v ∈ r, xok v) → xRep G h' H' → va_S (xA G) s.heap H' locs' → (s.heap.size + cells' = gB G + h'.1.length ∧ cells' = cells + bc) → slots' ≤ slots + bs →
    W p l e R s m args below meth c H' locs' cells' slots' QF (F0 m pc' ls' ((xpush r []).map (xcv G)))) →
  W p l e R s m args below meth c H locs cells slots QF (F0 m pc ls (S.map (xcv G)))
def xlk (i : Nat) : List (Nat × xV) → Option xV
  | [] => none
  | (j, v) :: t => bif Nat.beq i j then some v else xlk i t
theorem xlk_mem {i : Nat} {v : xV} : ∀ {L : List (Nat × xV)}, xlk i L = some v → (i, v) ∈ L
  | [], h => by cases h
  | (j, w) :: t, h => by
    unfold xlk at h
    cases hb : Nat.beq i j with
    | true =>
      rw [hb] at h
      have := Nat.eq_of_beq_eq_true hb
      subst this
      cases h
      exact List.mem_cons_self
    | false =>
      rw [hb] at h
      exact List.mem_cons_of_mem _ (xlk_mem h)
def xset (i : Nat) (v : xV) : List (Nat × xV) → List (Nat × xV)
  | [] => [(i, v)]
  | (j, w) :: t => bif Nat.blt i j then (i, v) :: (j, w) :: t else bif Nat.beq i j then (i, v) :: t else (j, w) :: xset i v t
theorem xset_mem {i : Nat} {v : xV} {q : Nat × xV} : ∀ {L : List (Nat × xV)}, L.Pairwise (fun a b => a.1 < b.1) → q ∈ xset i v L → q = (i, v) ∨ (q ∈ L ∧ q.1 ≠ i)
  | [], _, h => by
    simp [xset] at h
    exact Or.inl h
  | (j, w) :: t, hp, h => by
    unfold xset at h
    obtain ⟨hp1, hp2⟩ := List.pairwise_cons.mp hp
    cases hb : Nat.blt i j with
    | true =>
      have hlt : i < j := by simpa [Nat.blt, Nat.lt_iff_add_one_le] using Nat.le_of_ble_eq_true hb
      rw [hb] at h
      rcases List.mem_cons.mp h with rfl | h
      · exact Or.inl rfl
      · refine Or.inr ⟨h, ?_⟩
        rcases List.mem_cons.mp h with rfl | h
        · exact Nat.ne_of_gt hlt
        · exact Nat.ne_of_gt (Nat.lt_trans hlt (hp1 q h))
    | false =>
      rw [hb] at h
      cases hc : Nat.beq i j with
      | true =>
        rw [hc] at h
        have := Nat.eq_of_beq_eq_true hc
        subst this
        rcases List.mem_cons.mp h with rfl | h
        · exact Or.inl rfl
        · exact Or.inr ⟨List.mem_cons_of_mem _ h, Nat.ne_of_gt (hp1 q h)⟩
      | false =>
        rw [hc] at h
        rcases List.mem_cons.mp h with rfl | h
        · exact Or.inr ⟨List.mem_cons_self, fun z => by
            have : Nat.beq i j = true := by rw [← z]; simp
            rw [this] at hc; cases hc⟩
        · rcases xset_mem hp2 h with z | ⟨z1, z2⟩
          · exact Or.inl z
          · exact Or.inr ⟨List.mem_cons_of_mem _ z1, z2⟩
/-- the keys of the locals grow -/
def xinc : List (Nat × xV) → Bool
  | [] => true
  | [_] => true
  | a :: b :: t => Nat.blt a.1 b.1 && xinc (b :: t)
theorem xinc_ok : ∀ {L : List (Nat × xV)}, xinc L = true → L.Pairwise (fun a b => a.1 < b.1)
  | [], _ => List.Pairwise.nil
  | [a], _ => by simp
  | a :: b :: t, h => by
    unfold xinc at h
    rw [Bool.and_eq_true] at h
    have hlt : a.1 < b.1 := by simpa [Nat.blt, Nat.lt_iff_add_one_le] using Nat.le_of_ble_eq_true h.1
    have ih := xinc_ok (L := b :: t) h.2
    refine List.pairwise_cons.mpr ⟨fun q hq => ?_, ih⟩
    rcases List.mem_cons.mp hq with rfl | hq
    · exact hlt
    · exact Nat.lt_trans hlt ((List.pairwise_cons.mp ih).1 q hq)
def xargs : Nat → List xV → List (Nat × xV)
  | _, [] => []
  | i, v :: vs => (i, v) :: xargs (i + xcat v) vs
theorem xargs_ok (G : xG) : ∀ (vs : List xV) (i : Nat), (xargs i vs).map (fun q => (q.1, xcv G q.2)) = lv_args i (vs.map (xcv G))
  | [], _ => rfl
  | v :: vs, i => by
    simp only [xargs, List.map_cons, lv_args, xcat_ok]
    rw [xargs_ok G vs]
    rcases v with x | x | _ | k <;> rfl
theorem xargs_mem : ∀ {vs : List xV} {i : Nat} {q : Nat × xV}, q ∈ xargs i vs → q.2 ∈ vs
  | [], _, q, h => by cases h
  | v :: vs, i, q, h => by
    rcases List.mem_cons.mp h with rfl | h
    · exact List.mem_cons_self
    · exact List.mem_cons_of_mem _ (xargs_mem h)
end
section
section XR
variable {G : xG} {y : xM} {bc bs pc p2 : Nat} {L L2 : List (Nat × xV)} {S : List xV} {h : xH} {Q : Option xV → xH → Prop}
theorem xc_1 {a : xV} {S : List xV} {P : xV → Prop} (h : ∀ v ∈ a :: S, P v) : P a ∧ ∀ v ∈ S, P v := List.forall_mem_cons.mp h
theorem x_loc {ls : Array Slot} {n i : Nat} {v : xV} (hl : lv_has ls n (L.map fun q => (q.1, xcv G q.2))) (h : xlk i L = some v) : ls[i]? = some (.val (xcv G v)) := hl.2.2 (i, xcv G v) (List.mem_map.mpr ⟨(i, v), xlk_mem h, rfl⟩)
theorem x_lvs {ls : Array Slot} {n : Nat} {l l' : List (Nat × Value)} (h : lv_has ls n l) (hs : ∀ q ∈ l', q ∈ l) : lv_has ls n l' := ⟨h.1, h.2.1, fun q hq => h.2.2 q (hs q hq)⟩
/-- fewer locals -/
theorem x_keep (hs : ∀ q ∈ L2, q ∈ L) (kk : xX G y bc bs pc L2 S h Q) : xX G y bc bs pc L S h Q := by
  intro p l e R s m args below meth c H locs cells slots ls QF C hl hL hS hR hV hc hs' hret
  refine kk p l e R s m args below meth c H locs cells slots ls QF C (x_lvs hl fun q hq => ?_) (fun q hq => hL q (hs q hq)) hS hR hV hc hs' hret
  obtain ⟨z, hz, rfl⟩ := List.mem_map.mp hq
  exact List.mem_map.mpr ⟨z, hs z hz, rfl⟩
/-- fewer locals, by their numbers -/
def xpick (ks : List Nat) (L : List (Nat × xV)) : List (Nat × xV) := match ks with
  | [] => []
  | k :: ks => match xlk k L with
    | some v => (k, v) :: xpick ks L
    | none => xpick ks L
theorem xpick_mem : ∀ {ks : List Nat} {q : Nat × xV}, q ∈ xpick ks L → q ∈ L
  | [], q, h => by cases h
  | k :: ks, q, h => by
    unfold xpick at h
    cases hk : xlk k L with
    | none => rw [hk] at h; exact xpick_mem h
    | some v =>
      rw [hk] at h
      rcases List.mem_cons.mp h with rfl | h
      · exact xlk_mem hk
      · exact xpick_mem h
theorem x_pick (ks : List Nat) (e : xpick ks L = L2) (kk : xX G y bc bs pc L2 S h Q) : xX G y bc bs pc L S h Q := x_keep (fun q hq => xpick_mem (ks := ks) (by rw [e]; exact hq)) kk
theorem x_post {Q' : Option xV → xH → Prop} (hq : ∀ r h', Q' r h' → Q r h') (kk : xX G y bc bs pc L S h Q') : xX G y bc bs pc L S h Q := by
  intro p l e R s m args below meth c H locs cells slots ls QF C hl hL hS hR hV hc hs hret
  exact kk p l e R s m args below meth c H locs cells slots ls QF C hl hL hS hR hV hc hs (fun pc' ls' r h' H' locs' cells' slots' a => hret pc' ls' r h' H' locs' cells' slots' (hq r h' a))
theorem x_iconst {n : Int} (e2 : pc + 1 = p2) (d : decode (xcd y) pc = .ok (.iconst n, 1)) (hn : xin n) (kk : xX G y bc bs p2 L (xI n :: S) h Q) : xX G y bc bs pc L S h Q := by
  subst e2
  intro p l e R s m args below meth c H locs cells slots ls QF C hl hL hS hR hV hc hs hret
  refine lv_iconst C.1 C.2.1 d rfl ?_
  exact kk p l e R s m args below meth c H locs cells slots ls QF C hl hL (List.forall_mem_cons.mpr ⟨hn, hS⟩) hR hV hc hs hret
theorem x_bipush {n : Int} (e2 : pc + 2 = p2) (d : decode (xcd y) pc = .ok (.bipush n, 2)) (hn : (Int8.ofInt n).toInt32 = Int32.ofInt n ∧ xin n) (kk : xX G y bc bs p2 L (xI n :: S) h Q) : xX G y bc bs pc L S h Q := by
  subst e2
  intro p l e R s m args below meth c H locs cells slots ls QF C hl hL hS hR hV hc hs hret
  refine lv_bipush C.1 C.2.1 d hn.1 ?_
  exact kk p l e R s m args below meth c H locs cells slots ls QF C hl hL (List.forall_mem_cons.mpr ⟨hn.2, hS⟩) hR hV hc hs hret
theorem x_sipush {n : Int} (e2 : pc + 3 = p2) (d : decode (xcd y) pc = .ok (.sipush n, 3)) (hn : (Int16.ofInt n).toInt32 = Int32.ofInt n ∧ xin n) (kk : xX G y bc bs p2 L (xI n :: S) h Q) : xX G y bc bs pc L S h Q := by
  subst e2
  intro p l e R s m args below meth c H locs cells slots ls QF C hl hL hS hR hV hc hs hret
  refine lv_sipush C.1 C.2.1 d hn.1 ?_
  exact kk p l e R s m args below meth c H locs cells slots ls QF C hl hL (List.forall_mem_cons.mpr ⟨hn.2, hS⟩) hR hV hc hs hret
theorem x_lconst {n : Fin 2} {v : Int} (e2 : pc + 1 = p2) (d : decode (xcd y) pc = .ok (.lconst n, 1)) (hn : Int64.ofNat (n : Nat) = Int64.ofInt v ∧ xlin v) (kk : xX G y bc bs p2 L (xL v :: S) h Q) : xX G y bc bs pc L S h Q := by
  subst e2
  intro p l e R s m args below meth c H locs cells slots ls QF C hl hL hS hR hV hc hs hret
  refine lv_lconst C.1 C.2.1 d hn.1 ?_
  exact kk p l e R s m args below meth c H locs cells slots ls QF C hl hL (List.forall_mem_cons.mpr ⟨hn.2, hS⟩) hR hV hc hs hret
theorem x_ldc {i : Nat} {v : Int} (e2 : pc + 2 = p2) (d : decode (xcd y) pc = .ok (.ldc i, 2)) (hk : xK1 (xow y) i v) (kk : xX G y bc bs p2 L (xI v :: S) h Q) : xX G y bc bs pc L S h Q := by
  subst e2
  intro p l e R s m args below meth c H locs cells slots ls QF C hl hL hS hR hV hc hs hret
  have C2 := C
  obtain ⟨hx, hb, hml, hr, hlk, hnm, hown, hts, -⟩ := C2
  refine lv_ldc hx hb hown (hts _ (xW_in.mpr hk.1)) d ?_
  exact kk p l e R s m args below meth c H locs cells slots ls QF C hl hL (List.forall_mem_cons.mpr ⟨hk.2, hS⟩) hR hV hc hs hret
theorem x_ldcw {i : Nat} {v : Int} (e2 : pc + 3 = p2) (d : decode (xcd y) pc = .ok (.ldc_w i, 3)) (hk : xK1 (xow y) i v) (kk : xX G y bc bs p2 L (xI v :: S) h Q) : xX G y bc bs pc L S h Q := by
  subst e2
  intro p l e R s m args below meth c H locs cells slots ls QF C hl hL hS hR hV hc hs hret
  have C2 := C
  obtain ⟨hx, hb, hml, hr, hlk, hnm, hown, hts, -⟩ := C2
  refine lv_ldcw hx hb hown (hts _ (xW_in.mpr hk.1)) d ?_
  exact kk p l e R s m args below meth c H locs cells slots ls QF C hl hL (List.forall_mem_cons.mpr ⟨hk.2, hS⟩) hR hV hc hs hret
theorem x_ldc2 {i : Nat} {v : Int} (e2 : pc + 3 = p2) (d : decode (xcd y) pc = .ok (.ldc2_w i, 3)) (hk : xK2 (xow y) i v) (kk : xX G y bc bs p2 L (xL v :: S) h Q) : xX G y bc bs pc L S h Q := by
  subst e2
  intro p l e R s m args below meth c H locs cells slots ls QF C hl hL hS hR hV hc hs hret
  have C2 := C
  obtain ⟨hx, hb, hml, hr, hlk, hnm, hown, hts, -⟩ := C2
  refine lv_ldc2 hx hb hown (hts _ (xW_in.mpr hk.1)) d ?_
  exact kk p l e R s m args below meth c H locs cells slots ls QF C hl hL (List.forall_mem_cons.mpr ⟨hk.2, hS⟩) hR hV hc hs hret
theorem x_iload_n {k : Fin 4} {x : Int} (e2 : pc + 1 = p2) (d : decode (xcd y) pc = .ok (.iload_n k, 1)) (hk : xlk k.val L = some (xI x)) (kk : xX G y bc bs p2 L (xI x :: S) h Q) : xX G y bc bs pc L S h Q := by
  subst e2
  intro p l e R s m args below meth c H locs cells slots ls QF C hl hL hS hR hV hc hs hret
  refine lv_iload_n C.1 C.2.1 d rfl (x_loc hl hk) ?_
  exact kk p l e R s m args below meth c H locs cells slots ls QF C hl hL (List.forall_mem_cons.mpr ⟨hL _ (xlk_mem hk), hS⟩) hR hV hc hs hret
theorem x_iload {i : Nat} {x : Int} (e2 : pc + 2 = p2) (d : decode (xcd y) pc = .ok (.iload i, 2)) (hk : xlk i L = some (xI x)) (kk : xX G y bc bs p2 L (xI x :: S) h Q) : xX G y bc bs pc L S h Q := by
  subst e2
  intro p l e R s m args below meth c H locs cells slots ls QF C hl hL hS hR hV hc hs hret
  refine lv_iload C.1 C.2.1 d (x_loc hl hk) ?_
  exact kk p l e R s m args below meth c H locs cells slots ls QF C hl hL (List.forall_mem_cons.mpr ⟨hL _ (xlk_mem hk), hS⟩) hR hV hc hs hret
theorem x_lload_n {k : Fin 4} {x : Int} (e2 : pc + 1 = p2) (d : decode (xcd y) pc = .ok (.lload_n k, 1)) (hk : xlk k.val L = some (xL x)) (kk : xX G y bc bs p2 L (xL x :: S) h Q) : xX G y bc bs pc L S h Q := by
  subst e2
  intro p l e R s m args below meth c H locs cells slots ls QF C hl hL hS hR hV hc hs hret
  refine lv_lload_n C.1 C.2.1 d rfl (x_loc hl hk) ?_
  exact kk p l e R s m args below meth c H locs cells slots ls QF C hl hL (List.forall_mem_cons.mpr ⟨hL _ (xlk_mem hk), hS⟩) hR hV hc hs hret
theorem x_lload {i : Nat} {x : Int} (e2 : pc + 2 = p2) (d : decode (xcd y) pc = .ok (.lload i, 2)) (hk : xlk i L = some (xL x)) (kk : xX G y bc bs p2 L (xL x :: S) h Q) : xX G y bc bs pc L S h Q := by
  subst e2
  intro p l e R s m args below meth c H locs cells slots ls QF C hl hL hS hR hV hc hs hret
  refine lv_lload C.1 C.2.1 d (x_loc hl hk) ?_
  exact kk p l e R s m args below meth c H locs cells slots ls QF C hl hL (List.forall_mem_cons.mpr ⟨hL _ (xlk_mem hk), hS⟩) hR hV hc hs hret
theorem x_aload_n {k : Fin 4} {x : Nat} (e2 : pc + 1 = p2) (d : decode (xcd y) pc = .ok (.aload_n k, 1)) (hk : xlk k.val L = some (xP x)) (kk : xX G y bc bs p2 L (xP x :: S) h Q) : xX G y bc bs pc L S h Q := by
  subst e2
  intro p l e R s m args below meth c H locs cells slots ls QF C hl hL hS hR hV hc hs hret
  refine lv_aload_n C.1 C.2.1 d rfl (x_loc hl hk) ?_
  exact kk p l e R s m args below meth c H locs cells slots ls QF C hl hL (List.forall_mem_cons.mpr ⟨hL _ (xlk_mem hk), hS⟩) hR hV hc hs hret
theorem x_aload {i : Nat} {x : Nat} (e2 : pc + 2 = p2) (d : decode (xcd y) pc = .ok (.aload i, 2)) (hk : xlk i L = some (xP x)) (kk : xX G y bc bs p2 L (xP x :: S) h Q) : xX G y bc bs pc L S h Q := by
  subst e2
  intro p l e R s m args below meth c H locs cells slots ls QF C hl hL hS hR hV hc hs hret
  refine lv_aload C.1 C.2.1 d (x_loc hl hk) ?_
  exact kk p l e R s m args below meth c H locs cells slots ls QF C hl hL (List.forall_mem_cons.mpr ⟨hL _ (xlk_mem hk), hS⟩) hR hV hc hs hret
theorem x_sload_n {k : Fin 4} (e2 : pc + 1 = p2) (d : decode (xcd y) pc = .ok (.aload_n k, 1)) (hk : xlk k.val L = some xS) (kk : xX G y bc bs p2 L (xS :: S) h Q) : xX G y bc bs pc L S h Q := by
  subst e2
  intro p l e R s m args below meth c H locs cells slots ls QF C hl hL hS hR hV hc hs hret
  refine lv_aload_n C.1 C.2.1 d rfl (x_loc hl hk) ?_
  exact kk p l e R s m args below meth c H locs cells slots ls QF C hl hL (List.forall_mem_cons.mpr ⟨hL _ (xlk_mem hk), hS⟩) hR hV hc hs hret
def xst1 (i : Nat) (L : List (Nat × xV)) : Bool := xinc L && L.all (fun q => !(Nat.beq (q.1 + 1) i && Nat.beq (xcat q.2) 2))
def xset2 (i : Nat) (v : xV) (L : List (Nat × xV)) : List (Nat × xV) := xset i v (L.filter (fun q => !(Nat.beq q.1 (i + 1))))
theorem x_st1 {i : Nat} {v : xV} {ls : Array Slot} {n : Nat} (hk : xst1 i L = true) (hl : lv_has ls n ((i, xcv G v) :: (L.map fun q => (q.1, xcv G q.2)).filter (fun q => !(q.1 == i) && !(q.1 + 1 == i && q.2.category == 2)))) : lv_has ls n ((xset i v L).map fun q => (q.1, xcv G q.2)) := by
  unfold xst1 at hk
  rw [Bool.and_eq_true, List.all_eq_true] at hk
  refine x_lvs hl fun q hq => ?_
  obtain ⟨z, hz, rfl⟩ := List.mem_map.mp hq
  rcases xset_mem (xinc_ok hk.1) hz with rfl | ⟨h1, h2⟩
  · exact List.mem_cons_self
  · refine List.mem_cons_of_mem _ (List.mem_filter.mpr ⟨List.mem_map.mpr ⟨z, h1, rfl⟩, ?_⟩)
    have h3 := hk.2 z h1
    simp only [xcat_ok]
    simp only [Nat.beq_eq_true_eq, Bool.not_eq_true', Bool.and_eq_false_iff, Bool.and_eq_true, beq_eq_false_iff_ne, ne_eq] at h3 ⊢
    refine ⟨h2, ?_⟩
    rcases h3 with h3 | h3
    · exact Or.inl (fun z => by rw [z] at h3; simp at h3)
    · exact Or.inr (fun z => by rw [z] at h3; simp at h3)
theorem x_ok1 {i : Nat} {v : xV} (hk : xst1 i L = true) (hv : xok v) (hL : ∀ q ∈ L, xok q.2) : ∀ q ∈ xset i v L, xok q.2 := by
  unfold xst1 at hk
  rw [Bool.and_eq_true] at hk
  intro q hq
  rcases xset_mem (xinc_ok hk.1) hq with rfl | ⟨h1, -⟩
  · exact hv
  · exact hL q h1
theorem x_st2 {i : Nat} {v : xV} {ls : Array Slot} {n : Nat} (hk : xst1 i L = true) (hl : lv_has ls n ((i, xcv G v) :: (L.map fun q => (q.1, xcv G q.2)).filter (fun q => !(q.1 == i) && (!(q.1 == i + 1) && !(q.1 + 1 == i && q.2.category == 2))))) : lv_has ls n ((xset2 i v L).map fun q => (q.1, xcv G q.2)) := by
  unfold xst1 at hk
  rw [Bool.and_eq_true, List.all_eq_true] at hk
  refine x_lvs hl fun q hq => ?_
  obtain ⟨z, hz, rfl⟩ := List.mem_map.mp hq
  rcases xset_mem ((xinc_ok hk.1).filter _) hz with rfl | ⟨h1, h2⟩
  · exact List.mem_cons_self
  · obtain ⟨h1, h4⟩ := List.mem_filter.mp h1
    refine List.mem_cons_of_mem _ (List.mem_filter.mpr ⟨List.mem_map.mpr ⟨z, h1, rfl⟩, ?_⟩)
    have h3 := hk.2 z h1
    simp only [xcat_ok]
    simp only [Nat.beq_eq_true_eq, Bool.not_eq_true', Bool.and_eq_false_iff, Bool.and_eq_true, beq_eq_false_iff_ne, ne_eq] at h3 h4 ⊢
    refine ⟨h2, fun z => by rw [z] at h4; simp at h4, ?_⟩
    rcases h3 with h3 | h3
    · exact Or.inl (fun z => by rw [z] at h3; simp at h3)
    · exact Or.inr (fun z => by rw [z] at h3; simp at h3)
theorem x_ok2 {i : Nat} {v : xV} (hk : xst1 i L = true) (hv : xok v) (hL : ∀ q ∈ L, xok q.2) : ∀ q ∈ xset2 i v L, xok q.2 := by
  unfold xst1 at hk
  rw [Bool.and_eq_true] at hk
  intro q hq
  rcases xset_mem ((xinc_ok hk.1).filter _) hq with rfl | ⟨h1, -⟩
  · exact hv
  · exact hL q (List.mem_filter.mp h1).1
theorem x_istore {i : Nat} {x : Int} (e2 : pc + 2 = p2) (d : decode (xcd y) pc = .ok (.istore i, 2)) (hk : xst1 i L = true ∧ i < xml y) (eL : xset i (xI x) L = L2) (kk : xX G y bc bs p2 L2 S h Q) : xX G y bc bs pc L (xI x :: S) h Q := by
  subst e2
  subst eL
  intro p l e R s m args below meth c H locs cells slots ls QF C hl hL hS hR hV hc hs hret
  obtain ⟨hv, hS⟩ := xc_1 hS
  refine lv_istore C.1 C.2.1 d hl hk.2 rfl (fun ls hl => ?_)
  exact kk p l e R s m args below meth c H locs cells slots ls QF C (x_st1 (v := xI x) hk.1 hl) (x_ok1 hk.1 hv hL) hS hR hV hc hs hret
theorem x_istore_n {k : Fin 4} {i : Nat} {x : Int} (e2 : pc + 1 = p2) (d : decode (xcd y) pc = .ok (.istore_n k, 1)) (hi : k.val = i) (hk : xst1 i L = true ∧ i < xml y) (eL : xset i (xI x) L = L2) (kk : xX G y bc bs p2 L2 S h Q) : xX G y bc bs pc L (xI x :: S) h Q := by
  subst e2
  subst eL
  intro p l e R s m args below meth c H locs cells slots ls QF C hl hL hS hR hV hc hs hret
  obtain ⟨hv, hS⟩ := xc_1 hS
  refine lv_istore_n C.1 C.2.1 d hi hl hk.2 rfl (fun ls hl => ?_)
  exact kk p l e R s m args below meth c H locs cells slots ls QF C (x_st1 (v := xI x) hk.1 hl) (x_ok1 hk.1 hv hL) hS hR hV hc hs hret
theorem x_astore {i : Nat} {x : Nat} (e2 : pc + 2 = p2) (d : decode (xcd y) pc = .ok (.astore i, 2)) (hk : xst1 i L = true ∧ i < xml y) (eL : xset i (xP x) L = L2) (kk : xX G y bc bs p2 L2 S h Q) : xX G y bc bs pc L (xP x :: S) h Q := by
  subst e2
  subst eL
  intro p l e R s m args below meth c H locs cells slots ls QF C hl hL hS hR hV hc hs hret
  obtain ⟨hv, hS⟩ := xc_1 hS
  refine lv_astore C.1 C.2.1 d hl hk.2 rfl (fun ls hl => ?_)
  exact kk p l e R s m args below meth c H locs cells slots ls QF C (x_st1 (v := xP x) hk.1 hl) (x_ok1 hk.1 hv hL) hS hR hV hc hs hret
theorem x_astore_n {k : Fin 4} {i : Nat} {x : Nat} (e2 : pc + 1 = p2) (d : decode (xcd y) pc = .ok (.astore_n k, 1)) (hi : k.val = i) (hk : xst1 i L = true ∧ i < xml y) (eL : xset i (xP x) L = L2) (kk : xX G y bc bs p2 L2 S h Q) : xX G y bc bs pc L (xP x :: S) h Q := by
  subst e2
  subst eL
  intro p l e R s m args below meth c H locs cells slots ls QF C hl hL hS hR hV hc hs hret
  obtain ⟨hv, hS⟩ := xc_1 hS
  refine lv_astore_n C.1 C.2.1 d hi hl hk.2 rfl (fun ls hl => ?_)
  exact kk p l e R s m args below meth c H locs cells slots ls QF C (x_st1 (v := xP x) hk.1 hl) (x_ok1 hk.1 hv hL) hS hR hV hc hs hret
theorem x_lstore {i : Nat} {x : Int} (e2 : pc + 2 = p2) (d : decode (xcd y) pc = .ok (.lstore i, 2)) (hk : xst1 i L = true ∧ i + 1 < xml y) (eL : xset2 i (xL x) L = L2) (kk : xX G y bc bs p2 L2 S h Q) : xX G y bc bs pc L (xL x :: S) h Q := by
  subst e2
  subst eL
  intro p l e R s m args below meth c H locs cells slots ls QF C hl hL hS hR hV hc hs hret
  obtain ⟨hv, hS⟩ := xc_1 hS
  refine lv_lstore C.1 C.2.1 d hl hk.2 rfl (fun ls hl => ?_)
  exact kk p l e R s m args below meth c H locs cells slots ls QF C (x_st2 (v := xL x) hk.1 hl) (x_ok2 hk.1 hv hL) hS hR hV hc hs hret
theorem x_lstore_n {k : Fin 4} {i : Nat} {x : Int} (e2 : pc + 1 = p2) (d : decode (xcd y) pc = .ok (.lstore_n k, 1)) (hi : k.val = i) (hk : xst1 i L = true ∧ i + 1 < xml y) (eL : xset2 i (xL x) L = L2) (kk : xX G y bc bs p2 L2 S h Q) : xX G y bc bs pc L (xL x :: S) h Q := by
  subst e2
  subst eL
  intro p l e R s m args below meth c H locs cells slots ls QF C hl hL hS hR hV hc hs hret
  obtain ⟨hv, hS⟩ := xc_1 hS
  refine lv_lstore_n C.1 C.2.1 d hi hl hk.2 rfl (fun ls hl => ?_)
  exact kk p l e R s m args below meth c H locs cells slots ls QF C (x_st2 (v := xL x) hk.1 hl) (x_ok2 hk.1 hv hL) hS hR hV hc hs hret
theorem x_iinc {i : Nat} {n x : Int} (e2 : pc + 3 = p2) (d : decode (xcd y) pc = .ok (.iinc i n, 3)) (hl0 : xlk i L = some (xI x)) (hx : xin (x + n)) (hk : xst1 i L = true ∧ i < xml y) (eL : xset i (xI (x + n)) L = L2) (kk : xX G y bc bs p2 L2 S h Q) : xX G y bc bs pc L S h Q := by
  subst e2
  subst eL
  intro p l e R s m args below meth c H locs cells slots ls QF C hl hL hS hR hV hc hs hret
  obtain ⟨k, hk0⟩ := List.getElem?_of_mem (List.mem_map.mpr ⟨(i, xI x), xlk_mem hl0, rfl⟩ : (i, xcv G (xI x)) ∈ L.map fun q => (q.1, xcv G q.2))
  refine lv_iinc (v := Int32.ofInt (x + n)) C.1 C.2.1 d hl hk0 (by rw [Int32.ofInt_add]) hk.2 rfl (fun ls hl => ?_)
  exact kk p l e R s m args below meth c H locs cells slots ls QF C (x_st1 (v := xI (x + n)) hk.1 hl) (x_ok1 hk.1 hx hL) hS hR hV hc hs hret
theorem x_iadd {a b : Int} (e2 : pc + 1 = p2) (d : decode (xcd y) pc = .ok (.iadd, 1)) (hx : xin (a + b)) (kk : xX G y bc bs p2 L (xI (a + b) :: S) h Q) : xX G y bc bs pc L (xI b :: xI a :: S) h Q := by
  subst e2
  intro p l e R s m args below meth c H locs cells slots ls QF C hl hL hS hR hV hc hs hret
  obtain ⟨hv, hS⟩ := xc_1 hS
  obtain ⟨hw, hS⟩ := xc_1 hS
  refine lv_iadd C.1 C.2.1 d ?_
  rw [← Int32.ofInt_add]
  exact kk p l e R s m args below meth c H locs cells slots ls QF C hl hL (List.forall_mem_cons.mpr ⟨hx, hS⟩) hR hV hc hs hret
theorem x_isub {a b : Int} (e2 : pc + 1 = p2) (d : decode (xcd y) pc = .ok (.isub, 1)) (hx : xin (a - b)) (kk : xX G y bc bs p2 L (xI (a - b) :: S) h Q) : xX G y bc bs pc L (xI b :: xI a :: S) h Q := by
  subst e2
  intro p l e R s m args below meth c H locs cells slots ls QF C hl hL hS hR hV hc hs hret
  obtain ⟨hv, hS⟩ := xc_1 hS
  obtain ⟨hw, hS⟩ := xc_1 hS
  refine lv_isub C.1 C.2.1 d ?_
  rw [← Int32.ofInt_sub]
  exact kk p l e R s m args below meth c H locs cells slots ls QF C hl hL (List.forall_mem_cons.mpr ⟨hx, hS⟩) hR hV hc hs hret
theorem x_imul {a b : Int} (e2 : pc + 1 = p2) (d : decode (xcd y) pc = .ok (.imul, 1)) (hx : xin (a * b)) (kk : xX G y bc bs p2 L (xI (a * b) :: S) h Q) : xX G y bc bs pc L (xI b :: xI a :: S) h Q := by
  subst e2
  intro p l e R s m args below meth c H locs cells slots ls QF C hl hL hS hR hV hc hs hret
  obtain ⟨hv, hS⟩ := xc_1 hS
  obtain ⟨hw, hS⟩ := xc_1 hS
  refine lv_imul C.1 C.2.1 d ?_
  rw [← Int32.ofInt_mul]
  exact kk p l e R s m args below meth c H locs cells slots ls QF C hl hL (List.forall_mem_cons.mpr ⟨hx, hS⟩) hR hV hc hs hret
theorem xi_div {a b : Int} (ha : xin a) (hb : xin b) (h0 : 0 ≤ a) (h1 : 0 < b) : Int32.ofInt a / Int32.ofInt b = Int32.ofInt (a / b) ∧ xin (a / b) := by
  have h2 : 0 ≤ a / b := Int.ediv_nonneg h0 (by omega)
  have h3 : a / b ≤ a := Int.ediv_le_self b h0
  have h4 : xin (a / b) := ⟨by omega, by have := ha.2; omega⟩
  refine ⟨?_, h4⟩
  rw [← Int32.toInt_inj, Int32.toInt_div_of_ne_right _ _ (fun z => by
    have h5 := congrArg Int32.toInt z
    rw [xi_toInt hb] at h5
    have : (-1 : Int32).toInt = -1 := rfl
    omega), xi_toInt ha, xi_toInt hb, xi_toInt h4, Int.tdiv_eq_ediv_of_nonneg h0]
theorem xi_mod {a b : Int} (ha : xin a) (hb : xin b) (h0 : 0 ≤ a) (h1 : 0 < b) : Int32.ofInt a - Int32.ofInt a / Int32.ofInt b * Int32.ofInt b = Int32.ofInt (a % b) ∧ xin (a % b) := by
  have h2 := Int.emod_nonneg a (show b ≠ 0 by omega)
  have h3 := Int.emod_lt_of_pos a h1
  refine ⟨?_, ⟨by omega, by have := hb.2; omega⟩⟩
  rw [(xi_div ha hb h0 h1).1, ← Int32.ofInt_mul, ← Int32.ofInt_sub, Int.emod_def, Int.mul_comm]
theorem xl_div {a b : Int} (ha : xlin a) (hb : xlin b) (h0 : 0 ≤ a) (h1 : 0 < b) : Int64.ofInt a / Int64.ofInt b = Int64.ofInt (a / b) ∧ xlin (a / b) := by
  have h2 : 0 ≤ a / b := Int.ediv_nonneg h0 (by omega)
  have h3 : a / b ≤ a := Int.ediv_le_self b h0
  have h4 : xlin (a / b) := ⟨by omega, by have := ha.2; omega⟩
  refine ⟨?_, h4⟩
  rw [← Int64.toInt_inj, Int64.toInt_div_of_ne_right _ _ (fun z => by
    have h5 := congrArg Int64.toInt z
    rw [xl_toInt hb] at h5
    have : (-1 : Int64).toInt = -1 := rfl
    omega), xl_toInt ha, xl_toInt hb, xl_toInt h4, Int.tdiv_eq_ediv_of_nonneg h0]
theorem xl_mod {a b : Int} (ha : xlin a) (hb : xlin b) (h0 : 0 ≤ a) (h1 : 0 < b) : Int64.ofInt a - Int64.ofInt a / Int64.ofInt b * Int64.ofInt b = Int64.ofInt (a % b) ∧ xlin (a % b) := by
  have h2 := Int.emod_nonneg a (show b ≠ 0 by omega)
  have h3 := Int.emod_lt_of_pos a h1
  refine ⟨?_, ⟨by omega, by have := hb.2; omega⟩⟩
  rw [(xl_div ha hb h0 h1).1, ← Int64.ofInt_mul, ← Int64.ofInt_sub, Int.emod_def, Int.mul_comm]
theorem xi_ne0 {b : Int} (hb : xin b) (h1 : 0 < b) : ¬ Int32.ofInt b = 0 := fun z => by
  have := (xi_eq hb ⟨by omega, by omega⟩).mp (z.trans x0.symm)
  omega
theorem xl_ne0 {b : Int} (hb : xlin b) (h1 : 0 < b) : ¬ Int64.ofInt b = 0 := fun z => by
  have h2 : Int64.ofInt b = Int64.ofInt 0 := z
  have := (xl_eq hb ⟨by omega, by omega⟩).mp h2
  omega
theorem x_idiv {a b : Int} (e2 : pc + 1 = p2) (d : decode (xcd y) pc = .ok (.idiv, 1)) (h0 : 0 ≤ a) (h1 : 0 < b) (kk : xX G y bc bs p2 L (xI (a / b) :: S) h Q) : xX G y bc bs pc L (xI b :: xI a :: S) h Q := by
  subst e2
  intro p l e R s m args below meth c H locs cells slots ls QF C hl hL hS hR hV hc hs hret
  obtain ⟨hv, hS⟩ := xc_1 hS
  obtain ⟨hw, hS⟩ := xc_1 hS
  refine lv_idiv C.1 C.2.1 d (xi_ne0 hv h1) ?_
  rw [(xi_div hw hv h0 h1).1]
  exact kk p l e R s m args below meth c H locs cells slots ls QF C hl hL (List.forall_mem_cons.mpr ⟨(xi_div hw hv h0 h1).2, hS⟩) hR hV hc hs hret
theorem x_irem {a b : Int} (e2 : pc + 1 = p2) (d : decode (xcd y) pc = .ok (.irem, 1)) (h0 : 0 ≤ a) (h1 : 0 < b) (kk : xX G y bc bs p2 L (xI (a % b) :: S) h Q) : xX G y bc bs pc L (xI b :: xI a :: S) h Q := by
  subst e2
  intro p l e R s m args below meth c H locs cells slots ls QF C hl hL hS hR hV hc hs hret
  obtain ⟨hv, hS⟩ := xc_1 hS
  obtain ⟨hw, hS⟩ := xc_1 hS
  refine lv_irem C.1 C.2.1 d (xi_ne0 hv h1) ?_
  rw [(xi_mod hw hv h0 h1).1]
  exact kk p l e R s m args below meth c H locs cells slots ls QF C hl hL (List.forall_mem_cons.mpr ⟨(xi_mod hw hv h0 h1).2, hS⟩) hR hV hc hs hret
theorem x_ldiv {a b : Int} (e2 : pc + 1 = p2) (d : decode (xcd y) pc = .ok (.ldiv, 1)) (h0 : 0 ≤ a) (h1 : 0 < b) (kk : xX G y bc bs p2 L (xL (a / b) :: S) h Q) : xX G y bc bs pc L (xL b :: xL a :: S) h Q := by
  subst e2
  intro p l e R s m args below meth c H locs cells slots ls QF C hl hL hS hR hV hc hs hret
  obtain ⟨hv, hS⟩ := xc_1 hS
  obtain ⟨hw, hS⟩ := xc_1 hS
  refine lv_ldiv C.1 C.2.1 d (xl_ne0 hv h1) ?_
  rw [(xl_div hw hv h0 h1).1]
  exact kk p l e R s m args below meth c H locs cells slots ls QF C hl hL (List.forall_mem_cons.mpr ⟨(xl_div hw hv h0 h1).2, hS⟩) hR hV hc hs hret
theorem x_lrem {a b : Int} (e2 : pc + 1 = p2) (d : decode (xcd y) pc = .ok (.lrem, 1)) (h0 : 0 ≤ a) (h1 : 0 < b) (kk : xX G y bc bs p2 L (xL (a % b) :: S) h Q) : xX G y bc bs pc L (xL b :: xL a :: S) h Q := by
  subst e2
  intro p l e R s m args below meth c H locs cells slots ls QF C hl hL hS hR hV hc hs hret
  obtain ⟨hv, hS⟩ := xc_1 hS
  obtain ⟨hw, hS⟩ := xc_1 hS
  refine lv_lrem C.1 C.2.1 d (xl_ne0 hv h1) ?_
  rw [(xl_mod hw hv h0 h1).1]
  exact kk p l e R s m args below meth c H locs cells slots ls QF C hl hL (List.forall_mem_cons.mpr ⟨(xl_mod hw hv h0 h1).2, hS⟩) hR hV hc hs hret
theorem x_ineg {a : Int} (e2 : pc + 1 = p2) (d : decode (xcd y) pc = .ok (.ineg, 1)) (hx : xin (-a)) (kk : xX G y bc bs p2 L (xI (-a) :: S) h Q) : xX G y bc bs pc L (xI a :: S) h Q := by
  subst e2
  intro p l e R s m args below meth c H locs cells slots ls QF C hl hL hS hR hV hc hs hret
  obtain ⟨hv, hS⟩ := xc_1 hS
  refine lv_ineg C.1 C.2.1 d ?_
  rw [← Int32.ofInt_neg]
  exact kk p l e R s m args below meth c H locs cells slots ls QF C hl hL (List.forall_mem_cons.mpr ⟨hx, hS⟩) hR hV hc hs hret
def xiand (a b : Int) : Int := (Int32.ofInt a &&& Int32.ofInt b).toInt
theorem x_iand {a b : Int} (e2 : pc + 1 = p2) (d : decode (xcd y) pc = .ok (.iand, 1)) (kk : xX G y bc bs p2 L (xI (xiand a b) :: S) h Q) : xX G y bc bs pc L (xI b :: xI a :: S) h Q := by
  subst e2
  intro p l e R s m args below meth c H locs cells slots ls QF C hl hL hS hR hV hc hs hret
  obtain ⟨hv, hS⟩ := xc_1 hS
  obtain ⟨hw, hS⟩ := xc_1 hS
  have hk := kk p l e R s m args below meth c H locs cells slots ls QF C hl hL (List.forall_mem_cons.mpr ⟨x32 _, hS⟩) hR hV hc hs hret
  have e3 : Int32.ofInt (xiand a b) = Int32.ofInt a &&& Int32.ofInt b := Int32.ofInt_toInt _
  refine lv_iand C.1 C.2.1 d ?_
  rw [← e3]
  exact hk
def xior (a b : Int) : Int := (Int32.ofInt a ||| Int32.ofInt b).toInt
theorem x_ior {a b : Int} (e2 : pc + 1 = p2) (d : decode (xcd y) pc = .ok (.ior, 1)) (kk : xX G y bc bs p2 L (xI (xior a b) :: S) h Q) : xX G y bc bs pc L (xI b :: xI a :: S) h Q := by
  subst e2
  intro p l e R s m args below meth c H locs cells slots ls QF C hl hL hS hR hV hc hs hret
  obtain ⟨hv, hS⟩ := xc_1 hS
  obtain ⟨hw, hS⟩ := xc_1 hS
  have hk := kk p l e R s m args below meth c H locs cells slots ls QF C hl hL (List.forall_mem_cons.mpr ⟨x32 _, hS⟩) hR hV hc hs hret
  have e3 : Int32.ofInt (xior a b) = Int32.ofInt a ||| Int32.ofInt b := Int32.ofInt_toInt _
  refine lv_ior C.1 C.2.1 d ?_
  rw [← e3]
  exact hk
def xixor (a b : Int) : Int := (Int32.ofInt a ^^^ Int32.ofInt b).toInt
theorem x_ixor {a b : Int} (e2 : pc + 1 = p2) (d : decode (xcd y) pc = .ok (.ixor, 1)) (kk : xX G y bc bs p2 L (xI (xixor a b) :: S) h Q) : xX G y bc bs pc L (xI b :: xI a :: S) h Q := by
  subst e2
  intro p l e R s m args below meth c H locs cells slots ls QF C hl hL hS hR hV hc hs hret
  obtain ⟨hv, hS⟩ := xc_1 hS
  obtain ⟨hw, hS⟩ := xc_1 hS
  have hk := kk p l e R s m args below meth c H locs cells slots ls QF C hl hL (List.forall_mem_cons.mpr ⟨x32 _, hS⟩) hR hV hc hs hret
  have e3 : Int32.ofInt (xixor a b) = Int32.ofInt a ^^^ Int32.ofInt b := Int32.ofInt_toInt _
  refine lv_ixor C.1 C.2.1 d ?_
  rw [← e3]
  exact hk
def xishl (a b : Int) : Int := (Int32.ofInt a <<< (Int32.ofInt b &&& 31)).toInt
theorem x_ishl {a b : Int} (e2 : pc + 1 = p2) (d : decode (xcd y) pc = .ok (.ishl, 1)) (kk : xX G y bc bs p2 L (xI (xishl a b) :: S) h Q) : xX G y bc bs pc L (xI b :: xI a :: S) h Q := by
  subst e2
  intro p l e R s m args below meth c H locs cells slots ls QF C hl hL hS hR hV hc hs hret
  obtain ⟨hv, hS⟩ := xc_1 hS
  obtain ⟨hw, hS⟩ := xc_1 hS
  have hk := kk p l e R s m args below meth c H locs cells slots ls QF C hl hL (List.forall_mem_cons.mpr ⟨x32 _, hS⟩) hR hV hc hs hret
  have e3 : Int32.ofInt (xishl a b) = Int32.ofInt a <<< (Int32.ofInt b &&& 31) := Int32.ofInt_toInt _
  refine lv_ishl C.1 C.2.1 d ?_
  rw [← e3]
  exact hk
def xishr (a b : Int) : Int := (Int32.ofInt a >>> (Int32.ofInt b &&& 31)).toInt
theorem x_ishr {a b : Int} (e2 : pc + 1 = p2) (d : decode (xcd y) pc = .ok (.ishr, 1)) (kk : xX G y bc bs p2 L (xI (xishr a b) :: S) h Q) : xX G y bc bs pc L (xI b :: xI a :: S) h Q := by
  subst e2
  intro p l e R s m args below meth c H locs cells slots ls QF C hl hL hS hR hV hc hs hret
  obtain ⟨hv, hS⟩ := xc_1 hS
  obtain ⟨hw, hS⟩ := xc_1 hS
  have hk := kk p l e R s m args below meth c H locs cells slots ls QF C hl hL (List.forall_mem_cons.mpr ⟨x32 _, hS⟩) hR hV hc hs hret
  have e3 : Int32.ofInt (xishr a b) = Int32.ofInt a >>> (Int32.ofInt b &&& 31) := Int32.ofInt_toInt _
  refine lv_ishr C.1 C.2.1 d ?_
  rw [← e3]
  exact hk
def xiushr (a b : Int) : Int := (((Int32.ofInt a).toUInt32 >>> ((Int32.ofInt b).toUInt32 &&& Int32.toUInt32 31)).toInt32).toInt
theorem x_iushr {a b : Int} (e2 : pc + 1 = p2) (d : decode (xcd y) pc = .ok (.iushr, 1)) (kk : xX G y bc bs p2 L (xI (xiushr a b) :: S) h Q) : xX G y bc bs pc L (xI b :: xI a :: S) h Q := by
  subst e2
  intro p l e R s m args below meth c H locs cells slots ls QF C hl hL hS hR hV hc hs hret
  obtain ⟨hv, hS⟩ := xc_1 hS
  obtain ⟨hw, hS⟩ := xc_1 hS
  have hk := kk p l e R s m args below meth c H locs cells slots ls QF C hl hL (List.forall_mem_cons.mpr ⟨x32 _, hS⟩) hR hV hc hs hret
  have e3 : Int32.ofInt (xiushr a b) = ((Int32.ofInt a).toUInt32 >>> ((Int32.ofInt b).toUInt32 &&& Int32.toUInt32 31)).toInt32 := Int32.ofInt_toInt _
  refine lv_iushr C.1 C.2.1 d (Int32.ofInt_toInt _).symm ?_
  exact hk
def xladd (a b : Int) : Int := (Int64.ofInt a + Int64.ofInt b).toInt
theorem x_ladd {a b : Int} (e2 : pc + 1 = p2) (d : decode (xcd y) pc = .ok (.ladd, 1)) (kk : xX G y bc bs p2 L (xL (xladd a b) :: S) h Q) : xX G y bc bs pc L (xL b :: xL a :: S) h Q := by
  subst e2
  intro p l e R s m args below meth c H locs cells slots ls QF C hl hL hS hR hV hc hs hret
  obtain ⟨hv, hS⟩ := xc_1 hS
  obtain ⟨hw, hS⟩ := xc_1 hS
  have hk := kk p l e R s m args below meth c H locs cells slots ls QF C hl hL (List.forall_mem_cons.mpr ⟨x64 _, hS⟩) hR hV hc hs hret
  have e3 : Int64.ofInt (xladd a b) = Int64.ofInt a + Int64.ofInt b := Int64.ofInt_toInt _
  refine lv_ladd C.1 C.2.1 d ?_
  rw [← e3]
  exact hk
def xlsub (a b : Int) : Int := (Int64.ofInt a - Int64.ofInt b).toInt
theorem x_lsub {a b : Int} (e2 : pc + 1 = p2) (d : decode (xcd y) pc = .ok (.lsub, 1)) (kk : xX G y bc bs p2 L (xL (xlsub a b) :: S) h Q) : xX G y bc bs pc L (xL b :: xL a :: S) h Q := by
  subst e2
  intro p l e R s m args below meth c H locs cells slots ls QF C hl hL hS hR hV hc hs hret
  obtain ⟨hv, hS⟩ := xc_1 hS
  obtain ⟨hw, hS⟩ := xc_1 hS
  have hk := kk p l e R s m args below meth c H locs cells slots ls QF C hl hL (List.forall_mem_cons.mpr ⟨x64 _, hS⟩) hR hV hc hs hret
  have e3 : Int64.ofInt (xlsub a b) = Int64.ofInt a - Int64.ofInt b := Int64.ofInt_toInt _
  refine lv_lsub C.1 C.2.1 d ?_
  rw [← e3]
  exact hk
def xlmul (a b : Int) : Int := (Int64.ofInt a * Int64.ofInt b).toInt
theorem x_lmul {a b : Int} (e2 : pc + 1 = p2) (d : decode (xcd y) pc = .ok (.lmul, 1)) (kk : xX G y bc bs p2 L (xL (xlmul a b) :: S) h Q) : xX G y bc bs pc L (xL b :: xL a :: S) h Q := by
  subst e2
  intro p l e R s m args below meth c H locs cells slots ls QF C hl hL hS hR hV hc hs hret
  obtain ⟨hv, hS⟩ := xc_1 hS
  obtain ⟨hw, hS⟩ := xc_1 hS
  have hk := kk p l e R s m args below meth c H locs cells slots ls QF C hl hL (List.forall_mem_cons.mpr ⟨x64 _, hS⟩) hR hV hc hs hret
  have e3 : Int64.ofInt (xlmul a b) = Int64.ofInt a * Int64.ofInt b := Int64.ofInt_toInt _
  refine lv_lmul C.1 C.2.1 d ?_
  rw [← e3]
  exact hk
def xland (a b : Int) : Int := (Int64.ofInt a &&& Int64.ofInt b).toInt
theorem x_land {a b : Int} (e2 : pc + 1 = p2) (d : decode (xcd y) pc = .ok (.land, 1)) (kk : xX G y bc bs p2 L (xL (xland a b) :: S) h Q) : xX G y bc bs pc L (xL b :: xL a :: S) h Q := by
  subst e2
  intro p l e R s m args below meth c H locs cells slots ls QF C hl hL hS hR hV hc hs hret
  obtain ⟨hv, hS⟩ := xc_1 hS
  obtain ⟨hw, hS⟩ := xc_1 hS
  have hk := kk p l e R s m args below meth c H locs cells slots ls QF C hl hL (List.forall_mem_cons.mpr ⟨x64 _, hS⟩) hR hV hc hs hret
  have e3 : Int64.ofInt (xland a b) = Int64.ofInt a &&& Int64.ofInt b := Int64.ofInt_toInt _
  refine lv_land C.1 C.2.1 d ?_
  rw [← e3]
  exact hk
def xlor (a b : Int) : Int := (Int64.ofInt a ||| Int64.ofInt b).toInt
theorem x_lor {a b : Int} (e2 : pc + 1 = p2) (d : decode (xcd y) pc = .ok (.lor, 1)) (kk : xX G y bc bs p2 L (xL (xlor a b) :: S) h Q) : xX G y bc bs pc L (xL b :: xL a :: S) h Q := by
  subst e2
  intro p l e R s m args below meth c H locs cells slots ls QF C hl hL hS hR hV hc hs hret
  obtain ⟨hv, hS⟩ := xc_1 hS
  obtain ⟨hw, hS⟩ := xc_1 hS
  have hk := kk p l e R s m args below meth c H locs cells slots ls QF C hl hL (List.forall_mem_cons.mpr ⟨x64 _, hS⟩) hR hV hc hs hret
  have e3 : Int64.ofInt (xlor a b) = Int64.ofInt a ||| Int64.ofInt b := Int64.ofInt_toInt _
  refine lv_lor C.1 C.2.1 d ?_
  rw [← e3]
  exact hk
theorem xladd_eq {a b : Int} (h : xlin (a + b)) : xladd a b = a + b := by
  unfold xladd
  rw [← Int64.ofInt_add, xl_toInt h]
theorem xlsub_eq {a b : Int} (h : xlin (a - b)) : xlsub a b = a - b := by
  unfold xlsub
  rw [← Int64.ofInt_sub, xl_toInt h]
theorem xlmul_eq {a b : Int} (h : xlin (a * b)) : xlmul a b = a * b := by
  unfold xlmul
  rw [← Int64.ofInt_mul, xl_toInt h]
def xlshl (a b : Int) : Int := (Int64.ofInt a <<< ((Int32.ofInt b).toInt64 &&& 63)).toInt
def xlushr (a b : Int) : Int := ((Int64.ofInt a).toUInt64 >>> ((Int32.ofInt b).toInt64.toUInt64 &&& Int64.toUInt64 63)).toInt64.toInt
theorem x_lshl {a b : Int} (e2 : pc + 1 = p2) (d : decode (xcd y) pc = .ok (.lshl, 1)) (kk : xX G y bc bs p2 L (xL (xlshl a b) :: S) h Q) : xX G y bc bs pc L (xI b :: xL a :: S) h Q := by
  subst e2
  intro p l e R s m args below meth c H locs cells slots ls QF C hl hL hS hR hV hc hs hret
  obtain ⟨hv, hS⟩ := xc_1 hS
  obtain ⟨hw, hS⟩ := xc_1 hS
  refine lv_lshl C.1 C.2.1 d (Int64.ofInt_toInt _).symm ?_
  exact kk p l e R s m args below meth c H locs cells slots ls QF C hl hL (List.forall_mem_cons.mpr ⟨x64 _, hS⟩) hR hV hc hs hret
theorem x_lushr {a b : Int} (e2 : pc + 1 = p2) (d : decode (xcd y) pc = .ok (.lushr, 1)) (kk : xX G y bc bs p2 L (xL (xlushr a b) :: S) h Q) : xX G y bc bs pc L (xI b :: xL a :: S) h Q := by
  subst e2
  intro p l e R s m args below meth c H locs cells slots ls QF C hl hL hS hR hV hc hs hret
  obtain ⟨hv, hS⟩ := xc_1 hS
  obtain ⟨hw, hS⟩ := xc_1 hS
  refine lv_lushr C.1 C.2.1 d (Int64.ofInt_toInt _).symm ?_
  exact kk p l e R s m args below meth c H locs cells slots ls QF C hl hL (List.forall_mem_cons.mpr ⟨x64 _, hS⟩) hR hV hc hs hret
theorem x_i2l {a : Int} (e2 : pc + 1 = p2) (d : decode (xcd y) pc = .ok (.i2l, 1)) (kk : xX G y bc bs p2 L (xL a :: S) h Q) : xX G y bc bs pc L (xI a :: S) h Q := by
  subst e2
  intro p l e R s m args below meth c H locs cells slots ls QF C hl hL hS hR hV hc hs hret
  obtain ⟨hv, hS⟩ := xc_1 hS
  have h1 : xin a := hv
  refine lv_i2l (v := Int64.ofInt a) C.1 C.2.1 d (Int32.toInt64_ofInt (show (-2147483648 : Int) ≤ a from h1.1) (show a ≤ (2147483647 : Int) from h1.2)) ?_
  exact kk p l e R s m args below meth c H locs cells slots ls QF C hl hL (List.forall_mem_cons.mpr ⟨(show xlin a from ⟨by have := h1.1; omega, by have := h1.2; omega⟩), hS⟩) hR hV hc hs hret
theorem x_l2i {a : Int} (e2 : pc + 1 = p2) (d : decode (xcd y) pc = .ok (.l2i, 1)) (hx : xin a) (kk : xX G y bc bs p2 L (xI a :: S) h Q) : xX G y bc bs pc L (xL a :: S) h Q := by
  subst e2
  intro p l e R s m args below meth c H locs cells slots ls QF C hl hL hS hR hV hc hs hret
  obtain ⟨hv, hS⟩ := xc_1 hS
  refine lv_l2i (v := Int32.ofInt a) C.1 C.2.1 d Int64.toInt32_ofInt ?_
  exact kk p l e R s m args below meth c H locs cells slots ls QF C hl hL (List.forall_mem_cons.mpr ⟨hx, hS⟩) hR hV hc hs hret
theorem x_lcmp {a b : Int} (e2 : pc + 1 = p2) (d : decode (xcd y) pc = .ok (.lcmp, 1)) (k1 : b < a → xX G y bc bs p2 L (xI 1 :: S) h Q) (k2 : a = b → xX G y bc bs p2 L (xI 0 :: S) h Q) (k3 : a < b → xX G y bc bs p2 L (xI (-1) :: S) h Q) : xX G y bc bs pc L (xL b :: xL a :: S) h Q := by
  subst e2
  intro p l e R s m args below meth c H locs cells slots ls QF C hl hL hS hR hV hc hs hret
  obtain ⟨hv, hS⟩ := xc_1 hS
  obtain ⟨hw, hS⟩ := xc_1 hS
  refine W.lcmp C.1 C.2.1 d ?_
  unfold lg_cmp
  by_cases h1 : b < a
  · rw [if_pos ((xl_lt hv hw).mpr h1)]
    exact k1 h1 p l e R s m args below meth c H locs cells slots ls QF C hl hL (List.forall_mem_cons.mpr ⟨⟨by decide, by decide⟩, hS⟩) hR hV hc hs hret
  · rw [if_neg (fun z => h1 ((xl_lt hv hw).mp z))]
    by_cases h2 : a = b
    · rw [if_pos (by rw [h2])]
      exact k2 h2 p l e R s m args below meth c H locs cells slots ls QF C hl hL (List.forall_mem_cons.mpr ⟨⟨by decide, by decide⟩, hS⟩) hR hV hc hs hret
    · rw [if_neg (fun z => h2 ((xl_eq hw hv).mp z))]
      exact k3 (by omega) p l e R s m args below meth c H locs cells slots ls QF C hl hL (List.forall_mem_cons.mpr ⟨⟨by decide, by decide⟩, hS⟩) hR hV hc hs hret
theorem x_dup {v : xV} (e2 : pc + 1 = p2) (d : decode (xcd y) pc = .ok (.dup, 1)) (hc1 : xcat v = 1) (kk : xX G y bc bs p2 L (v :: v :: S) h Q) : xX G y bc bs pc L (v :: S) h Q := by
  subst e2
  intro p l e R s m args below meth c H locs cells slots ls QF C hl hL hS hR hV hc hs hret
  obtain ⟨hv, hS⟩ := xc_1 hS
  refine lv_dup C.1 C.2.1 d (by rw [xcat_ok]; exact hc1) ?_
  exact kk p l e R s m args below meth c H locs cells slots ls QF C hl hL (List.forall_mem_cons.mpr ⟨hv, (List.forall_mem_cons.mpr ⟨hv, hS⟩)⟩) hR hV hc hs hret
theorem x_pop {v : xV} (e2 : pc + 1 = p2) (d : decode (xcd y) pc = .ok (.pop, 1)) (hc1 : xcat v = 1) (kk : xX G y bc bs p2 L S h Q) : xX G y bc bs pc L (v :: S) h Q := by
  subst e2
  intro p l e R s m args below meth c H locs cells slots ls QF C hl hL hS hR hV hc hs hret
  obtain ⟨hv, hS⟩ := xc_1 hS
  refine lv_pop C.1 C.2.1 d (by rw [xcat_ok]; exact hc1) ?_
  exact kk p l e R s m args below meth c H locs cells slots ls QF C hl hL hS hR hV hc hs hret
theorem x_if_eq {x off : Int} {t : Nat} (ht : (pc : Int) + off = (t : Int)) (e2 : pc + 3 = p2) (d : decode (xcd y) pc = .ok (.ifCond .eq off, 3)) (kt : x = 0 → xX G y bc bs t L S h Q) (kf : ¬ x = 0 → xX G y bc bs p2 L S h Q) : xX G y bc bs pc L (xI x :: S) h Q := by
  subst e2
  intro p l e R s m args below meth c H locs cells slots ls QF C hl hL hS hR hV hc hs hret
  obtain ⟨hv, hS⟩ := xc_1 hS
  have hz : xin 0 := ⟨by decide, by decide⟩
  have E := xi_eq hv hz
  refine lv_if_eq C.1 C.2.1 d ht (fun q => ?_) (fun q => ?_)
  · exact kt (E.mp q) p l e R s m args below meth c H locs cells slots ls QF C hl hL hS hR hV hc hs hret
  · exact kf (fun z => q (E.mpr z)) p l e R s m args below meth c H locs cells slots ls QF C hl hL hS hR hV hc hs hret
theorem x_ic_eq {x b off : Int} {t : Nat} (ht : (pc : Int) + off = (t : Int)) (e2 : pc + 3 = p2) (d : decode (xcd y) pc = .ok (.if_icmp .eq off, 3)) (kt : x = b → xX G y bc bs t L S h Q) (kf : ¬ x = b → xX G y bc bs p2 L S h Q) : xX G y bc bs pc L (xI b :: xI x :: S) h Q := by
  subst e2
  intro p l e R s m args below meth c H locs cells slots ls QF C hl hL hS hR hV hc hs hret
  obtain ⟨hz, hS⟩ := xc_1 hS
  obtain ⟨hv, hS⟩ := xc_1 hS
  have E := xi_eq hv hz
  refine lv_icmp_eq C.1 C.2.1 d ht (fun q => ?_) (fun q => ?_)
  · exact kt (E.mp q) p l e R s m args below meth c H locs cells slots ls QF C hl hL hS hR hV hc hs hret
  · exact kf (fun z => q (E.mpr z)) p l e R s m args below meth c H locs cells slots ls QF C hl hL hS hR hV hc hs hret
theorem x_if_ne {x off : Int} {t : Nat} (ht : (pc : Int) + off = (t : Int)) (e2 : pc + 3 = p2) (d : decode (xcd y) pc = .ok (.ifCond .ne off, 3)) (kt : ¬ x = 0 → xX G y bc bs t L S h Q) (kf : x = 0 → xX G y bc bs p2 L S h Q) : xX G y bc bs pc L (xI x :: S) h Q := by
  subst e2
  intro p l e R s m args below meth c H locs cells slots ls QF C hl hL hS hR hV hc hs hret
  obtain ⟨hv, hS⟩ := xc_1 hS
  have hz : xin 0 := ⟨by decide, by decide⟩
  have E := xi_eq hv hz
  refine lv_if_ne C.1 C.2.1 d ht (fun q => ?_) (fun q => ?_)
  · exact kt (fun z => q (E.mpr z)) p l e R s m args below meth c H locs cells slots ls QF C hl hL hS hR hV hc hs hret
  · exact kf (E.mp q) p l e R s m args below meth c H locs cells slots ls QF C hl hL hS hR hV hc hs hret
theorem x_ic_ne {x b off : Int} {t : Nat} (ht : (pc : Int) + off = (t : Int)) (e2 : pc + 3 = p2) (d : decode (xcd y) pc = .ok (.if_icmp .ne off, 3)) (kt : ¬ x = b → xX G y bc bs t L S h Q) (kf : x = b → xX G y bc bs p2 L S h Q) : xX G y bc bs pc L (xI b :: xI x :: S) h Q := by
  subst e2
  intro p l e R s m args below meth c H locs cells slots ls QF C hl hL hS hR hV hc hs hret
  obtain ⟨hz, hS⟩ := xc_1 hS
  obtain ⟨hv, hS⟩ := xc_1 hS
  have E := xi_eq hv hz
  refine lv_icmp_ne C.1 C.2.1 d ht (fun q => ?_) (fun q => ?_)
  · exact kt (fun z => q (E.mpr z)) p l e R s m args below meth c H locs cells slots ls QF C hl hL hS hR hV hc hs hret
  · exact kf (E.mp q) p l e R s m args below meth c H locs cells slots ls QF C hl hL hS hR hV hc hs hret
theorem x_if_lt {x off : Int} {t : Nat} (ht : (pc : Int) + off = (t : Int)) (e2 : pc + 3 = p2) (d : decode (xcd y) pc = .ok (.ifCond .lt off, 3)) (kt : x < 0 → xX G y bc bs t L S h Q) (kf : 0 ≤ x → xX G y bc bs p2 L S h Q) : xX G y bc bs pc L (xI x :: S) h Q := by
  subst e2
  intro p l e R s m args below meth c H locs cells slots ls QF C hl hL hS hR hV hc hs hret
  obtain ⟨hv, hS⟩ := xc_1 hS
  have hz : xin 0 := ⟨by decide, by decide⟩
  have E := xi_lt hv hz
  refine lv_if_lt C.1 C.2.1 d ht (fun q => ?_) (fun q => ?_)
  · exact kt (E.mp q) p l e R s m args below meth c H locs cells slots ls QF C hl hL hS hR hV hc hs hret
  · exact kf (Int.not_lt.mp (fun z => q (E.mpr z))) p l e R s m args below meth c H locs cells slots ls QF C hl hL hS hR hV hc hs hret
theorem x_ic_lt {x b off : Int} {t : Nat} (ht : (pc : Int) + off = (t : Int)) (e2 : pc + 3 = p2) (d : decode (xcd y) pc = .ok (.if_icmp .lt off, 3)) (kt : x < b → xX G y bc bs t L S h Q) (kf : b ≤ x → xX G y bc bs p2 L S h Q) : xX G y bc bs pc L (xI b :: xI x :: S) h Q := by
  subst e2
  intro p l e R s m args below meth c H locs cells slots ls QF C hl hL hS hR hV hc hs hret
  obtain ⟨hz, hS⟩ := xc_1 hS
  obtain ⟨hv, hS⟩ := xc_1 hS
  have E := xi_lt hv hz
  refine lv_icmp_lt C.1 C.2.1 d ht (fun q => ?_) (fun q => ?_)
  · exact kt (E.mp q) p l e R s m args below meth c H locs cells slots ls QF C hl hL hS hR hV hc hs hret
  · exact kf (Int.not_lt.mp (fun z => q (E.mpr z))) p l e R s m args below meth c H locs cells slots ls QF C hl hL hS hR hV hc hs hret
theorem x_if_ge {x off : Int} {t : Nat} (ht : (pc : Int) + off = (t : Int)) (e2 : pc + 3 = p2) (d : decode (xcd y) pc = .ok (.ifCond .ge off, 3)) (kt : 0 ≤ x → xX G y bc bs t L S h Q) (kf : x < 0 → xX G y bc bs p2 L S h Q) : xX G y bc bs pc L (xI x :: S) h Q := by
  subst e2
  intro p l e R s m args below meth c H locs cells slots ls QF C hl hL hS hR hV hc hs hret
  obtain ⟨hv, hS⟩ := xc_1 hS
  have hz : xin 0 := ⟨by decide, by decide⟩
  have E := xi_le hz hv
  refine lv_if_ge C.1 C.2.1 d ht (fun q => ?_) (fun q => ?_)
  · exact kt (E.mp q) p l e R s m args below meth c H locs cells slots ls QF C hl hL hS hR hV hc hs hret
  · exact kf (Int.not_le.mp (fun z => q (E.mpr z))) p l e R s m args below meth c H locs cells slots ls QF C hl hL hS hR hV hc hs hret
theorem x_ic_ge {x b off : Int} {t : Nat} (ht : (pc : Int) + off = (t : Int)) (e2 : pc + 3 = p2) (d : decode (xcd y) pc = .ok (.if_icmp .ge off, 3)) (kt : b ≤ x → xX G y bc bs t L S h Q) (kf : x < b → xX G y bc bs p2 L S h Q) : xX G y bc bs pc L (xI b :: xI x :: S) h Q := by
  subst e2
  intro p l e R s m args below meth c H locs cells slots ls QF C hl hL hS hR hV hc hs hret
  obtain ⟨hz, hS⟩ := xc_1 hS
  obtain ⟨hv, hS⟩ := xc_1 hS
  have E := xi_le hz hv
  refine lv_icmp_ge C.1 C.2.1 d ht (fun q => ?_) (fun q => ?_)
  · exact kt (E.mp q) p l e R s m args below meth c H locs cells slots ls QF C hl hL hS hR hV hc hs hret
  · exact kf (Int.not_le.mp (fun z => q (E.mpr z))) p l e R s m args below meth c H locs cells slots ls QF C hl hL hS hR hV hc hs hret
theorem x_if_gt {x off : Int} {t : Nat} (ht : (pc : Int) + off = (t : Int)) (e2 : pc + 3 = p2) (d : decode (xcd y) pc = .ok (.ifCond .gt off, 3)) (kt : 0 < x → xX G y bc bs t L S h Q) (kf : x ≤ 0 → xX G y bc bs p2 L S h Q) : xX G y bc bs pc L (xI x :: S) h Q := by
  subst e2
  intro p l e R s m args below meth c H locs cells slots ls QF C hl hL hS hR hV hc hs hret
  obtain ⟨hv, hS⟩ := xc_1 hS
  have hz : xin 0 := ⟨by decide, by decide⟩
  have E := xi_lt hz hv
  refine lv_if_gt C.1 C.2.1 d ht (fun q => ?_) (fun q => ?_)
  · exact kt (E.mp q) p l e R s m args below meth c H locs cells slots ls QF C hl hL hS hR hV hc hs hret
  · exact kf (Int.not_lt.mp (fun z => q (E.mpr z))) p l e R s m args below meth c H locs cells slots ls QF C hl hL hS hR hV hc hs hret
theorem x_ic_gt {x b off : Int} {t : Nat} (ht : (pc : Int) + off = (t : Int)) (e2 : pc + 3 = p2) (d : decode (xcd y) pc = .ok (.if_icmp .gt off, 3)) (kt : b < x → xX G y bc bs t L S h Q) (kf : x ≤ b → xX G y bc bs p2 L S h Q) : xX G y bc bs pc L (xI b :: xI x :: S) h Q := by
  subst e2
  intro p l e R s m args below meth c H locs cells slots ls QF C hl hL hS hR hV hc hs hret
  obtain ⟨hz, hS⟩ := xc_1 hS
  obtain ⟨hv, hS⟩ := xc_1 hS
  have E := xi_lt hz hv
  refine lv_icmp_gt C.1 C.2.1 d ht (fun q => ?_) (fun q => ?_)
  · exact kt (E.mp q) p l e R s m args below meth c H locs cells slots ls QF C hl hL hS hR hV hc hs hret
  · exact kf (Int.not_lt.mp (fun z => q (E.mpr z))) p l e R s m args below meth c H locs cells slots ls QF C hl hL hS hR hV hc hs hret
theorem x_if_le {x off : Int} {t : Nat} (ht : (pc : Int) + off = (t : Int)) (e2 : pc + 3 = p2) (d : decode (xcd y) pc = .ok (.ifCond .le off, 3)) (kt : x ≤ 0 → xX G y bc bs t L S h Q) (kf : 0 < x → xX G y bc bs p2 L S h Q) : xX G y bc bs pc L (xI x :: S) h Q := by
  subst e2
  intro p l e R s m args below meth c H locs cells slots ls QF C hl hL hS hR hV hc hs hret
  obtain ⟨hv, hS⟩ := xc_1 hS
  have hz : xin 0 := ⟨by decide, by decide⟩
  have E := xi_le hv hz
  refine lv_if_le C.1 C.2.1 d ht (fun q => ?_) (fun q => ?_)
  · exact kt (E.mp q) p l e R s m args below meth c H locs cells slots ls QF C hl hL hS hR hV hc hs hret
  · exact kf (Int.not_le.mp (fun z => q (E.mpr z))) p l e R s m args below meth c H locs cells slots ls QF C hl hL hS hR hV hc hs hret
theorem x_ic_le {x b off : Int} {t : Nat} (ht : (pc : Int) + off = (t : Int)) (e2 : pc + 3 = p2) (d : decode (xcd y) pc = .ok (.if_icmp .le off, 3)) (kt : x ≤ b → xX G y bc bs t L S h Q) (kf : b < x → xX G y bc bs p2 L S h Q) : xX G y bc bs pc L (xI b :: xI x :: S) h Q := by
  subst e2
  intro p l e R s m args below meth c H locs cells slots ls QF C hl hL hS hR hV hc hs hret
  obtain ⟨hz, hS⟩ := xc_1 hS
  obtain ⟨hv, hS⟩ := xc_1 hS
  have E := xi_le hv hz
  refine lv_icmp_le C.1 C.2.1 d ht (fun q => ?_) (fun q => ?_)
  · exact kt (E.mp q) p l e R s m args below meth c H locs cells slots ls QF C hl hL hS hR hV hc hs hret
  · exact kf (Int.not_le.mp (fun z => q (E.mpr z))) p l e R s m args below meth c H locs cells slots ls QF C hl hL hS hR hV hc hs hret
theorem x_goto {off : Int} {t : Nat} (ht : (pc : Int) + off = (t : Int)) (d : decode (xcd y) pc = .ok (.goto off, 3)) (kk : xX G y bc bs t L S h Q) : xX G y bc bs pc L S h Q := by
  intro p l e R s m args below meth c H locs cells slots ls QF C hl hL hS hR hV hc hs hret
  refine lv_goto C.1 C.2.1 d ht ?_
  exact kk p l e R s m args below meth c H locs cells slots ls QF C hl hL hS hR hV hc hs hret
theorem x_tsOut {x dflt lo hi : Int} {offs : Array Int} {len t : Nat} (d : decode (xcd y) pc = .ok (.tableswitch dflt lo hi offs, len)) (hx : x < lo ∨ hi < x) (ht : (pc : Int) + dflt = (t : Int)) (kk : xX G y bc bs t L S h Q) : xX G y bc bs pc L (xI x :: S) h Q := by
  intro p l e R s m args below meth c H locs cells slots ls QF C hl hL hS hR hV hc hs hret
  obtain ⟨hv, hS⟩ := xc_1 hS
  refine lv_tableOut C.1 C.2.1 d (by rw [xi_toInt hv]; exact hx) ht ?_
  exact kk p l e R s m args below meth c H locs cells slots ls QF C hl hL hS hR hV hc hs hret
theorem x_tsIn {x dflt lo hi off : Int} {offs : Array Int} {len t : Nat} (d : decode (xcd y) pc = .ok (.tableswitch dflt lo hi offs, len)) (h1 : lo ≤ x) (h2 : x ≤ hi) (ho : offs[(x - lo).toNat]? = some off) (ht : (pc : Int) + off = (t : Int)) (kk : xX G y bc bs t L S h Q) : xX G y bc bs pc L (xI x :: S) h Q := by
  intro p l e R s m args below meth c H locs cells slots ls QF C hl hL hS hR hV hc hs hret
  obtain ⟨hv, hS⟩ := xc_1 hS
  refine lv_tableIn C.1 C.2.1 d (by rw [xi_toInt hv]; omega) (by rw [xi_toInt hv]; omega) (by rw [xi_toInt hv]; exact ho) ht ?_
  exact kk p l e R s m args below meth c H locs cells slots ls QF C hl hL hS hR hV hc hs hret
end XR
end
section
section XH
variable {G : xG} {y : xM} {bc bs pc p2 : Nat} {L L2 : List (Nat × xV)} {S : List xV} {σ : List (Nat × Nat)} {ρ : Nat → Int → Option Nat} {M : Nat → Int → Int} {Q : Option xV → xH → Prop}
theorem xfs_at {k ci n j : Nat} (h : j < n) : (xfs G ρ M k ci n)[j]? = some (xfv G ρ M k ci j) := by
  unfold xfs
  rw [List.getElem?_map, List.getElem?_range h]; rfl
theorem xfs_len {k ci n : Nat} : (xfs G ρ M k ci n).length = n := by simp [xfs]
theorem xcl_obj {k ci n : Nat} (h : ci < 8) : xcl G ρ M k (ci, n) = .inr (ci, xfs G ρ M k ci n) := by
  unfold xcl
  rw [if_neg (show ¬ ci = 100 by omega), if_neg (show ¬ ci = 101 by omega), if_neg (show ¬ ci = 102 by omega)]
theorem xcl_i {k n : Nat} : xcl G ρ M k (100, n) = .inl (G.2.1.1, n, .inl (fun j => Int32.ofInt (M k j))) := rfl
theorem xcl_z {k n : Nat} : xcl G ρ M k (101, n) = .inl (G.2.1.2.1, n, .inl (fun j => Int32.ofInt (M k j))) := rfl
theorem xcl_q {k n : Nat} : xcl G ρ M k (102, n) = .inl (G.2.1.2.2, n, .inr (.inr (.inr (.inr (fun j => xrf G (ρ k j)))))) := rfl
/-- a field that is a number -/
theorem x_geti {i ci k r : Nat} {kz : Int} (e2 : pc + 3 = p2) (d : decode (xcd y) pc = .ok (.getfield i, 3)) (hf : xFl (xow y) i ci k) (hi : xfr ci k = false) (ez : (k : Int) = kz) (hs : σ[r]? = some (ci, xN ci)) (kk : xX G y bc bs p2 L (xI (M r kz) :: S) (σ, ρ, M) Q) : xX G y bc bs pc L (xP r :: S) (σ, ρ, M) Q := by
  subst e2
  subst ez
  intro p l e R s m args below meth c H locs cells slots ls QF C hl hL hS hR hV hc hsl hret
  obtain ⟨hv, hS⟩ := xc_1 hS
  have C2 := C
  obtain ⟨hx, hb, hml, hr, hlk, hnm, hown, hts, hne, hao, hfr, hlo, hK, hX⟩ := C2
  refine va_get (D := G.1) (cl := vwCl) (T := xTb ci) (C := xC ci) (N := xN ci) (ci := ci) (fs := xfs G ρ M r ci (xN ci)) hx hb hts (fun w hw => xW_in.mpr (xin_ok hf.2.2 w hw)) hown hK hR.1 r (by rw [← xcl_obj hf.2.2]; exact xws_at hs) (xcl_at hf.2.2) k hf.2.1 (hts _ (xW_in.mpr hf.1)) (fun _ h9 => h9) (xfs_at hf.2.1) d ?_
  have e3 : xfv G ρ M r ci k = .int (Int32.ofInt (M r k)) := by unfold xfv; rw [hi]; rfl
  rw [e3]
  exact kk p l e R s m args below meth c H locs cells slots ls QF C hl hL (List.forall_mem_cons.mpr ⟨hR.2 r k, hS⟩) hR hV hc hsl hret
/-- a field that is a reference -/
theorem x_getr {i ci k r q : Nat} {kz : Int} (e2 : pc + 3 = p2) (d : decode (xcd y) pc = .ok (.getfield i, 3)) (hf : xFl (xow y) i ci k) (hi : xfr ci k = true) (ez : (k : Int) = kz) (hs : σ[r]? = some (ci, xN ci)) (hq : ρ r kz = some q) (kk : xX G y bc bs p2 L (xP q :: S) (σ, ρ, M) Q) : xX G y bc bs pc L (xP r :: S) (σ, ρ, M) Q := by
  subst e2
  subst ez
  intro p l e R s m args below meth c H locs cells slots ls QF C hl hL hS hR hV hc hsl hret
  obtain ⟨hv, hS⟩ := xc_1 hS
  have C2 := C
  obtain ⟨hx, hb, hml, hr, hlk, hnm, hown, hts, hne, hao, hfr, hlo, hK, hX⟩ := C2
  refine va_get (D := G.1) (cl := vwCl) (T := xTb ci) (C := xC ci) (N := xN ci) (ci := ci) (fs := xfs G ρ M r ci (xN ci)) hx hb hts (fun w hw => xW_in.mpr (xin_ok hf.2.2 w hw)) hown hK hR.1 r (by rw [← xcl_obj hf.2.2]; exact xws_at hs) (xcl_at hf.2.2) k hf.2.1 (hts _ (xW_in.mpr hf.1)) (fun _ h9 => h9) (xfs_at hf.2.1) d ?_
  have e3 : xfv G ρ M r ci k = .ref (gB G + q) := by unfold xfv; rw [hi, hq]; rfl
  rw [e3]
  exact kk p l e R s m args below meth c H locs cells slots ls QF C hl hL (List.forall_mem_cons.mpr ⟨trivial, hS⟩) hR hV hc hsl hret
theorem xfs_seti {k ci n j : Nat} {v : Int} (h : xfr ci j = false) (hj : j < n) : (xfs G ρ M k ci n).set j (.int (Int32.ofInt v)) = xfs G ρ (xu M k j v) k ci n := by
  apply List.ext_getElem?
  intro i
  by_cases hi : i = j
  · subst hi
    rw [List.getElem?_set_self (by rw [xfs_len]; exact hj), xfs_at hj]
    unfold xfv xu
    rw [h]; simp
  · rw [List.getElem?_set_ne (Ne.symm hi)]
    by_cases hl : i < n
    · rw [xfs_at hl, xfs_at hl]
      unfold xfv xu
      have : ¬ ((i : Int) = (j : Int)) := by omega
      simp [this]
    · rw [List.getElem?_eq_none (by rw [xfs_len]; omega), List.getElem?_eq_none (by rw [xfs_len]; omega)]
theorem xfs_setr {k ci n j q : Nat} (h : xfr ci j = true) (hj : j < n) : (xfs G ρ M k ci n).set j (.ref (gB G + q)) = xfs G (xur ρ k j (some q)) M k ci n := by
  apply List.ext_getElem?
  intro i
  by_cases hi : i = j
  · subst hi
    rw [List.getElem?_set_self (by rw [xfs_len]; exact hj), xfs_at hj]
    unfold xfv xur
    rw [h]; simp [xrf, va_rf]
  · rw [List.getElem?_set_ne (Ne.symm hi)]
    by_cases hl : i < n
    · rw [xfs_at hl, xfs_at hl]
      unfold xfv xur
      have : ¬ ((i : Int) = (j : Int)) := by omega
      simp [this]
    · rw [List.getElem?_eq_none (by rw [xfs_len]; omega), List.getElem?_eq_none (by rw [xfs_len]; omega)]
theorem xu_ne {k a : Nat} {j v : Int} (h : a ≠ k) : M a = xu M k j v a := by
  funext b; unfold xu; rw [if_neg (fun z => h z.1)]
theorem xur_ne {k a : Nat} {j : Int} {v : Option Nat} (h : a ≠ k) : ρ a = xur ρ k j v a := by
  funext b; unfold xur; rw [if_neg (fun z => h z.1)]
theorem xu_in {k : Nat} {j v : Int} (hv : xin v) (h : ∀ k j, xin (M k j)) : ∀ a b, xin (xu M k j v a b) := by
  intro a b; unfold xu; split
  · exact hv
  · exact h a b
theorem xfr_int {ci k : Nat} (h : xfr ci k = false) : xTy ci k = .int := by
  unfold xfr at h
  split at h
  · assumption
  · cases h
theorem xfr_fit {ci k : Nat} (h : ∃ t, xTy ci k = .array t ∨ ∃ n, xTy ci k = .object n) (q : Nat) : narrow (xTy ci k) (.ref q) = .ref q ∧ fits (xTy ci k) (.ref q) = true := by
  obtain ⟨t, h | ⟨n, h⟩⟩ := h <;> rw [h] <;> exact ⟨rfl, rfl⟩
theorem x_puti {i ci k r : Nat} {v kz : Int} (e2 : pc + 3 = p2) (d : decode (xcd y) pc = .ok (.putfield i, 3)) (hf : xFl (xow y) i ci k) (hi : xfr ci k = false) (hfin : (xTb ci k).2.2.2 = false) (ez : (k : Int) = kz) (hs : σ[r]? = some (ci, xN ci)) (kk : xX G y bc bs p2 L S (σ, ρ, xu M r kz v) Q) : xX G y bc bs pc L (xI v :: xP r :: S) (σ, ρ, M) Q := by
  subst e2
  subst ez
  intro p l e R s m args below meth c H locs cells slots ls QF C hl hL hS hR hV hc hsl hret
  obtain ⟨hv, hS⟩ := xc_1 hS
  obtain ⟨-, hS⟩ := xc_1 hS
  have C2 := C
  obtain ⟨hx, hb, hml, hr, hlk, hnm, hown, hts, hne, hao, hfr, hlo, hK, hX⟩ := C2
  have hat : (xws G σ ρ M)[r]? = some (gB G + r, .inr (ci, xfs G ρ M r ci (xN ci))) := by rw [← xcl_obj hf.2.2]; exact xws_at hs
  refine va_put (D := G.1) (cl := vwCl) (T := xTb ci) (C := xC ci) (N := xN ci) (ci := ci) (fs := xfs G ρ M r ci (xN ci)) (v := .int (Int32.ofInt v)) (ty := .int) hx hb hts (fun w hw => xW_in.mpr (xin_ok hf.2.2 w hw)) (xTy ci) (xty_ok hf.2.2) (xnm_ok hf.2.2) hown hK hR.1 (xws_D G σ ρ M) hV r hat (xcl_at hf.2.2) k hf.2.1 (hts _ (xW_in.mpr hf.1)) (fun _ h9 => h9) hfin (by rw [xty_ok hf.2.2 k hf.2.1, xfr_int hi]) rfl rfl (by rw [xfs_len]; exact hf.2.1) d (fun H1 locs1 hP1 _ hS1 => ?_)
  rw [xfs_seti hi hf.2.1, ← xcl_obj hf.2.2, ← xws_set hs (fun _ _ => rfl) (fun a ha => xu_ne ha)] at hP1
  exact kk p l e R s m args below meth c H1 locs1 cells slots ls QF C hl hL hS ⟨hP1, xu_in hv hR.2⟩ hS1 hc hsl hret
/-- a final field, in the constructor -/
theorem x_putF {i ci k r q : Nat} {kz : Int} (e2 : pc + 3 = p2) (d : decode (xcd y) pc = .ok (.putfield i, 3)) (hf : xFl (xow y) i ci k) (hi : xfr ci k = true) (ht : ∃ t, xTy ci k = .array t ∨ ∃ n, xTy ci k = .object n) (hfin : (xTb ci k).2.2.2 = true) (hin : (xnm y).name = "<init>") (hd : (xTb ci k).1 = xR (xow y)) (ez : (k : Int) = kz) (hs : σ[r]? = some (ci, xN ci)) (kk : xX G y bc bs p2 L S (σ, xur ρ r kz (some q), M) Q) : xX G y bc bs pc L (xP q :: xP r :: S) (σ, ρ, M) Q := by
  subst e2
  subst ez
  intro p l e R s m args below meth c H locs cells slots ls QF C hl hL hS hR hV hc hsl hret
  obtain ⟨hv, hS⟩ := xc_1 hS
  obtain ⟨-, hS⟩ := xc_1 hS
  have C2 := C
  obtain ⟨hx, hb, hml, hr, hlk, hnm, hown, hts, hne, hao, hfr, hlo, hK, hX⟩ := C2
  have hat : (xws G σ ρ M)[r]? = some (gB G + r, .inr (ci, xfs G ρ M r ci (xN ci))) := by rw [← xcl_obj hf.2.2]; exact xws_at hs
  refine va_putF (D := G.1) (cl := vwCl) (T := xTb ci) (C := xC ci) (N := xN ci) (ci := ci) (fs := xfs G ρ M r ci (xN ci)) (v := .ref (gB G + q)) (ty := xTy ci k) hx hb hts (fun w hw => xW_in.mpr (xin_ok hf.2.2 w hw)) (xTy ci) (xty_ok hf.2.2) (xnm_ok hf.2.2) hown hK hR.1 (xws_D G σ ρ M) hV r hat (xcl_at hf.2.2) k hf.2.1 (hts _ (xW_in.mpr hf.1)) (fun _ h9 => h9) hfin (hnm hin) hd (xty_ok hf.2.2 k hf.2.1) (xfr_fit ht _).1 (xfr_fit ht _).2 (by rw [xfs_len]; exact hf.2.1) d (fun H1 locs1 hP1 _ hS1 => ?_)
  rw [xfs_setr hi hf.2.1, ← xcl_obj hf.2.2, ← xws_set hs (fun a ha => xur_ne ha) (fun _ _ => rfl)] at hP1
  exact kk p l e R s m args below meth c H1 locs1 cells slots ls QF C hl hL hS ⟨hP1, hR.2⟩ hS1 hc hsl hret
/-- arrays of numbers -/
theorem x_iald {r n : Nat} {i : Int} (e2 : pc + 1 = p2) (d : decode (xcd y) pc = .ok (.iaload, 1)) (hs : σ[r]? = some (100, n)) (h0 : 0 ≤ i) (h1 : i < n) (kk : xX G y bc bs p2 L (xI (M r i) :: S) (σ, ρ, M) Q) : xX G y bc bs pc L (xI i :: xP r :: S) (σ, ρ, M) Q := by
  subst e2
  intro p l e R s m args below meth c H locs cells slots ls QF C hl hL hS hR hV hc hsl hret
  obtain ⟨hv, hS⟩ := xc_1 hS
  obtain ⟨-, hS⟩ := xc_1 hS
  refine va_iald (D := G.1) (cl := vwCl) (tys := gtys G) C.1 C.2.1 C.2.2.2.2.2.2.2.2.2.2.2.2.1 hR.1 r 0 (by rw [← xcl_i]; exact xws_at hs) rfl (xi_in hv h0 h1) d ?_
  rw [xi_nat hv, Int.toNat_of_nonneg h0]
  exact kk p l e R s m args below meth c H locs cells slots ls QF C hl hL (List.forall_mem_cons.mpr ⟨hR.2 r i, hS⟩) hR hV hc hsl hret
theorem x_zald {r n : Nat} {i : Int} (e2 : pc + 1 = p2) (d : decode (xcd y) pc = .ok (.baload, 1)) (hs : σ[r]? = some (101, n)) (h0 : 0 ≤ i) (h1 : i < n) (kk : xX G y bc bs p2 L (xI (M r i) :: S) (σ, ρ, M) Q) : xX G y bc bs pc L (xI i :: xP r :: S) (σ, ρ, M) Q := by
  subst e2
  intro p l e R s m args below meth c H locs cells slots ls QF C hl hL hS hR hV hc hsl hret
  obtain ⟨hv, hS⟩ := xc_1 hS
  obtain ⟨-, hS⟩ := xc_1 hS
  refine va_zald (D := G.1) (cl := vwCl) (tys := gtys G) C.1 C.2.1 C.2.2.2.2.2.2.2.2.2.2.2.2.1 hR.1 r 1 (by rw [← xcl_z]; exact xws_at hs) rfl (xi_in hv h0 h1) d ?_
  rw [xi_nat hv, Int.toNat_of_nonneg h0]
  exact kk p l e R s m args below meth c H locs cells slots ls QF C hl hL (List.forall_mem_cons.mpr ⟨hR.2 r i, hS⟩) hR hV hc hsl hret
theorem x_aald {r n q : Nat} {i : Int} (e2 : pc + 1 = p2) (d : decode (xcd y) pc = .ok (.aaload, 1)) (hs : σ[r]? = some (102, n)) (h0 : 0 ≤ i) (h1 : i < n) (hq : ρ r i = some q) (kk : xX G y bc bs p2 L (xP q :: S) (σ, ρ, M) Q) : xX G y bc bs pc L (xI i :: xP r :: S) (σ, ρ, M) Q := by
  subst e2
  intro p l e R s m args below meth c H locs cells slots ls QF C hl hL hS hR hV hc hsl hret
  obtain ⟨hv, hS⟩ := xc_1 hS
  obtain ⟨-, hS⟩ := xc_1 hS
  refine va_aldq (D := G.1) (cl := vwCl) (tys := gtys G) (C := RX7) C.1 C.2.1 C.2.2.2.2.2.2.2.2.2.2.2.2.1 hR.1 r 2 (by rw [← xcl_q]; exact xws_at hs) rfl (xi_in hv h0 h1) d ?_
  have hq' : (σ, ρ, M).snd.fst r i = some q := hq
  rw [xi_nat hv, Int.toNat_of_nonneg h0, hq']
  exact kk p l e R s m args below meth c H locs cells slots ls QF C hl hL (List.forall_mem_cons.mpr ⟨trivial, hS⟩) hR hV hc hsl hret
theorem xupd {k : Nat} {i v : Int} (h0 : 0 ≤ i) : upd (fun j : Nat => Int32.ofInt (M k j)) i.toNat (Int32.ofInt v) = (fun j : Nat => Int32.ofInt (xu M k i v k j)) := by
  funext j
  unfold upd xu
  by_cases h : j = i.toNat
  · rw [if_pos h, if_pos ⟨rfl, by omega⟩]
  · rw [if_neg h, if_neg (fun z => h (by have := z.2; omega))]
theorem x_iast {r n : Nat} {i v : Int} (e2 : pc + 1 = p2) (d : decode (xcd y) pc = .ok (.iastore, 1)) (hs : σ[r]? = some (100, n)) (h0 : 0 ≤ i) (h1 : i < n) (kk : xX G y bc bs p2 L S (σ, ρ, xu M r i v) Q) : xX G y bc bs pc L (xI v :: xI i :: xP r :: S) (σ, ρ, M) Q := by
  subst e2
  intro p l e R s m args below meth c H locs cells slots ls QF C hl hL hS hR hV hc hsl hret
  obtain ⟨hw, hS⟩ := xc_1 hS
  obtain ⟨hv, hS⟩ := xc_1 hS
  obtain ⟨-, hS⟩ := xc_1 hS
  refine va_iast (D := G.1) (cl := vwCl) (tys := gtys G) (x := Int32.ofInt v) C.1 C.2.1 C.2.2.2.2.2.2.2.2.2.2.2.2.1 hR.1 (xws_D G σ ρ M) hV r 0 (by rw [← xcl_i]; exact xws_at hs) rfl (xi_in hv h0 h1) d (fun H1 locs1 hP1 _ hS1 => ?_)
  rw [xi_nat hv, xupd h0, ← xcl_i (ρ := ρ), ← xws_set hs (fun _ _ => rfl) (fun a ha => xu_ne ha)] at hP1
  exact kk p l e R s m args below meth c H1 locs1 cells slots ls QF C hl hL hS ⟨hP1, xu_in hw hR.2⟩ hS1 hc hsl hret
theorem xnarz {v : Int} (h : v = 0 ∨ v = 1) : vp_nar .boolean (Int32.ofInt v) = Int32.ofInt v := by
  rcases h with rfl | rfl <;> rfl
theorem x_zast {r n : Nat} {i v : Int} (e2 : pc + 1 = p2) (d : decode (xcd y) pc = .ok (.bastore, 1)) (hs : σ[r]? = some (101, n)) (h0 : 0 ≤ i) (h1 : i < n) (h2 : v = 0 ∨ v = 1) (kk : xX G y bc bs p2 L S (σ, ρ, xu M r i v) Q) : xX G y bc bs pc L (xI v :: xI i :: xP r :: S) (σ, ρ, M) Q := by
  subst e2
  intro p l e R s m args below meth c H locs cells slots ls QF C hl hL hS hR hV hc hsl hret
  obtain ⟨hw, hS⟩ := xc_1 hS
  obtain ⟨hv, hS⟩ := xc_1 hS
  obtain ⟨-, hS⟩ := xc_1 hS
  refine va_zast (D := G.1) (cl := vwCl) (tys := gtys G) (x := Int32.ofInt v) C.1 C.2.1 C.2.2.2.2.2.2.2.2.2.2.2.2.1 hR.1 (xws_D G σ ρ M) hV r 1 (by rw [← xcl_z]; exact xws_at hs) rfl (xi_in hv h0 h1) d (fun H1 locs1 hP1 _ hS1 => ?_)
  rw [xi_nat hv, xnarz h2, xupd h0, ← xcl_z (ρ := ρ), ← xws_set hs (fun _ _ => rfl) (fun a ha => xu_ne ha)] at hP1
  exact kk p l e R s m args below meth c H1 locs1 cells slots ls QF C hl hL hS ⟨hP1, xu_in hw hR.2⟩ hS1 hc hsl hret
theorem xupq {k q : Nat} {i : Int} (h0 : 0 ≤ i) : va_up (fun j : Nat => xrf G (ρ k j)) i.toNat (some (gB G + q)) = (fun j : Nat => xrf G (xur ρ k i (some q) k j)) := by
  funext j
  unfold va_up xur
  by_cases h : j = i.toNat
  · rw [if_pos h, if_pos ⟨rfl, by omega⟩]; rfl
  · rw [if_neg h, if_neg (fun z => h (by have := z.2; omega))]
/-- an object of class State into an array of them -/
theorem x_aast {r n q : Nat} {i : Int} (e2 : pc + 1 = p2) (d : decode (xcd y) pc = .ok (.aastore, 1)) (hs : σ[r]? = some (102, n)) (h0 : 0 ≤ i) (h1 : i < n) (hq : σ[q]? = some (5, xN 5)) (kk : xX G y bc bs p2 L S (σ, xur ρ r i (some q), M) Q) : xX G y bc bs pc L (xP q :: xI i :: xP r :: S) (σ, ρ, M) Q := by
  subst e2
  intro p l e R s m args below meth c H locs cells slots ls QF C hl hL hS hR hV hc hsl hret
  obtain ⟨-, hS⟩ := xc_1 hS
  obtain ⟨hv, hS⟩ := xc_1 hS
  obtain ⟨-, hS⟩ := xc_1 hS
  refine va_astq (D := G.1) (cl := vwCl) (tys := gtys G) (r := (RX7, TX7, 7)) C.1 C.2.1 C.2.2.2.2.2.2.2.2.2.2.2.2.1 hR.1 (xws_D G σ ρ M) hV r 2 q 5 (v := gB G + q) (vs := xfs G ρ M q 5 (xN 5)) (by rw [← xcl_q]; exact xws_at hs) rfl (by rw [← xcl_obj (by decide)]; exact xws_at hq) rfl (xi_in hv h0 h1) d (fun H1 locs1 hP1 _ hS1 => ?_)
  rw [xi_nat hv, xupq h0, ← xcl_q (M := M), ← xws_set hs (fun a ha => xur_ne ha) (fun _ _ => rfl)] at hP1
  exact kk p l e R s m args below meth c H1 locs1 cells slots ls QF C hl hL hS ⟨hP1, hR.2⟩ hS1 hc hsl hret
/-- the script -/
theorem x_sld {i : Int} (e2 : pc + 1 = p2) (d : decode (xcd y) pc = .ok (.iaload, 1)) (h0 : 0 ≤ i) (h1 : i < gN G) (kk : xX G y bc bs p2 L (xI (gx G i.toNat).toInt :: S) (σ, ρ, M) Q) : xX G y bc bs pc L (xI i :: xS :: S) (σ, ρ, M) Q := by
  subst e2
  intro p l e R s m args below meth c H locs cells slots ls QF C hl hL hS hR hV hc hsl hret
  obtain ⟨hv, hS⟩ := xc_1 hS
  obtain ⟨-, hS⟩ := xc_1 hS
  have C2 := C
  obtain ⟨hx, hb, hml, hr, hlk, hnm, hown, hts, hne, hao, hfr, hlo, hK, hX, hb1, hb2⟩ := C2
  refine va_sld hx hb hX (Nat.lt_of_lt_of_le hb1 hb2) (Nat.not_le.mpr hb1) hV (xi_in hv h0 h1) d ?_
  rw [xi_nat hv]
  have e3 : gx G i.toNat = Int32.ofInt (gx G i.toNat).toInt := (Int32.ofInt_toInt _).symm
  rw [e3]
  exact kk p l e R s m args below meth c H locs cells slots ls QF C hl hL (List.forall_mem_cons.mpr ⟨x32 _, hS⟩) hR hV hc hsl hret
theorem x_slen (e2 : pc + 1 = p2) (d : decode (xcd y) pc = .ok (.arraylength, 1)) (hN : gN G ≤ 2048) (kk : xX G y bc bs p2 L (xI (gN G) :: S) (σ, ρ, M) Q) : xX G y bc bs pc L (xS :: S) (σ, ρ, M) Q := by
  subst e2
  intro p l e R s m args below meth c H locs cells slots ls QF C hl hL hS hR hV hc hsl hret
  obtain ⟨-, hS⟩ := xc_1 hS
  have C2 := C
  obtain ⟨hx, hb, hml, hr, hlk, hnm, hown, hts, hne, hao, hfr, hlo, hK, hX, hb1, hb2⟩ := C2
  refine va_slen hx hb hX (Nat.lt_of_lt_of_le hb1 hb2) (Nat.not_le.mpr hb1) hV d ?_
  rw [← Int32.ofInt_eq_ofNat]
  exact kk p l e R s m args below meth c H locs cells slots ls QF C hl hL (List.forall_mem_cons.mpr ⟨(show xin (gN G) from ⟨by omega, by omega⟩), hS⟩) hR hV hc hsl hret
end XH
end
section
section XK
variable {G : xG} {y : xM} {bc bs pc p2 : Nat} {L L2 : List (Nat × xV)} {S : List xV} {σ : List (Nat × Nat)} {ρ : Nat → Int → Option Nat} {M : Nat → Int → Int} {Q : Option xV → xH → Prop}
theorem x_low {H H0 : Heap} {locs : List Loc} (hR : xRep G (σ, ρ, M) H) (hV : va_S (xA G) H0 H locs) (hb : gB G ≤ H0.size) : gB G + σ.length ≤ H.size := by
  by_cases h : σ.length = 0
  · have := hV.1
    omega
  · have hlt : σ.length - 1 < σ.length := by omega
    have hg : σ[σ.length - 1]? = some σ[σ.length - 1] := List.getElem?_eq_getElem hlt
    have := (hR.1 _ _ (xws_at (G := G) (ρ := ρ) (M := M) hg)).lt
    simp only at this
    omega
theorem x_size {p : Program} {l : Launch} {e : Env} {R : Room} {s : State} {m : MethodId} {args : Array Value} {below : List Frame} {meth : Method} {c : Code} {H : Heap} {locs : List Loc} {cells slots n : Nat} {QF : State → Prop} {g : JFrame}
    (h1 : n ≤ H.size) (h2 : s.heap.size + cells = n) (k : H.size = n → W p l e R s m args below meth c H locs cells slots QF g) : W p l e R s m args below meth c H locs cells slots QF g := by
  intro T hT X
  have h3 := X.heapSize
  rw [hT] at h3
  exact k (by omega) T hT X
/-- answers -/
theorem x_iret {v : Int} (d : decode (xcd y) pc = .ok (.ireturn, 1)) (hr : xrt y = some .int) (hq : Q (some (xI v)) (σ, ρ, M)) : xX G y 0 0 pc L [xI v] (σ, ρ, M) Q := by
  intro p l e R s m args below meth c H locs cells slots ls QF C hl hL hS hR hV hc hsl hret
  exact hret pc ls (some (xI v)) (σ, ρ, M) H locs cells slots hq ⟨d, Or.inl hr⟩ (fun w hw => by cases hw; exact hS _ List.mem_cons_self) hR hV ⟨hc.1, rfl⟩ (Nat.le_refl _)
theorem x_zret {v : Int} (d : decode (xcd y) pc = .ok (.ireturn, 1)) (hr : xrt y = some .boolean) (hz : v = 0 ∨ v = 1) (hq : Q (some (xI v)) (σ, ρ, M)) : xX G y 0 0 pc L [xI v] (σ, ρ, M) Q := by
  intro p l e R s m args below meth c H locs cells slots ls QF C hl hL hS hR hV hc hsl hret
  exact hret pc ls (some (xI v)) (σ, ρ, M) H locs cells slots hq ⟨d, Or.inr ⟨hr, hz⟩⟩ (fun w hw => by cases hw; exact hS _ List.mem_cons_self) hR hV ⟨hc.1, rfl⟩ (Nat.le_refl _)
theorem x_lret {v : Int} (d : decode (xcd y) pc = .ok (.lreturn, 1)) (hr : xrt y = some .long) (hq : Q (some (xL v)) (σ, ρ, M)) : xX G y 0 0 pc L [xL v] (σ, ρ, M) Q := by
  intro p l e R s m args below meth c H locs cells slots ls QF C hl hL hS hR hV hc hsl hret
  exact hret pc ls (some (xL v)) (σ, ρ, M) H locs cells slots hq ⟨d, hr⟩ (fun w hw => by cases hw; exact hS _ List.mem_cons_self) hR hV ⟨hc.1, rfl⟩ (Nat.le_refl _)
theorem x_vret (d : decode (xcd y) pc = .ok (.return_, 1)) (hr : xrt y = none) (hq : Q none (σ, ρ, M)) : xX G y 0 0 pc L [] (σ, ρ, M) Q := by
  intro p l e R s m args below meth c H locs cells slots ls QF C hl hL hS hR hV hc hsl hret
  exact hret pc ls none (σ, ρ, M) H locs cells slots hq ⟨d, hr⟩ (fun w hw => by cases hw) hR hV ⟨hc.1, rfl⟩ (Nat.le_refl _)
/-- a method's start and end -/
def xPre (G : xG) (h : xH) (U : State) : Prop := U.heap.size = gB G + h.1.length ∧ xRep G h U.heap ∧ va_K G.1 vwCl (gtys G) U ∧ va_X (gb G) (gN G) (gx G) U U.heap ∧ (∀ (o i : Nat) (z : xM), xLn o i z → va_Nw (.methodLinkNest (xR o) i (xnm z) RX9) U) ∧ va_AO RX7 U ∧ gb G < gB G
def xPost (G : xG) (h : xH) (mc : Nat) (Q : Option xV → xH → Prop) : Array Value → State → Outcome → State → Prop := fun _ st o t =>
  (∃ (r : Option xV) (h' : xH), o = .returned (r.map (xcv G)) ∧ Q r h' ∧ (∀ v ∈ r, xok v) ∧ xRep G h' t.heap ∧ h'.1.length = h.1.length + mc) ∧ va_F (xA G) st t
theorem x_blind {vs : List Value} {h : xH} : FrameBlind (va_Pc vs (xPre G h)) := by
  intro a U g mk hP
  obtain ⟨e0, h1, h2, h3, h4, h5, h6, h7⟩ := hP
  exact ⟨e0, h1, h2, va_K.moved (u := U) (U := U.calling g mk a) (Vm.Alike.refl U.vm) h3, va_X.moved (u := U) (U := U.calling g mk a) (Vm.Alike.refl U.vm) h4, fun o i z hz => va_Nw.same (u := U) (U := U.calling g mk a) rfl rfl (h5 o i z hz), va_AO.moved (u := U) (U := U.calling g mk a) (Vm.Alike.refl U.vm) h6, h7⟩
theorem x_sl (G : xG) : ∀ vs : List xV, (lg_sl (vs.map (xcv G))).length = (vs.map xcat).sum
  | [] => rfl
  | v :: vs => by
    have ih := x_sl G vs
    simp only [lg_sl, List.map_cons, List.flatMap_cons, List.length_append, List.sum_cons] at ih ⊢
    rw [ih]
    rcases v with x | x | _ | k <;> simp [xcv, xcat, Value.category]
abbrev xws1 (y : xM) : List Cond := .code (xnm y) (xcd y) (xml y) (xrt y) :: xT
abbrev xrm (y : xM) (mc ms : Nat) : Room := { frames := xdp y, cells := mc, slots := ms, locals := xlo y }
theorem xMet (l : Launch) {mc ms : Nat} {vs : List xV} {h : xH} (hok : xOk y) (hvs : ∀ v ∈ vs, xok v) (hn : (vs.map xcat).sum ≤ xml y) (hX : xX G y mc ms 0 (xargs 0 vs) [] h Q) :
    Met l (xnm y) (xws1 y) (xrm y mc ms) (va_Pc (vs.map (xcv G)) (xPre G h)) (xPost G h mc Q) mc ms (xA G) := by
  refine Met.ofW (cc := xcd y) (maxL := xml y) (ret := xrt y) hok.2.1 rfl ?_
  intro p e s m args below meth c s₁ B hml hv
  obtain ⟨rfl, hsz, hR, hK, hX0, hne, hao, hbb⟩ := hv
  have hts := atoms_spec (ws := xws1 y) B.pre
  have hown : s.vm.findClass (xnm y).cls = some m.cls := findClass_of_methodNamed B.named
  have hl := lv_entry (vs.map (xcv G)) (n := xml y) (by rw [x_sl]; exact hn)
  rw [lg_entry_eq]
  generalize (lg_sl (vs.map (xcv G)) ++ List.replicate (xml y - (lg_sl (vs.map (xcv G))).length) Slot.unset).toArray = ls at hl ⊢
  have hlocks := B.notSynchronized
  refine hX p l e _ s m _ below meth c s.heap [] 0 0 ls _ ⟨B.exec, B.bytes, hml, B.returns, hlocks, fun h => (name_of_methodNamed B.named B.method).1.trans h, by rw [hok.2.2.2.2.1]; exact hown, fun w hw => hts w (List.mem_cons_of_mem _ hw), hne, hao, Nat.le_refl _, Nat.le_refl _, hK, hX0, hbb, by rw [hsz]; exact Nat.le_add_right _ _⟩ (by rw [xargs_ok]; exact hl) (fun q hq => hvs _ (xargs_mem hq)) (fun v hv => by cases hv) hR va_S.rf ⟨by rw [hsz]; rfl, by rw [Nat.zero_add]; exact Nat.le_refl _⟩ (by rw [Nat.zero_add]; exact Nat.le_refl _) ?_
  intro pc' ls' r h' H' locs' cells' slots' hq hend hr hR' hV' hc' hs'
  have hc2 : cells' = mc := by have := hc'.2; omega
  subst hc2
  refine W.widen (k := cells') (n := ms) (Nat.le_refl _) (by omega) ?_
  have hlen : h'.1.length = h.1.length + cells' := by have := hc'.1; omega
  have post : ∀ t : State, t.heap = H' → s.WarmedH t.vm → xPost G h cells' Q (vs.map (xcv G)).toArray s (.returned (r.map (xcv G))) t := fun t ht _ => ⟨⟨r, h', rfl, hq, hr, by rw [ht]; exact hR', hlen⟩, hV'.F ht⟩
  rcases r with _ | v | v | v
  · exact W.vret B.exec B.bytes (B.returns.trans hend.2) post hV'.2.2 hend.1
  · rcases hend.2 with h2 | ⟨h2, h3⟩
    · exact W.iret (v := Int32.ofInt v) B.exec B.bytes (B.returns.trans h2) post hV'.2.2 hend.1
    · exact W.zret (v := Int32.ofInt v) (ty := .boolean) B.exec B.bytes (B.returns.trans h2) (by rcases h3 with rfl | rfl <;> rfl) post hV'.2.2 hend.1
  · exact W.lret (v := Int64.ofInt v) B.exec B.bytes (B.returns.trans hend.2) post hV'.2.2 hend.1
  · exact hend.elim
theorem x_good (z : xM) (hok : xOk z) : ∀ w ∈ xws1 z, w ∈ xT ∧ ((w.onTables && w.keeps) = true ∨ ∃ ty, w = .arrayClass ty) := by
  intro w hw
  have h : xW w := by
    rcases List.mem_cons.mp hw with rfl | hw
    · exact hok.1
    · exact xW_in.mp hw
  exact ⟨xW_in.mpr h, good_of_word h.2⟩
theorem x_back {p : Program} {l : Launch} {e : Env} {R : Room} {s : State} {m : MethodId} {args : Array Value} {below : List Frame} {meth : Method} {c : Code} {H : Heap} {locs : List Loc} {cells slots mc ms : Nat} {ls : Array Slot} {QF : State → Prop} {st0 : List Value} {a : Array Value} {h : xH}
    (hr : va_Run p l e R s m args below meth c H locs cells slots mc ms (F0 m pc ls st0) (S.map (xcv G)) (xPost G h mc Q a) (xA G)) (hV : va_S (xA G) s.heap H locs)
    (kk : ∀ (r : Option xV) (h' : xH) (H1 : Heap) (locs1 : List Loc), Q r h' → (∀ v ∈ r, xok v) → xRep G h' H1 → h'.1.length = h.1.length + mc → va_S (xA G) s.heap H1 locs1 → W p l e R s m args below meth c H1 locs1 (cells + mc) (slots + ms) QF (F0 m (pc + 3) ls ((xpush r S).map (xcv G)))) :
    W p l e R s m args below meth c H locs cells slots QF (F0 m pc ls st0) := by
  intro T hT X
  obtain ⟨v, st₀, t, T', L, h0, X', hL, e1, e2, ⟨⟨r, h', hv, hq, hrok, hR', hlen⟩, hz, hk⟩, st⟩ := hr T hT X
  cases hv
  rw [h0] at hz hk
  obtain ⟨t2, a1, b1⟩ := kk r h' T'.heap (locs ++ L) hq hrok (by rw [e1]; exact hR') hlen
    ⟨Nat.le_trans hV.1 (by rw [e1]; exact hz), fun q h1 h2 => by rw [e1, hk q (Nat.lt_of_lt_of_le h1 hV.1) h2]; exact hV.2.1 q h1 h2, fun q hq => by
      rcases List.mem_append.mp hq with h | h
      · exact hV.2.2 q h
      · exact hL q h⟩ T' rfl X'
  refine ⟨t2, st t2 ?_, b1⟩
  rcases r with _ | r <;> exact a1
theorem x_fit (h : (S.map xcat).sum ≤ 8) : ((S.map (xcv G)).map fun v => v.category).sum ≤ 8 := by
  have e : (S.map (xcv G)).map (fun v => v.category) = S.map xcat := by
    rw [List.map_map]
    exact List.map_congr_left (fun v _ => xcat_ok G v)
  rw [e]; exact h
/-- what a caller hands over -/
theorem x_give {h : xH} {p : Program} {R : Room} {s U : State} {m : MethodId} {args : Array Value} {meth : Method} {c : Code} {H : Heap} {locs : List Loc} (C : xCtx G y p R s m args meth c) (hR : xRep G h H) (hV : va_S (xA G) s.heap H locs) (hsz : H.size = gB G + h.1.length) (hU : U.heap = H) (hW : s.WarmedH U.vm) : xPre G h U := by
  obtain ⟨hx, hb, hml, hr, hlk, hnm, hown, hts, hne, hao, hfr, hlo, hK, hX, hb1, hb2⟩ := C
  refine ⟨by rw [hU]; exact hsz, by rw [hU]; exact hR, va_K.moved hW.alike hK, ?_, fun o i z hz => va_Nw.warmM hW (hne o i z hz), va_AO.moved hW.alike hao, hb1⟩
  refine (va_X.moved hW.alike hX).kept ?_
  rw [hU]
  exact hV.2.1 _ (Nat.lt_of_lt_of_le hb1 hb2) (Nat.not_le.mpr hb1)
theorem x_callV {i ci r mc ms : Nat} {z : xM} {As : List xV} (e2 : pc + 3 = p2) (d : decode (xcd y) pc = .ok (.invokevirtual i, 3)) (hk : xLv (xow y) i ci z) (hok : xOk z) (hd : xdp z + 1 ≤ xdp y ∧ 8 + (xml z + 11) + xlo z ≤ xlo y) (hs : σ[r]? = some (ci, xN ci)) (hn : As.length = xar z ∧ ((xP r :: As).map xcat).sum ≤ xml z) (hw : (S.map xcat).sum ≤ 8) (hb : mc ≤ bc ∧ ms ≤ bs)
    (hX : xX G z mc ms 0 (xargs 0 (xP r :: As)) [] (σ, ρ, M) (fun a h' => xX G y (bc - mc) (bs - ms) p2 L (xpush a S) h' Q)) : xX G y bc bs pc L (As.reverse ++ xP r :: S) (σ, ρ, M) Q := by
  subst e2
  intro p l e R s m args below meth c H locs cells slots ls QF C hl hL hS hR hV hc hsl hret
  have C2 := C
  obtain ⟨hx, hb0, hml, hr, hlk, hnm, hown, hts, hne, hao, hfr, hlo, hK, hX0, hb1, hb2⟩ := C2
  have hS1 : ∀ v ∈ S, xok v := fun v hv => hS v (List.mem_append_right _ (List.mem_cons_of_mem _ hv))
  have hA1 : ∀ v ∈ xP r :: As, xok v := fun v hv => by
    rcases List.mem_cons.mp hv with rfl | hv
    · exact trivial
    · exact hS v (List.mem_append_left _ (List.mem_reverse.mpr hv))
  refine x_size (x_low hR hV hb2) hc.1 (fun hsz => ?_)
  have hM := xMet (Q := fun a h' => xX G y (bc - mc) (bs - ms) (pc + 3) L (xpush a S) h' Q) l hok hA1 hn.2 hX
  have hcw : CallW R s args (xR (xow y)) (xC ci) i (xnm z) (xcd z) (xml z) (xrt z) (xws1 z) (xrm z mc ms) mc ms (xar z) := by
    refine ⟨callB_of (xar z) hts (x_good z hok) rfl rfl rfl (hts _ (xW_in.mpr hok.2.2.2.1)) (hts _ (xW_in.mpr hk.2.2.1)) ⟨hok.2.2.1.1, hok.2.2.1.2, hok.2.2.2.2.2⟩ ⟨Nat.le_trans hd.1 hfr, Nat.le_trans hd.2 hlo⟩, hts _ (xW_in.mpr hk.2.2.2.1), hts _ (xW_in.mpr hk.2.2.2.2)⟩
  have e0 : (As.reverse ++ xP r :: S).map (xcv G) = (As.map (xcv G)).reverse ++ .ref (gB G + r) :: S.map (xcv G) := by
    rw [List.map_append, List.map_reverse]; rfl
  rw [e0]
  refine x_back (va_runV (As := As.map (xcv G)) (rest := S.map (xcv G)) ⟨hx, hb0, hml, hown, hts⟩ hM hcw ⟨x_blind, va_recv hK hR.1 (xcl_at hk.2.1) (by rw [← xcl_obj hk.2.1]; exact xws_at hs), fun U hU hW => ⟨rfl, x_give C hR hV hsz hU hW⟩⟩ rfl (by rw [List.length_map]; exact hn.1) hl.1 rfl (lv_room (x_fit hw)) d ⟨by have := hc.2; omega, by omega⟩) hV ?_
  intro a h' H1 locs1 hq hrok hR' hlen hV'
  refine hq p l e R s m args below meth c H1 locs1 _ _ ls QF C hl hL ?_ hR' hV' ⟨by have := hc.1; simp only at hlen this; omega, by have := hc.2; omega⟩ (by omega) ?_
  · intro v hv
    rcases a with _ | a
    · exact hS1 v hv
    · rcases List.mem_cons.mp hv with rfl | hv
      · exact hrok _ rfl
      · exact hS1 v hv
  · intro pc' ls' r' h2 H' locs' cells' slots' g1 g2 g3 g4 g5 g6 g7
    exact hret pc' ls' r' h2 H' locs' cells' slots' g1 g2 g3 g4 g5 ⟨g6.1, by have := g6.2; omega⟩ (by omega)
theorem x_callS {i mc ms : Nat} {z : xM} {As : List xV} (e2 : pc + 3 = p2) (d : decode (xcd y) pc = .ok (.invokestatic i, 3)) (hk : xLs (xow y) i z) (hok : xOk z) (hd : xdp z + 1 ≤ xdp y ∧ 8 + (xml z + 11) + xlo z ≤ xlo y) (hn : As.length = xar z ∧ (As.map xcat).sum ≤ xml z) (hw : (S.map xcat).sum ≤ 8) (hb : mc ≤ bc ∧ ms ≤ bs)
    (hX : xX G z mc ms 0 (xargs 0 As) [] (σ, ρ, M) (fun a h' => xX G y (bc - mc) (bs - ms) p2 L (xpush a S) h' Q)) : xX G y bc bs pc L (As.reverse ++ S) (σ, ρ, M) Q := by
  subst e2
  intro p l e R s m args below meth c H locs cells slots ls QF C hl hL hS hR hV hc hsl hret
  have C2 := C
  obtain ⟨hx, hb0, hml, hr, hlk, hnm, hown, hts, hne, hao, hfr, hlo, hK, hX0, hb1, hb2⟩ := C2
  have hS1 : ∀ v ∈ S, xok v := fun v hv => hS v (List.mem_append_right _ hv)
  have hA1 : ∀ v ∈ As, xok v := fun v hv => hS v (List.mem_append_left _ (List.mem_reverse.mpr hv))
  refine x_size (x_low hR hV hb2) hc.1 (fun hsz => ?_)
  have hM := xMet (Q := fun a h' => xX G y (bc - mc) (bs - ms) (pc + 3) L (xpush a S) h' Q) l hok hA1 hn.2 hX
  have hcw : CallB R s args (xR (xow y)) i (xnm z) (xcd z) (xml z) (xrt z) (xws1 z) (xrm z mc ms) mc ms (xar z) ∧ (Cond.static (xnm z)).before args s = true := by
    refine ⟨callB_of (xar z) hts (x_good z hok) rfl rfl rfl (hts _ (xW_in.mpr hok.2.2.2.1)) (hts _ (xW_in.mpr hk.1)) ⟨hok.2.2.1.1, hok.2.2.1.2, hok.2.2.2.2.2⟩ ⟨Nat.le_trans hd.1 hfr, Nat.le_trans hd.2 hlo⟩, hts _ (xW_in.mpr hk.2)⟩
  have e0 : (As.reverse ++ S).map (xcv G) = (As.map (xcv G)).reverse ++ S.map (xcv G) := by
    rw [List.map_append, List.map_reverse]
  rw [e0]
  refine x_back (va_runS (As := As.map (xcv G)) (rest := S.map (xcv G)) ⟨hx, hb0, hml, hown, hts⟩ hM hcw ⟨x_blind, fun U hU hW => ⟨rfl, x_give C hR hV hsz hU hW⟩⟩ rfl (by rw [List.length_map]; exact hn.1) hl.1 rfl (lv_room (x_fit hw)) d ⟨by have := hc.2; omega, by omega⟩) hV ?_
  intro a h' H1 locs1 hq hrok hR' hlen hV'
  refine hq p l e R s m args below meth c H1 locs1 _ _ ls QF C hl hL ?_ hR' hV' ⟨by have := hc.1; simp only at hlen this; omega, by have := hc.2; omega⟩ (by omega) ?_
  · intro v hv
    rcases a with _ | a
    · exact hS1 v hv
    · rcases List.mem_cons.mp hv with rfl | hv
      · exact hrok _ rfl
      · exact hS1 v hv
  · intro pc' ls' r' h2 H' locs' cells' slots' g1 g2 g3 g4 g5 g6 g7
    exact hret pc' ls' r' h2 H' locs' cells' slots' g1 g2 g3 g4 g5 ⟨g6.1, by have := g6.2; omega⟩ (by omega)
/-- a constructor -/
theorem x_callI {i r mc ms : Nat} {z : xM} {As : List xV} (e2 : pc + 3 = p2) (d : decode (xcd y) pc = .ok (.invokespecial i, 3)) (hk : xLi (xow y) i z ∨ xLn (xow y) i z) (hok : xOk z) (hd : xdp z + 1 ≤ xdp y ∧ 8 + (xml z + 11) + xlo z ≤ xlo y) (hn : As.length = xar z ∧ ((xP r :: As).map xcat).sum ≤ xml z) (hw : (S.map xcat).sum ≤ 8) (hb : mc ≤ bc ∧ ms ≤ bs)
    (hX : xX G z mc ms 0 (xargs 0 (xP r :: As)) [] (σ, ρ, M) (fun a h' => xX G y (bc - mc) (bs - ms) p2 L (xpush a S) h' Q)) : xX G y bc bs pc L (As.reverse ++ xP r :: S) (σ, ρ, M) Q := by
  subst e2
  intro p l e R s m args below meth c H locs cells slots ls QF C hl hL hS hR hV hc hsl hret
  have C2 := C
  obtain ⟨hx, hb0, hml, hr, hlk, hnm, hown, hts, hne, hao, hfr, hlo, hK, hX0, hb1, hb2⟩ := C2
  have hS1 : ∀ v ∈ S, xok v := fun v hv => hS v (List.mem_append_right _ (List.mem_cons_of_mem _ hv))
  have hA1 : ∀ v ∈ xP r :: As, xok v := fun v hv => by
    rcases List.mem_cons.mp hv with rfl | hv
    · exact trivial
    · exact hS v (List.mem_append_left _ (List.mem_reverse.mpr hv))
  refine x_size (x_low hR hV hb2) hc.1 (fun hsz => ?_)
  have hM := xMet (Q := fun a h' => xX G y (bc - mc) (bs - ms) (pc + 3) L (xpush a S) h' Q) l hok hA1 hn.2 hX
  have e0 : (As.reverse ++ xP r :: S).map (xcv G) = (As.map (xcv G)).reverse ++ .ref (gB G + r) :: S.map (xcv G) := by
    rw [List.map_append, List.map_reverse]; rfl
  rw [e0]
  have fin : ∀ (a : Option xV) (h' : xH) (H1 : Heap) (locs1 : List Loc), xX G y (bc - mc) (bs - ms) (pc + 3) L (xpush a S) h' Q → (∀ v ∈ a, xok v) → xRep G h' H1 → h'.1.length = σ.length + mc → va_S (xA G) s.heap H1 locs1 → W p l e R s m args below meth c H1 locs1 (cells + mc) (slots + ms) QF (F0 m (pc + 3) ls ((xpush a S).map (xcv G))) := by
    intro a h' H1 locs1 hq hrok hR' hlen hV'
    refine hq p l e R s m args below meth c H1 locs1 _ _ ls QF C hl hL ?_ hR' hV' ⟨by have := hc.1; simp only at hlen this; omega, by have := hc.2; omega⟩ (by omega) ?_
    · intro v hv
      rcases a with _ | a
      · exact hS1 v hv
      · rcases List.mem_cons.mp hv with rfl | hv
        · exact hrok _ rfl
        · exact hS1 v hv
    · intro pc' ls' r' h2 H' locs' cells' slots' g1 g2 g3 g4 g5 g6 g7
      exact hret pc' ls' r' h2 H' locs' cells' slots' g1 g2 g3 g4 g5 ⟨g6.1, by have := g6.2; omega⟩ (by omega)
  rcases hk with hk | hk
  · have hcw : CallB R s args (xR (xow y)) i (xnm z) (xcd z) (xml z) none (xws1 z) (xrm z mc ms) mc ms (xar z) ∧ (xnm z).name = "<init>" ∧ (Cond.instanceMethod (xnm z)).before args s = true := by
      refine ⟨callB_of (ws' := xT) (xar z) hts (x_good z hok) (by rw [← hk.2.2.2]) rfl rfl (hts _ (xW_in.mpr hok.2.2.2.1)) (hts _ (xW_in.mpr hk.1)) ⟨hok.2.2.1.1, hok.2.2.1.2, hok.2.2.2.2.2⟩ ⟨Nat.le_trans hd.1 hfr, Nat.le_trans hd.2 hlo⟩, hk.2.2.1, hts _ (xW_in.mpr hk.2.1)⟩
    exact x_back (va_runI (As := As.map (xcv G)) (rest := S.map (xcv G)) ⟨hx, hb0, hml, hown, hts⟩ hM hcw ⟨x_blind, fun U hU hW => ⟨rfl, x_give C hR hV hsz hU hW⟩⟩ rfl (by rw [List.length_map]; exact hn.1) hl.1 rfl (lv_room (x_fit hw)) d ⟨by have := hc.2; omega, by omega⟩) hV fin
  · have hcw : va_CN R s args (xR (xow y)) i (xnm z) RX9 (xcd z) (xml z) none (xws1 z) (xrm z mc ms) mc ms (xar z) ∧ (xnm z).name = "<init>" ∧ (Cond.instanceMethod (xnm z)).before args s = true := by
      refine ⟨va_cnB (ws' := xT) (xar z) hts (x_good z hok) (by rw [← hk.2.2.2]) rfl rfl (hne _ _ _ hk) (hts _ (xW_in.mpr hok.2.2.2.1)) ⟨hok.2.2.1.1, hok.2.2.1.2, hok.2.2.2.2.2⟩ ⟨Nat.le_trans hd.1 hfr, Nat.le_trans hd.2 hlo⟩, hk.2.2.1, hts _ (xW_in.mpr hk.2.1)⟩
    exact x_back (va_runIN (As := As.map (xcv G)) (rest := S.map (xcv G)) ⟨hx, hb0, hml, hown, hts⟩ hM hcw ⟨x_blind, fun U hU hW => ⟨rfl, x_give C hR hV hsz hU hW⟩⟩ rfl (by rw [List.length_map]; exact hn.1) hl.1 rfl (lv_room (x_fit hw)) d ⟨by have := hc.2; omega, by omega⟩) hV fin
end XK
end
section
section XM
variable {G : xG} {y : xM} {bc bs pc p2 : Nat} {L L2 : List (Nat × xV)} {S : List xV} {σ : List (Nat × Nat)} {ρ : Nat → Int → Option Nat} {M : Nat → Int → Int} {Q : Option xV → xH → Prop}
theorem xty_kind {ci : Nat} (h : ci < 8) : ∀ j, j < xN ci → xTy ci j = .int ∨ (xfr ci j = true ∧ defaultValue (xTy ci j) = .null) := by
  rcases (by omega : ci = 0 ∨ ci = 1 ∨ ci = 2 ∨ ci = 3 ∨ ci = 4 ∨ ci = 5 ∨ ci = 6 ∨ ci = 7) with rfl | rfl | rfl | rfl | rfl | rfl | rfl | rfl <;> decide +kernel
/-- Object's constructor -/
theorem x_obj {i r : Nat} (e2 : pc + 3 = p2) (d : decode (xcd y) pc = .ok (.invokespecial i, 3)) (hw1 : xW (.methodLink (xR (xow y)) i objectInit)) (hw2 : xW (.instanceMethod objectInit)) (hw3 : xW (.code objectInit ⟨#[0xb1]⟩ 1 none)) (hd : 1 ≤ xdp y ∧ 20 ≤ xlo y) (hw : (S.map xcat).sum ≤ 8) (kk : xX G y bc bs p2 L S (σ, ρ, M) Q) : xX G y bc bs pc L (xP r :: S) (σ, ρ, M) Q := by
  subst e2
  intro p l e R s m args below meth c H locs cells slots ls QF C hl hL hS hR hV hc hsl hret
  obtain ⟨-, hS⟩ := xc_1 hS
  have C2 := C
  obtain ⟨hx, hb0, hml, hr, hlk, hnm, hown, hts, hne, hao, hfr, hlo, hK, hX0, hb1, hb2⟩ := C2
  have h8 := lv_room (m := m) (pc := pc) (ls := ls) (rest := (xP r :: S).map (xcv G)) (x_fit (G := G) hw)
  refine W.objInit hx hb0 hown (hts _ (xW_in.mpr hw1)) (hts _ (xW_in.mpr hw2)) (hts _ (xW_in.mpr hw3)) rfl (by rw [hml]; exact hl.1) rfl d (by omega) (by omega) ?_
  exact kk p l e R s m args below meth c H locs cells slots ls QF C hl hL hS hR hV hc hsl hret
/-- an object is made -/
theorem x_new {i ci : Nat} (e2 : pc + 3 = p2) (d : decode (xcd y) pc = .ok (.new i, 3)) (hk : xCl (xow y) i ci) (hz : ∀ j, M σ.length j = 0) (hn : ∀ j, ρ σ.length j = none) (hb : 1 ≤ bc ∧ xN ci ≤ bs) (kk : xX G y (bc - 1) (bs - xN ci) p2 L (xP σ.length :: S) (σ ++ [(ci, xN ci)], ρ, M) Q) : xX G y bc bs pc L S (σ, ρ, M) Q := by
  subst e2
  intro p l e R s m args below meth c H locs cells slots ls QF C hl hL hS hR hV hc hsl hret
  have C2 := C
  obtain ⟨hx, hb0, hml, hr, hlk, hnm, hown, hts, hne, hao, hfr, hlo, hK, hX0, hb1, hb2⟩ := C2
  have hc1 : s.heap.size + cells = gB G + σ.length := hc.1
  refine x_size (x_low hR hV hb2) hc.1 (fun hsz => ?_)
  have hKn := hK.1 ci _ (xcl_at hk.2.2.2)
  refine W.newcK hx hb0 hown (hts _ (xW_in.mpr hk.1)) (hts _ (xW_in.mpr hk.2.1)) (hts _ (xW_in.mpr hk.2.2.1)) rfl d (by have := hc.2; omega) (by omega) hKn.2.1 hsz fun H1 kC hkC e1 z1 o1 => ?_
  have hk1 : ∀ (k : Nat) (x : Nat × va_E), (xws G σ ρ M)[k]? = some x → H1[x.1]? = H[x.1]? := fun k x hx => o1 x.1 (by rw [← hsz]; exact (hR.1 k x hx).lt)
  have hP1 : va_P G.1 vwCl (xws G (σ ++ [(ci, xN ci)]) ρ M) H1 := by
    rw [xws_push (fun _ _ => rfl) (fun _ _ => rfl), xcl_obj hk.2.2.2]
    refine (hR.1.kept hk1).app (fun k x hx => ?_)
    have hk0 : k < 1 := (List.getElem?_eq_some_iff.mp hx).1
    rw [show k = 0 by omega] at hx
    cases hx
    refine ⟨_, xcl_at hk.2.2.2, (u_born (xTy ci) hts (fun w hw => xW_in.mpr (xin_ok hk.2.2.2 w hw)) hKn hkC e1 (xty_ok hk.2.2.2)).to (fun j hj => ?_)⟩
    unfold vp_V
    rw [List.getD_eq_getElem?_getD, xfs_at hj]
    unfold xfv
    rw [hz, hn]
    rcases xty_kind hk.2.2.2 j hj with hty | ⟨hty, hd⟩
    · have e9 : xfr ci j = false := by unfold xfr; rw [hty]
      rw [e9, hty]; rfl
    · rw [hty, hd]; rfl
  refine kk p l e R s m args below meth c H1 locs (cells + 1) (slots + xN ci) ls QF C hl hL (List.forall_mem_cons.mpr ⟨trivial, hS⟩) ⟨hP1, hR.2⟩ ?_ ⟨by simp; omega, by have := hc.2; omega⟩ (by omega) ?_
  · refine ⟨Nat.le_trans hV.1 (by omega), fun q h1 h2 => ?_, hV.2.2⟩
    rw [o1 q (by have := hV.1; omega)]
    exact hV.2.1 q h1 h2
  · intro pc' ls' r' h2 H' locs' cells' slots' g1 g2 g3 g4 g5 g6 g7
    exact hret pc' ls' r' h2 H' locs' cells' slots' g1 g2 g3 g4 g5 ⟨g6.1, by have := g6.2; omega⟩ (by omega)
theorem x_arrK {p : Program} {l : Launch} {e : Env} {R : Room} {s : State} {m : MethodId} {args : Array Value} {below : List Frame} {meth : Method} {c : Code} {H H1 : Heap} {locs : List Loc} {cells slots : Nat} {ls : Array Slot} {QF : State → Prop} {kd N' : Nat} {pc2 : Nat}
    (C : xCtx G y p R s m args meth c) (hl : lv_has ls (xml y) (L.map fun q => (q.1, xcv G q.2))) (hL : ∀ q ∈ L, xok q.2) (hS : ∀ v ∈ S, xok v) (hR : xRep G (σ, ρ, M) H) (hV : va_S (xA G) s.heap H locs) (hc : s.heap.size + cells = gB G + σ.length ∧ cells + bc ≤ R.cells) (hsl : slots + bs ≤ R.slots)
    (hret : ∀ (pc' : Nat) (ls' : Array Slot) (r : Option xV) (h' : xH) (H' : Heap) (locs' : List Loc) (cells' slots' : Nat), Q r h' → xEnd y pc' r → (∀ v ∈ r, xok v) → xRep G h' H' → va_S (xA G) s.heap H' locs' → (s.heap.size + cells' = gB G + h'.1.length ∧ cells' = cells + bc) → slots' ≤ slots + bs → W p l e R s m args below meth c H' locs' cells' slots' QF (F0 m pc' ls' ((xpush r []).map (xcv G))))
    (hsz : H.size = gB G + σ.length) (hb : 1 ≤ bc ∧ N' ≤ bs) (e1 : va_at G.1 vwCl (gB G + σ.length, xcl G ρ M σ.length (kd, N')) H1) (z1 : H1.size = gB G + σ.length + 1) (o1 : ∀ q, q < gB G + σ.length → H1[q]? = H[q]?)
    (kk : xX G y (bc - 1) (bs - N') pc2 L (xP σ.length :: S) (σ ++ [(kd, N')], ρ, M) Q) :
    W p l e R s m args below meth c H1 locs (cells + 1) (slots + N') QF (F0 m pc2 ls (.ref (gB G + σ.length) :: S.map (xcv G))) := by
  have hk1 : ∀ (k : Nat) (x : Nat × va_E), (xws G σ ρ M)[k]? = some x → H1[x.1]? = H[x.1]? := fun k x hx => o1 x.1 (by rw [← hsz]; exact (hR.1 k x hx).lt)
  have hP1 : va_P G.1 vwCl (xws G (σ ++ [(kd, N')]) ρ M) H1 := by
    rw [xws_push (fun _ _ => rfl) (fun _ _ => rfl)]
    refine (hR.1.kept hk1).app (fun k x hx => ?_)
    have hz : k < 1 := (List.getElem?_eq_some_iff.mp hx).1
    rw [show k = 0 by omega] at hx
    cases hx
    exact e1
  have hb2 := C.2.2.2.2.2.2.2.2.2.2.2.2.2.2.2
  refine kk p l e R s m args below meth c H1 locs (cells + 1) (slots + N') ls QF C hl hL (List.forall_mem_cons.mpr ⟨trivial, hS⟩) ⟨hP1, hR.2⟩ ?_ ⟨by simp; omega, by have := hc.2; omega⟩ (by omega) ?_
  · refine ⟨Nat.le_trans hV.1 (by omega), fun q h1 h2 => ?_, hV.2.2⟩
    rw [o1 q (by have := hV.1; omega)]
    exact hV.2.1 q h1 h2
  · intro pc' ls' r' h2 H' locs' cells' slots' g1 g2 g3 g4 g5 g6 g7
    exact hret pc' ls' r' h2 H' locs' cells' slots' g1 g2 g3 g4 g5 ⟨g6.1, by have := g6.2; omega⟩ (by omega)
theorem x_newi {n : Int} {N' : Nat} (e2 : pc + 2 = p2) (d : decode (xcd y) pc = .ok (.newarray .int, 2)) (hw : xW (.arrayClass .int)) (hN : n = (N' : Int)) (h9 : N' ≤ 100000) (hz : ∀ j, M σ.length j = 0) (hb : 1 ≤ bc ∧ N' ≤ bs) (kk : xX G y (bc - 1) (bs - N') p2 L (xP σ.length :: S) (σ ++ [(100, N')], ρ, M) Q) : xX G y bc bs pc L (xI n :: S) (σ, ρ, M) Q := by
  subst e2
  subst hN
  intro p l e R s m args below meth c H locs cells slots ls QF C hl hL hS hR hV hc hsl hret
  obtain ⟨hv, hS⟩ := xc_1 hS
  have C2 := C
  obtain ⟨hx, hb0, hml, hr, hlk, hnm, hown, hts, hne, hao, hfr, hlo, hK, hX0, hb1, hb2⟩ := C2
  refine x_size (x_low hR hV hb2) hc.1 (fun hsz => ?_)
  have h0 : ¬ Int32.ofInt (N' : Int) < 0 := fun q => by
    have := (xi_lt hv ⟨by decide, by decide⟩).mp (show Int32.ofInt (N' : Int) < Int32.ofInt 0 from q)
    omega
  refine va_newaK (atype := .int) (N := N') hx hb0 (hts _ (xW_in.mpr hw)) rfl d rfl h0 (by rw [xi_nat hv]; rfl) (by show N' * 4 ≤ 536870912; omega) (by have := hc.2; omega) (by omega) hsz fun H1 cA e1 z1 o1 hAr hNm => ?_
  have hcA : G.2.1.1 = cA := by
    have h3 := (hK.2 0 _ rfl).2
    exact Option.some.inj (h3.symm.trans hNm)
  refine x_arrK C hl hL hS hR hV hc hsl hret hsz hb ?_ z1 o1 kk
  show H1[gB G + σ.length]? = some (vp_cell _ _)
  rw [e1, vp_cell_i, hcA]
  congr 2
  funext j
  rw [hz]; rfl
theorem x_newz {n : Int} {N' : Nat} (e2 : pc + 2 = p2) (d : decode (xcd y) pc = .ok (.newarray .boolean, 2)) (hw : xW (.arrayClass .boolean)) (hN : n = (N' : Int)) (h9 : N' ≤ 100000) (hz : ∀ j, M σ.length j = 0) (hb : 1 ≤ bc ∧ N' ≤ bs) (kk : xX G y (bc - 1) (bs - N') p2 L (xP σ.length :: S) (σ ++ [(101, N')], ρ, M) Q) : xX G y bc bs pc L (xI n :: S) (σ, ρ, M) Q := by
  subst e2
  subst hN
  intro p l e R s m args below meth c H locs cells slots ls QF C hl hL hS hR hV hc hsl hret
  obtain ⟨hv, hS⟩ := xc_1 hS
  have C2 := C
  obtain ⟨hx, hb0, hml, hr, hlk, hnm, hown, hts, hne, hao, hfr, hlo, hK, hX0, hb1, hb2⟩ := C2
  refine x_size (x_low hR hV hb2) hc.1 (fun hsz => ?_)
  have h0 : ¬ Int32.ofInt (N' : Int) < 0 := fun q => by
    have := (xi_lt hv ⟨by decide, by decide⟩).mp (show Int32.ofInt (N' : Int) < Int32.ofInt 0 from q)
    omega
  refine va_newaK (atype := .boolean) (N := N') hx hb0 (hts _ (xW_in.mpr hw)) rfl d rfl h0 (by rw [xi_nat hv]; rfl) (by show N' * 1 ≤ 536870912; omega) (by have := hc.2; omega) (by omega) hsz fun H1 cA e1 z1 o1 hAr hNm => ?_
  have hcA : G.2.1.2.1 = cA := by
    have h3 := (hK.2 1 _ rfl).2
    exact Option.some.inj (h3.symm.trans hNm)
  refine x_arrK C hl hL hS hR hV hc hsl hret hsz hb ?_ z1 o1 kk
  show H1[gB G + σ.length]? = some (vp_cell _ _)
  rw [e1, vp_cell_i, hcA]
  congr 2
  funext j
  rw [hz]; rfl
theorem x_newq {i : Nat} {n : Int} {N' : Nat} (e2 : pc + 3 = p2) (d : decode (xcd y) pc = .ok (.anewarray i, 3)) (hw : xW (.classLink (xR (xow y)) i RX7)) (hN : n = (N' : Int)) (h9 : N' ≤ 100000) (hz : ∀ j, ρ σ.length j = none) (hb : 1 ≤ bc ∧ N' ≤ bs) (kk : xX G y (bc - 1) (bs - N') p2 L (xP σ.length :: S) (σ ++ [(102, N')], ρ, M) Q) : xX G y bc bs pc L (xI n :: S) (σ, ρ, M) Q := by
  subst e2
  subst hN
  intro p l e R s m args below meth c H locs cells slots ls QF C hl hL hS hR hV hc hsl hret
  obtain ⟨hv, hS⟩ := xc_1 hS
  have C2 := C
  obtain ⟨hx, hb0, hml, hr, hlk, hnm, hown, hts, hne, hao, hfr, hlo, hK, hX0, hb1, hb2⟩ := C2
  refine x_size (x_low hR hV hb2) hc.1 (fun hsz => ?_)
  have h0 : ¬ Int32.ofInt (N' : Int) < 0 := fun q => by
    have := (xi_lt hv ⟨by decide, by decide⟩).mp (show Int32.ofInt (N' : Int) < Int32.ofInt 0 from q)
    omega
  have hNN : (Int32.ofInt (N' : Int)).toNatClampNeg = N' := by rw [xi_nat hv]; rfl
  refine W.anew (C := RX7) hx hb0 hown (hts _ (xW_in.mpr hw)) (va_AO.use hao) rfl d rfl h0 (by rw [hNN]; omega) (by have := hc.2; omega) (by rw [hNN]; omega) fun cA kA comp f1 f2 f3 f4 => ?_
  rw [hNN, hsz]
  have hcA : G.2.1.2.2 = cA := by
    obtain ⟨kA', comp', k1, k2, k3, k4⟩ := (hK.2 2 _ rfl).2
    exact Option.some.inj (k4.symm.trans f1)
  refine x_arrK C hl hL hS hR hV hc hsl hret hsz hb ?_ (by rw [Array.size_push, hsz]) (fun q hq => by rw [Array.getElem?_push, if_neg (Nat.ne_of_lt (by omega))]) kk
  show (H.push _)[gB G + σ.length]? = some (vp_cell _ _)
  have e5 : arrV cA N' (fun j : Nat => va_rf (xrf G (ρ σ.length j))) = arrV cA N' (fun _ => Value.null) := by
    congr 1; funext j; rw [hz]; rfl
  rw [← hsz, Array.getElem?_push_size, vp_cell_q, hcA]
  show _ = some (arrV cA N' (fun j : Nat => va_rf (xrf G (ρ σ.length j))))
  rw [e5, ← arrV_new]
/-- System.arraycopy over whole numbers, from place 0 to place 0 -/
def xcp (M : Nat → Int → Int) (a b : Nat) (n : Int) : Nat → Int → Int := fun k j => if k = b ∧ 0 ≤ j ∧ j < n then M a j else M k j
theorem xcp_in {a b : Nat} {n : Int} (h : ∀ k j, xin (M k j)) : ∀ k j, xin (xcp M a b n k j) := by
  intro k j; unfold xcp; split <;> exact h _ _
theorem x_copy {i a b n0 n1 : Nat} {n : Int} (e2 : pc + 3 = p2) (d : decode (xcd y) pc = .ok (.invokestatic i, 3)) (hw1 : xW (.methodLink (xR (xow y)) i arraycopyName)) (hw2 : xW (.native arraycopyName)) (hw3 : xW (.static arraycopyName)) (hw4 : xW (.initialized "java/lang/System")) (hd : 1 ≤ xdp y ∧ 40 ≤ xlo y) (hw : (S.map xcat).sum ≤ 8)
    (ha : σ[a]? = some (100, n0)) (hb : σ[b]? = some (100, n1)) (h0 : 0 ≤ n) (h1 : n ≤ n0) (h2 : n ≤ n1) (kk : xX G y bc bs p2 L S (σ, ρ, xcp M a b n) Q) : xX G y bc bs pc L (xI n :: xI 0 :: xP b :: xI 0 :: xP a :: S) (σ, ρ, M) Q := by
  subst e2
  intro p l e R s m args below meth c H locs cells slots ls QF C hl hL hS hR hV hc hsl hret
  obtain ⟨hv, hS⟩ := xc_1 hS
  obtain ⟨-, hS⟩ := xc_1 hS
  obtain ⟨-, hS⟩ := xc_1 hS
  obtain ⟨-, hS⟩ := xc_1 hS
  obtain ⟨-, hS⟩ := xc_1 hS
  have C2 := C
  obtain ⟨hx, hb0, hml, hr, hlk, hnm, hown, hts, hne, hao, hfr, hlo, hK, hX0, hb1, hb2⟩ := C2
  have hnn : ¬ Int32.ofInt n < 0 := fun q => by
    have := (xi_lt hv ⟨by decide, by decide⟩).mp (show Int32.ofInt n < Int32.ofInt 0 from q)
    omega
  have z0 : ¬ Int32.ofInt 0 < 0 := by decide
  have zz : (Int32.ofInt 0).toNatClampNeg = 0 := by decide
  have hw8 := x_fit (G := G) hw
  refine va_copyi (D := G.1) (cl := vwCl) (tys := gtys G) (ty := .int) hx hb0 (by rw [hml]; exact hl.1.symm) hown (hts _ (xW_in.mpr hw1)) (hts _ (xW_in.mpr hw2)) (hts _ (xW_in.mpr hw3)) (hts _ (xW_in.mpr hw4)) hK hR.1 (xws_D G σ ρ M) hV a b 0 0 (by rw [← xcl_i]; exact xws_at ha) (by rw [← xcl_i]; exact xws_at hb) rfl rfl rfl z0 z0 hnn (by rw [zz, xi_nat hv]; omega) (by rw [zz, xi_nat hv]; omega) (fun _ _ => rfl) (by omega) (by
    have e9 : nativeFrameWords "java/lang/System" "arraycopy" 5 = 7 := by decide
    rw [e9]; omega) d (fun H1 locs1 hP1 _ hS1 => ?_)
  have e4 : (va_cpy (fun j : Nat => Int32.ofInt (M a j)) (fun j : Nat => Int32.ofInt (M b j)) (Int32.ofInt 0).toNatClampNeg (Int32.ofInt 0).toNatClampNeg (Int32.ofInt n).toNatClampNeg) = (fun j : Nat => Int32.ofInt (xcp M a b n b j)) := by
    funext j
    unfold va_cpy xcp
    rw [zz, xi_nat hv]
    by_cases hj : j < n.toNat
    · rw [if_pos ⟨by omega, by omega⟩, if_pos ⟨rfl, by omega, by omega⟩]
      simp
    · rw [if_neg (by omega), if_neg (fun z => hj (by have := z.2.2; omega))]
  rw [e4, ← xcl_i (ρ := ρ), ← xws_set hb (fun _ _ => rfl) (fun k hk => by funext j; unfold xcp; rw [if_neg (fun z => hk z.1)])] at hP1
  exact kk p l e R s m args below meth c H1 locs1 cells slots ls QF C hl hL hS ⟨hP1, xcp_in hR.2⟩ hS1 hc hsl hret
theorem x_min {i : Nat} {a b : Int} (e2 : pc + 3 = p2) (d : decode (xcd y) pc = .ok (.invokestatic i, 3)) (hw1 : xW (.methodLink (xR (xow y)) i Lib.Math.min.name)) (hw3 : xW (.static Lib.Math.min.name)) (hw4 : xW (.initialized "java/lang/Math")) (hw5 : xW (.code Lib.Math.min.name Lib.Math.min.code 2 (some .int))) (hd : 1 ≤ xdp y ∧ 21 ≤ xlo y) (hw : (S.map xcat).sum ≤ 8)
    (kk : xX G y bc bs p2 L (xI (if b < a then b else a) :: S) (σ, ρ, M) Q) : xX G y bc bs pc L (xI b :: xI a :: S) (σ, ρ, M) Q := by
  subst e2
  intro p l e R s m args below meth c H locs cells slots ls QF C hl hL hS hR hV hc hsl hret
  obtain ⟨hv, hS⟩ := xc_1 hS
  obtain ⟨hu, hS⟩ := xc_1 hS
  have C2 := C
  obtain ⟨hx, hb0, hml, hr, hlk, hnm, hown, hts, hne, hao, hfr, hlo, hK, hX0, hb1, hb2⟩ := C2
  have hw8 := x_fit (G := G) hw
  refine va_mmin hx hb0 (by rw [hml]; exact hl.1.symm) hown (hts _ (xW_in.mpr hw1)) (hts _ (xW_in.mpr hw3)) (hts _ (xW_in.mpr hw4)) (hts _ (xW_in.mpr hw5)) (by omega) (by omega) (by have := hc.2; omega) (by omega) d ?_
  have e3 : (if Int32.ofInt b < Int32.ofInt a then Int32.ofInt b else Int32.ofInt a) = Int32.ofInt (if b < a then b else a) := by
    by_cases h : b < a
    · rw [if_pos h, if_pos ((xi_lt hv hu).mpr h)]
    · rw [if_neg h, if_neg (fun z => h ((xi_lt hv hu).mp z))]
  rw [e3]
  exact kk p l e R s m args below meth c H locs cells slots ls QF C hl hL (List.forall_mem_cons.mpr ⟨(by show xin _; split; exact hv; exact hu), hS⟩) hR hV hc hsl hret
end XM
end
section
section XC
variable {G : xG} {y z : xM} {bc bs pc p2 i : Nat} {L : List (Nat × xV)} {S : List xV} {σ : List (Nat × Nat)} {ρ : Nat → Int → Option Nat} {M : Nat → Int → Int} {Q : Option xV → xH → Prop}
def xcc (y z : xM) (n k : Nat) : Bool := Nat.ble (xdp z + 1) (xdp y) && (Nat.ble (8 + (xml z + 11) + xlo z) (xlo y) && (Nat.beq n (xar z) && Nat.ble k (xml z)))
theorem xcc_ok {n k : Nat} (h : xcc y z n k = true) : (xdp z + 1 ≤ xdp y ∧ 8 + (xml z + 11) + xlo z ≤ xlo y) ∧ n = xar z ∧ k ≤ xml z := by
  unfold xcc at h
  simp only [Bool.and_eq_true] at h
  exact ⟨⟨Nat.le_of_ble_eq_true h.1, Nat.le_of_ble_eq_true h.2.1⟩, Nat.eq_of_beq_eq_true h.2.2.1, Nat.le_of_ble_eq_true h.2.2.2⟩
theorem x_v0 {ci r : Nat} (e2 : pc + 3 = p2) (d : decode (xcd y) pc = .ok (.invokevirtual i, 3)) (hk : xLv (xow y) i ci z) (hok : xOk z) (hq : xcc y z 0 (([xP r] : List xV).map xcat).sum = true) (hs : σ[r]? = some (ci, xN ci)) (hw : Nat.ble (S.map xcat).sum 8 = true) (hX : xX G z 0 0 0 (xargs 0 [xP r]) [] (σ, ρ, M) (fun a h2 => xX G y 0 0 p2 L (xpush a S) h2 Q)) : xX G y 0 0 pc L (xP r :: S) (σ, ρ, M) Q :=
  x_callV (As := []) (mc := 0) (ms := 0) e2 d hk hok (xcc_ok hq).1 hs ⟨(xcc_ok hq).2.1, (xcc_ok hq).2.2⟩ (Nat.le_of_ble_eq_true hw) ⟨Nat.le_refl 0, Nat.le_refl 0⟩ hX
theorem x_v1 {ci r : Nat} {a1 : xV} (e2 : pc + 3 = p2) (d : decode (xcd y) pc = .ok (.invokevirtual i, 3)) (hk : xLv (xow y) i ci z) (hok : xOk z) (hq : xcc y z 1 (([xP r, a1] : List xV).map xcat).sum = true) (hs : σ[r]? = some (ci, xN ci)) (hw : Nat.ble (S.map xcat).sum 8 = true) (hX : xX G z 0 0 0 (xargs 0 [xP r, a1]) [] (σ, ρ, M) (fun a h2 => xX G y 0 0 p2 L (xpush a S) h2 Q)) : xX G y 0 0 pc L (a1 :: xP r :: S) (σ, ρ, M) Q :=
  x_callV (As := [a1]) (mc := 0) (ms := 0) e2 d hk hok (xcc_ok hq).1 hs ⟨(xcc_ok hq).2.1, (xcc_ok hq).2.2⟩ (Nat.le_of_ble_eq_true hw) ⟨Nat.le_refl 0, Nat.le_refl 0⟩ hX
theorem x_v2 {ci r : Nat} {a1 a2 : xV} (e2 : pc + 3 = p2) (d : decode (xcd y) pc = .ok (.invokevirtual i, 3)) (hk : xLv (xow y) i ci z) (hok : xOk z) (hq : xcc y z 2 (([xP r, a1, a2] : List xV).map xcat).sum = true) (hs : σ[r]? = some (ci, xN ci)) (hw : Nat.ble (S.map xcat).sum 8 = true) (hX : xX G z 0 0 0 (xargs 0 [xP r, a1, a2]) [] (σ, ρ, M) (fun a h2 => xX G y 0 0 p2 L (xpush a S) h2 Q)) : xX G y 0 0 pc L (a2 :: a1 :: xP r :: S) (σ, ρ, M) Q :=
  x_callV (As := [a1, a2]) (mc := 0) (ms := 0) e2 d hk hok (xcc_ok hq).1 hs ⟨(xcc_ok hq).2.1, (xcc_ok hq).2.2⟩ (Nat.le_of_ble_eq_true hw) ⟨Nat.le_refl 0, Nat.le_refl 0⟩ hX
theorem x_v3 {ci r : Nat} {a1 a2 a3 : xV} (e2 : pc + 3 = p2) (d : decode (xcd y) pc = .ok (.invokevirtual i, 3)) (hk : xLv (xow y) i ci z) (hok : xOk z) (hq : xcc y z 3 (([xP r, a1, a2, a3] : List xV).map xcat).sum = true) (hs : σ[r]? = some (ci, xN ci)) (hw : Nat.ble (S.map xcat).sum 8 = true) (hX : xX G z 0 0 0 (xargs 0 [xP r, a1, a2, a3]) [] (σ, ρ, M) (fun a h2 => xX G y 0 0 p2 L (xpush a S) h2 Q)) : xX G y 0 0 pc L (a3 :: a2 :: a1 :: xP r :: S) (σ, ρ, M) Q :=
  x_callV (As := [a1, a2, a3]) (mc := 0) (ms := 0) e2 d hk hok (xcc_ok hq).1 hs ⟨(xcc_ok hq).2.1, (xcc_ok hq).2.2⟩ (Nat.le_of_ble_eq_true hw) ⟨Nat.le_refl 0, Nat.le_refl 0⟩ hX
theorem x_v4 {ci r : Nat} {a1 a2 a3 a4 : xV} (e2 : pc + 3 = p2) (d : decode (xcd y) pc = .ok (.invokevirtual i, 3)) (hk : xLv (xow y) i ci z) (hok : xOk z) (hq : xcc y z 4 (([xP r, a1, a2, a3, a4] : List xV).map xcat).sum = true) (hs : σ[r]? = some (ci, xN ci)) (hw : Nat.ble (S.map xcat).sum 8 = true) (hX : xX G z 0 0 0 (xargs 0 [xP r, a1, a2, a3, a4]) [] (σ, ρ, M) (fun a h2 => xX G y 0 0 p2 L (xpush a S) h2 Q)) : xX G y 0 0 pc L (a4 :: a3 :: a2 :: a1 :: xP r :: S) (σ, ρ, M) Q :=
  x_callV (As := [a1, a2, a3, a4]) (mc := 0) (ms := 0) e2 d hk hok (xcc_ok hq).1 hs ⟨(xcc_ok hq).2.1, (xcc_ok hq).2.2⟩ (Nat.le_of_ble_eq_true hw) ⟨Nat.le_refl 0, Nat.le_refl 0⟩ hX
theorem x_s1 {a1 : xV} (e2 : pc + 3 = p2) (d : decode (xcd y) pc = .ok (.invokestatic i, 3)) (hk : xLs (xow y) i z) (hok : xOk z) (hq : xcc y z 1 (([a1] : List xV).map xcat).sum = true) (hw : Nat.ble (S.map xcat).sum 8 = true) (hX : xX G z 0 0 0 (xargs 0 [a1]) [] (σ, ρ, M) (fun a h2 => xX G y 0 0 p2 L (xpush a S) h2 Q)) : xX G y 0 0 pc L (a1 :: S) (σ, ρ, M) Q :=
  x_callS (As := [a1]) (mc := 0) (ms := 0) e2 d hk hok (xcc_ok hq).1 ⟨(xcc_ok hq).2.1, (xcc_ok hq).2.2⟩ (Nat.le_of_ble_eq_true hw) ⟨Nat.le_refl 0, Nat.le_refl 0⟩ hX
theorem x_s2 {a1 a2 : xV} (e2 : pc + 3 = p2) (d : decode (xcd y) pc = .ok (.invokestatic i, 3)) (hk : xLs (xow y) i z) (hok : xOk z) (hq : xcc y z 2 (([a1, a2] : List xV).map xcat).sum = true) (hw : Nat.ble (S.map xcat).sum 8 = true) (hX : xX G z 0 0 0 (xargs 0 [a1, a2]) [] (σ, ρ, M) (fun a h2 => xX G y 0 0 p2 L (xpush a S) h2 Q)) : xX G y 0 0 pc L (a2 :: a1 :: S) (σ, ρ, M) Q :=
  x_callS (As := [a1, a2]) (mc := 0) (ms := 0) e2 d hk hok (xcc_ok hq).1 ⟨(xcc_ok hq).2.1, (xcc_ok hq).2.2⟩ (Nat.le_of_ble_eq_true hw) ⟨Nat.le_refl 0, Nat.le_refl 0⟩ hX
theorem x_s3 {a1 a2 a3 : xV} (e2 : pc + 3 = p2) (d : decode (xcd y) pc = .ok (.invokestatic i, 3)) (hk : xLs (xow y) i z) (hok : xOk z) (hq : xcc y z 3 (([a1, a2, a3] : List xV).map xcat).sum = true) (hw : Nat.ble (S.map xcat).sum 8 = true) (hX : xX G z 0 0 0 (xargs 0 [a1, a2, a3]) [] (σ, ρ, M) (fun a h2 => xX G y 0 0 p2 L (xpush a S) h2 Q)) : xX G y 0 0 pc L (a3 :: a2 :: a1 :: S) (σ, ρ, M) Q :=
  x_callS (As := [a1, a2, a3]) (mc := 0) (ms := 0) e2 d hk hok (xcc_ok hq).1 ⟨(xcc_ok hq).2.1, (xcc_ok hq).2.2⟩ (Nat.le_of_ble_eq_true hw) ⟨Nat.le_refl 0, Nat.le_refl 0⟩ hX
theorem x_i0 {r mc ms : Nat} (e2 : pc + 3 = p2) (d : decode (xcd y) pc = .ok (.invokespecial i, 3)) (hk : xLi (xow y) i z ∨ xLn (xow y) i z) (hok : xOk z) (hq : xcc y z 0 (([xP r] : List xV).map xcat).sum = true) (hw : Nat.ble (S.map xcat).sum 8 = true) (hb : mc ≤ bc ∧ ms ≤ bs) (hX : xX G z mc ms 0 (xargs 0 [xP r]) [] (σ, ρ, M) (fun a h2 => xX G y (bc - mc) (bs - ms) p2 L (xpush a S) h2 Q)) : xX G y bc bs pc L (xP r :: S) (σ, ρ, M) Q :=
  x_callI (As := []) e2 d hk hok (xcc_ok hq).1 ⟨(xcc_ok hq).2.1, (xcc_ok hq).2.2⟩ (Nat.le_of_ble_eq_true hw) hb hX
theorem x_i1 {r mc ms : Nat} {a1 : xV} (e2 : pc + 3 = p2) (d : decode (xcd y) pc = .ok (.invokespecial i, 3)) (hk : xLi (xow y) i z ∨ xLn (xow y) i z) (hok : xOk z) (hq : xcc y z 1 (([xP r, a1] : List xV).map xcat).sum = true) (hw : Nat.ble (S.map xcat).sum 8 = true) (hb : mc ≤ bc ∧ ms ≤ bs) (hX : xX G z mc ms 0 (xargs 0 [xP r, a1]) [] (σ, ρ, M) (fun a h2 => xX G y (bc - mc) (bs - ms) p2 L (xpush a S) h2 Q)) : xX G y bc bs pc L (a1 :: xP r :: S) (σ, ρ, M) Q :=
  x_callI (As := [a1]) e2 d hk hok (xcc_ok hq).1 ⟨(xcc_ok hq).2.1, (xcc_ok hq).2.2⟩ (Nat.le_of_ble_eq_true hw) hb hX
theorem w_oi2 : xW (.instanceMethod objectInit) := xW_t 21 (by decide +kernel) (by decide +kernel)
theorem w_oi3 : xW (.code objectInit ⟨#[0xb1]⟩ 1 none) := xW_t 22 (by decide +kernel) (by decide +kernel)
theorem w_ac2 : xW (.native arraycopyName) := xW_t 295 (by decide +kernel) (by decide +kernel)
theorem w_ac3 : xW (.static arraycopyName) := xW_t 294 (by decide +kernel) (by decide +kernel)
theorem w_ac4 : xW (.initialized "java/lang/System") := xW_t 10 (by decide +kernel) (by decide +kernel)
theorem w_mn3 : xW (.static Lib.Math.min.name) := xW_t 267 (by decide +kernel) (by decide +kernel)
theorem w_mn4 : xW (.initialized "java/lang/Math") := xW_t 9 (by decide +kernel) (by decide +kernel)
theorem w_mn5 : xW (.code Lib.Math.min.name Lib.Math.min.code 2 (some .int)) := xW_t 268 (by decide +kernel) (by decide +kernel)
theorem w_ai : xW (.arrayClass .int) := xW_t 51 (by decide +kernel) (by decide +kernel)
theorem w_az : xW (.arrayClass .boolean) := xW_t 118 (by decide +kernel) (by decide +kernel)
theorem w_9_3 : xW (.methodLink (xR 9) 3 objectInit) := xW_t 20 (by decide +kernel) (by decide +kernel)
theorem w_0_3 : xW (.methodLink (xR 0) 3 objectInit) := xW_t 152 (by decide +kernel) (by decide +kernel)
theorem w_1_3 : xW (.methodLink (xR 1) 3 objectInit) := xW_t 28 (by decide +kernel) (by decide +kernel)
theorem w_1_22 : xW (.methodLink (xR 1) 22 arraycopyName) := xW_t 293 (by decide +kernel) (by decide +kernel)
theorem w_2_3 : xW (.methodLink (xR 2) 3 objectInit) := xW_t 105 (by decide +kernel) (by decide +kernel)
theorem w_3_3 : xW (.methodLink (xR 3) 3 objectInit) := xW_t 175 (by decide +kernel) (by decide +kernel)
theorem w_6_3 : xW (.methodLink (xR 6) 3 objectInit) := xW_t 124 (by decide +kernel) (by decide +kernel)
theorem w_6_69 : xW (.methodLink (xR 6) 69 Lib.Math.min.name) := xW_t 266 (by decide +kernel) (by decide +kernel)
theorem w_7_3 : xW (.methodLink (xR 7) 3 objectInit) := xW_t 57 (by decide +kernel) (by decide +kernel)
theorem w_7_35 : xW (.methodLink (xR 7) 35 arraycopyName) := xW_t 300 (by decide +kernel) (by decide +kernel)
theorem w_7_91 : xW (.methodLink (xR 7) 91 Lib.Math.min.name) := xW_t 581 (by decide +kernel) (by decide +kernel)
theorem w_10_1 : xW (.methodLink (xR 10) 1 objectInit) := xW_t 680 (by decide +kernel) (by decide +kernel)
end XC
end
section
section XS
variable {G : xG} {σ : List (Nat × Nat)} {ρ : Nat → Int → Option Nat} {M : Nat → Int → Int} {Q : Option xV → xH → Prop}
/-- a Frame at F: its row of bytes lies behind it -/
def isFr (σ : List (Nat × Nat)) (ρ : Nat → Int → Option Nat) (F : Nat) : Prop := σ[F]? = some (1, xN 1) ∧ ρ F 2 = some (F + 1) ∧ σ[F + 1]? = some (100, 8)
/-- a State at S: its rows lie behind it -/
def isSt (σ : List (Nat × Nat)) (ρ : Nat → Int → Option Nat) (S F : Nat) : Prop := σ[S]? = some (5, xN 5) ∧ ρ S 0 = some F ∧ ρ S 1 = some (S + 1) ∧ ρ S 2 = some (S + 2) ∧ ρ S 3 = some (S + 3) ∧ ρ S 4 = some (S + 4) ∧ σ[S + 1]? = some (100, 8) ∧ σ[S + 2]? = some (100, 16) ∧ σ[S + 3]? = some (100, 16) ∧ σ[S + 4]? = some (100, 8) ∧ isFr σ ρ F ∧ F + 1 < S
theorem isFr.sh {F : Nat} (h : isFr σ ρ F) : σ[F]? = some (1, xN 1) := h.1
theorem isFr.r2 {F : Nat} (h : isFr σ ρ F) : ρ F 2 = some (F + 1) := h.2.1
theorem isFr.a2 {F : Nat} (h : isFr σ ρ F) : σ[F + 1]? = some (100, 8) := h.2.2
theorem isSt.sh {S F : Nat} (h : isSt σ ρ S F) : σ[S]? = some (5, xN 5) := h.1
theorem isSt.r0 {S F : Nat} (h : isSt σ ρ S F) : ρ S 0 = some F := h.2.1
theorem isSt.r1 {S F : Nat} (h : isSt σ ρ S F) : ρ S 1 = some (S + 1) := h.2.2.1
theorem isSt.r2 {S F : Nat} (h : isSt σ ρ S F) : ρ S 2 = some (S + 2) := h.2.2.2.1
theorem isSt.r3 {S F : Nat} (h : isSt σ ρ S F) : ρ S 3 = some (S + 3) := h.2.2.2.2.1
theorem isSt.r4 {S F : Nat} (h : isSt σ ρ S F) : ρ S 4 = some (S + 4) := h.2.2.2.2.2.1
theorem isSt.a1 {S F : Nat} (h : isSt σ ρ S F) : σ[S + 1]? = some (100, 8) := h.2.2.2.2.2.2.1
theorem isSt.a2 {S F : Nat} (h : isSt σ ρ S F) : σ[S + 2]? = some (100, 16) := h.2.2.2.2.2.2.2.1
theorem isSt.a3 {S F : Nat} (h : isSt σ ρ S F) : σ[S + 3]? = some (100, 16) := h.2.2.2.2.2.2.2.2.1
theorem isSt.a4 {S F : Nat} (h : isSt σ ρ S F) : σ[S + 4]? = some (100, 8) := h.2.2.2.2.2.2.2.2.2.1
theorem isSt.fr {S F : Nat} (h : isSt σ ρ S F) : isFr σ ρ F := h.2.2.2.2.2.2.2.2.2.2.1
theorem isSt.lt {S F : Nat} (h : isSt σ ρ S F) : F + 1 < S := h.2.2.2.2.2.2.2.2.2.2.2
set_option maxHeartbeats 4000000 in
theorem t_X1_hasBlock {F : Nat} {b : Int} (hF : isFr σ ρ F) (k1 : 0 ≤ b ∧ b < M F 0 → Q (some (xI 1)) (σ, ρ, M)) (k0 : ¬ (0 ≤ b ∧ b < M F 0) → Q (some (xI 0)) (σ, ρ, M)) : xX G mX1_hasBlock 0 0 0 [(0, xP F), (1, xI b)] [] (σ, ρ, M) Q := by
  refine x_iload_n (p2 := 1) rfl dX1_hasBlock_0 rfl ?_
  refine x_if_lt (p2 := 4) (t := 16) (by decide) rfl dX1_hasBlock_1 (fun hc1 => ?_) (fun hc1 => ?_)
  · skip
    refine x_iconst (p2 := 17) rfl dX1_hasBlock_16 ⟨by decide, by decide⟩ ?_
    refine x_zret dX1_hasBlock_17 rfl (by omega) ?_
    exact k0 (by omega)
  · skip
    refine x_iload_n (p2 := 5) rfl dX1_hasBlock_4 rfl ?_
    refine x_aload_n (p2 := 6) rfl dX1_hasBlock_5 rfl ?_
    refine x_geti (p2 := 9) (kz := 0) rfl dX1_hasBlock_6 f_1_9 rfl rfl hF.sh ?_
    refine x_ic_ge (p2 := 12) (t := 16) (by decide) rfl dX1_hasBlock_9 (fun hc9 => ?_) (fun hc9 => ?_)
    · skip
      refine x_iconst (p2 := 17) rfl dX1_hasBlock_16 ⟨by decide, by decide⟩ ?_
      refine x_zret dX1_hasBlock_17 rfl (by omega) ?_
      exact k0 (by omega)
    · skip
      refine x_iconst (p2 := 13) rfl dX1_hasBlock_12 ⟨by decide, by decide⟩ ?_
      refine x_goto (t := 17) (by decide) dX1_hasBlock_13 ?_
      refine x_zret dX1_hasBlock_17 rfl (by omega) ?_
      exact k1 (by omega)
set_option maxHeartbeats 4000000 in
theorem t_X1_hasPosition {F : Nat} {b : Int} (hF : isFr σ ρ F) (k1 : 0 ≤ b ∧ b < M F 0 → Q (some (xI 1)) (σ, ρ, M)) (k0 : ¬ (0 ≤ b ∧ b < M F 0) → Q (some (xI 0)) (σ, ρ, M)) : xX G mX1_hasPosition 0 0 0 [(0, xP F), (1, xI b)] [] (σ, ρ, M) Q := by
  refine x_iload_n (p2 := 1) rfl dX1_hasPosition_0 rfl ?_
  refine x_if_lt (p2 := 4) (t := 16) (by decide) rfl dX1_hasPosition_1 (fun hc1 => ?_) (fun hc1 => ?_)
  · skip
    refine x_iconst (p2 := 17) rfl dX1_hasPosition_16 ⟨by decide, by decide⟩ ?_
    refine x_zret dX1_hasPosition_17 rfl (by omega) ?_
    exact k0 (by omega)
  · skip
    refine x_iload_n (p2 := 5) rfl dX1_hasPosition_4 rfl ?_
    refine x_aload_n (p2 := 6) rfl dX1_hasPosition_5 rfl ?_
    refine x_geti (p2 := 9) (kz := 0) rfl dX1_hasPosition_6 f_1_9 rfl rfl hF.sh ?_
    refine x_ic_ge (p2 := 12) (t := 16) (by decide) rfl dX1_hasPosition_9 (fun hc9 => ?_) (fun hc9 => ?_)
    · skip
      refine x_iconst (p2 := 17) rfl dX1_hasPosition_16 ⟨by decide, by decide⟩ ?_
      refine x_zret dX1_hasPosition_17 rfl (by omega) ?_
      exact k0 (by omega)
    · skip
      refine x_iconst (p2 := 13) rfl dX1_hasPosition_12 ⟨by decide, by decide⟩ ?_
      refine x_goto (t := 17) (by decide) dX1_hasPosition_13 ?_
      refine x_zret dX1_hasPosition_17 rfl (by omega) ?_
      exact k1 (by omega)
set_option maxHeartbeats 4000000 in
theorem t_X7_target {S F : Nat} {b k : Int} (hS : isSt σ ρ S F) (h1 : 0 ≤ b) (h2 : b < 8) (h3 : 0 ≤ k) (h4 : k < 2) (hq : Q (some (xI (M (S + 2) (2 * b + k)))) (σ, ρ, M)) : xX G mX7_target 0 0 0 [(0, xP S), (1, xI b), (2, xI k)] [] (σ, ρ, M) Q := by
  refine x_aload_n (p2 := 1) rfl dX7_target_0 rfl ?_
  refine x_getr (p2 := 4) (kz := 2) rfl dX7_target_1 f_7_15 rfl rfl hS.sh hS.r2 ?_
  refine x_iconst (p2 := 5) rfl dX7_target_4 ⟨by decide, by decide⟩ ?_
  refine x_iload_n (p2 := 6) rfl dX7_target_5 rfl ?_
  refine x_imul (p2 := 7) rfl dX7_target_6 ⟨by omega, by omega⟩ ?_
  refine x_iload_n (p2 := 8) rfl dX7_target_7 rfl ?_
  refine x_iadd (p2 := 9) rfl dX7_target_8 ⟨by omega, by omega⟩ ?_
  refine x_iald (p2 := 10) rfl dX7_target_9 hS.a2 (by omega) (by omega) ?_
  refine x_iret dX7_target_10 rfl ?_
  exact hq
set_option maxHeartbeats 4000000 in
theorem t_X7_count {S F : Nat} {b k : Int} (hS : isSt σ ρ S F) (h1 : 0 ≤ b) (h2 : b < 8) (h3 : 0 ≤ k) (h4 : k < 2) (hq : Q (some (xI (M (S + 3) (2 * b + k)))) (σ, ρ, M)) : xX G mX7_count 0 0 0 [(0, xP S), (1, xI b), (2, xI k)] [] (σ, ρ, M) Q := by
  refine x_aload_n (p2 := 1) rfl dX7_count_0 rfl ?_
  refine x_getr (p2 := 4) (kz := 3) rfl dX7_count_1 f_7_18 rfl rfl hS.sh hS.r3 ?_
  refine x_iconst (p2 := 5) rfl dX7_count_4 ⟨by decide, by decide⟩ ?_
  refine x_iload_n (p2 := 6) rfl dX7_count_5 rfl ?_
  refine x_imul (p2 := 7) rfl dX7_count_6 ⟨by omega, by omega⟩ ?_
  refine x_iload_n (p2 := 8) rfl dX7_count_7 rfl ?_
  refine x_iadd (p2 := 9) rfl dX7_count_8 ⟨by omega, by omega⟩ ?_
  refine x_iald (p2 := 10) rfl dX7_count_9 hS.a3 (by omega) (by omega) ?_
  refine x_iret dX7_count_10 rfl ?_
  exact hq
set_option maxHeartbeats 4000000 in
theorem t_X7_putTarget {S F : Nat} {b k v : Int} (hS : isSt σ ρ S F) (h1 : 0 ≤ b) (h2 : b < 8) (h3 : 0 ≤ k) (h4 : k < 2) (hq : Q none (σ, ρ, xu M (S + 2) (2 * b + k) v)) : xX G mX7_putTarget 0 0 0 [(0, xP S), (1, xI b), (2, xI k), (3, xI v)] [] (σ, ρ, M) Q := by
  refine x_aload_n (p2 := 1) rfl dX7_putTarget_0 rfl ?_
  refine x_getr (p2 := 4) (kz := 2) rfl dX7_putTarget_1 f_7_15 rfl rfl hS.sh hS.r2 ?_
  refine x_iconst (p2 := 5) rfl dX7_putTarget_4 ⟨by decide, by decide⟩ ?_
  refine x_iload_n (p2 := 6) rfl dX7_putTarget_5 rfl ?_
  refine x_imul (p2 := 7) rfl dX7_putTarget_6 ⟨by omega, by omega⟩ ?_
  refine x_iload_n (p2 := 8) rfl dX7_putTarget_7 rfl ?_
  refine x_iadd (p2 := 9) rfl dX7_putTarget_8 ⟨by omega, by omega⟩ ?_
  refine x_iload_n (p2 := 10) rfl dX7_putTarget_9 rfl ?_
  refine x_iast (p2 := 11) rfl dX7_putTarget_10 hS.a2 (by omega) (by omega) ?_
  refine x_vret dX7_putTarget_11 rfl ?_
  exact hq
set_option maxHeartbeats 4000000 in
theorem t_X7_putCount {S F : Nat} {b k v : Int} (hS : isSt σ ρ S F) (h1 : 0 ≤ b) (h2 : b < 8) (h3 : 0 ≤ k) (h4 : k < 2) (hq : Q none (σ, ρ, xu M (S + 3) (2 * b + k) v)) : xX G mX7_putCount 0 0 0 [(0, xP S), (1, xI b), (2, xI k), (3, xI v)] [] (σ, ρ, M) Q := by
  refine x_aload_n (p2 := 1) rfl dX7_putCount_0 rfl ?_
  refine x_getr (p2 := 4) (kz := 3) rfl dX7_putCount_1 f_7_18 rfl rfl hS.sh hS.r3 ?_
  refine x_iconst (p2 := 5) rfl dX7_putCount_4 ⟨by decide, by decide⟩ ?_
  refine x_iload_n (p2 := 6) rfl dX7_putCount_5 rfl ?_
  refine x_imul (p2 := 7) rfl dX7_putCount_6 ⟨by omega, by omega⟩ ?_
  refine x_iload_n (p2 := 8) rfl dX7_putCount_7 rfl ?_
  refine x_iadd (p2 := 9) rfl dX7_putCount_8 ⟨by omega, by omega⟩ ?_
  refine x_iload_n (p2 := 10) rfl dX7_putCount_9 rfl ?_
  refine x_iast (p2 := 11) rfl dX7_putCount_10 hS.a3 (by omega) (by omega) ?_
  refine x_vret dX7_putCount_11 rfl ?_
  exact hq
end XS
end
section
section XT
variable {G : xG} {σ : List (Nat × Nat)} {ρ : Nat → Int → Option Nat} {M : Nat → Int → Int} {Q : Option xV → xH → Prop}
/-- f i + f (i + 1) + .. , k of them -/
def sg (f : Int → Int) : Int → Nat → Int
  | _, 0 => 0
  | i, k + 1 => f i + sg f (i + 1) k
def fa (n : Int) (od : Int → Int) (hot i : Int) : Int := if i + 1 = hot ∨ n ≤ i + 1 then -1 else od (i + 1)
def pcst (ex tg ct : Int → Int) (b k f : Int) : Int := if tg (2 * b + k) = f then 0 else if ex b = 1 then 2 else if tg (2 * b + (1 - k)) = f then 3 else if k = (if ct (2 * b + 0) < ct (2 * b + 1) then 1 else 0) then 3 else 2
def shr (ex tg ct : Int → Int) (b f : Int) : Int := sg (fun k => ct (2 * b + k) * pcst ex tg ct b k f) 0 (ex b).toNat
def tcs (n : Int) (ex tg ct od : Int → Int) (hot : Int) : Int := sg (fun i => shr ex tg ct (od i) (fa n od hot i)) 0 n.toNat
def rnf (ex tg ct : Int → Int) (b f : Int) : Int := sg (fun k => if tg (2 * f + k) = b then ct (2 * f + k) else 0) 0 (ex f).toNat
def rns (n en : Int) (ex tg ct : Int → Int) (b : Int) : Int := (if b = 0 then en else 0) + sg (rnf ex tg ct b) 0 n.toNat
def bbf (ex tg : Int → Int) (b f : Int) : Int := sg (fun k => if tg (2 * b + k) = f then 0 else 2) 0 (ex b).toNat
def wfB (n : Int) (ex tg ct : Int → Int) (b : Int) : Prop := 0 ≤ ex b ∧ ex b ≤ 2 ∧ (∀ k, 0 ≤ k → k < ex b → 0 ≤ tg (2 * b + k) ∧ tg (2 * b + k) < n ∧ 0 ≤ ct (2 * b + k) ∧ ct (2 * b + k) ≤ 99) ∧ (ex b = 2 → tg (2 * b + 0) ≠ tg (2 * b + 1))
def wfG (n : Int) (ex tg ct : Int → Int) : Prop := 1 ≤ n ∧ n ≤ 8 ∧ ∀ b, 0 ≤ b → b < n → wfB n ex tg ct b
def wfO (n : Int) (od : Int → Int) (hot : Int) : Prop := (∀ i, 0 ≤ i → i < n → 0 ≤ od i ∧ od i < n) ∧ (∀ i j, 0 ≤ i → i < n → 0 ≤ j → j < n → od i = od j → i = j) ∧ od 0 = 0 ∧ 1 ≤ hot ∧ hot ≤ n
theorem sg_bd {f : Int → Int} {c : Int} : ∀ (k : Nat) (i : Int), (∀ j, i ≤ j → j < i + k → 0 ≤ f j ∧ f j ≤ c) → 0 ≤ sg f i k ∧ sg f i k ≤ c * k
  | 0, i, h => by simp [sg]
  | k + 1, i, h => by
    have h1 := h i (by omega) (by omega)
    have h2 := sg_bd k (i + 1) (fun j a b => h j (by omega) (by omega))
    unfold sg
    have e : c * ((k + 1 : Nat) : Int) = c * (k : Int) + c := by
      rw [Int.natCast_add, Int.mul_add]; simp
    rw [e]
    omega
theorem sg_cong {f g : Int → Int} : ∀ (k : Nat) (i : Int), (∀ j, i ≤ j → j < i + k → f j = g j) → sg f i k = sg g i k
  | 0, i, h => rfl
  | k + 1, i, h => by
    unfold sg
    rw [h i (by omega) (by omega), sg_cong k (i + 1) (fun j a b => h j (by omega) (by omega))]
theorem pcst_bd {ex tg ct : Int → Int} {b k f : Int} : 0 ≤ pcst ex tg ct b k f ∧ pcst ex tg ct b k f ≤ 3 := by
  unfold pcst
  repeat' split
  all_goals omega
theorem mul_bd {a b : Int} (h1 : 0 ≤ a) (h2 : a ≤ 99) (h3 : 0 ≤ b) (h4 : b ≤ 3) : 0 ≤ a * b ∧ a * b ≤ 297 := by
  rcases (by omega : b = 0 ∨ b = 1 ∨ b = 2 ∨ b = 3) with rfl | rfl | rfl | rfl <;> omega
theorem shr_bd {n : Int} {ex tg ct : Int → Int} {b f : Int} (h : wfB n ex tg ct b) : 0 ≤ shr ex tg ct b f ∧ shr ex tg ct b f ≤ 594 := by
  obtain ⟨h0, h1, h2, -⟩ := h
  have := sg_bd (f := fun k => ct (2 * b + k) * pcst ex tg ct b k f) (c := 297) (ex b).toNat 0 (fun j a c => by
    have h3 := h2 j a (by omega)
    have h4 := pcst_bd (ex := ex) (tg := tg) (ct := ct) (b := b) (k := j) (f := f)
    exact mul_bd h3.2.2.1 h3.2.2.2 h4.1 h4.2)
  unfold shr
  omega
theorem rnf_bd {n : Int} {ex tg ct : Int → Int} {b f : Int} (h : wfB n ex tg ct f) : 0 ≤ rnf ex tg ct b f ∧ rnf ex tg ct b f ≤ 198 := by
  obtain ⟨h0, h1, h2, -⟩ := h
  have := sg_bd (f := fun k => if tg (2 * f + k) = b then ct (2 * f + k) else 0) (c := 99) (ex f).toNat 0 (fun j a c => by
    have h3 := h2 j a (by omega)
    split <;> omega)
  unfold rnf
  omega
set_option maxHeartbeats 4000000 in
theorem t_X7_hasEdge {S F : Nat} {b k : Int} (hS : isSt σ ρ S F) (hn : M F 0 ≤ 8) (k1 : 0 ≤ b ∧ b < M F 0 ∧ 0 ≤ k ∧ k < M (S + 1) b → Q (some (xI 1)) (σ, ρ, M)) (k0 : ¬ (0 ≤ b ∧ b < M F 0 ∧ 0 ≤ k ∧ k < M (S + 1) b) → Q (some (xI 0)) (σ, ρ, M)) : xX G mX7_hasEdge 0 0 0 [(0, xP S), (1, xI b), (2, xI k)] [] (σ, ρ, M) Q := by
  refine x_aload_n (p2 := 1) rfl dX7_hasEdge_0 rfl ?_
  refine x_getr (p2 := 4) (kz := 0) rfl dX7_hasEdge_1 f_7_31 rfl rfl hS.sh hS.r0 ?_
  refine x_iload_n (p2 := 5) rfl dX7_hasEdge_4 rfl ?_
  refine x_v1 (p2 := 8) rfl dX7_hasEdge_5 l_7_46 ok_X1_hasBlock rfl hS.fr.sh rfl ?_
  refine t_X1_hasBlock hS.fr (fun hb5 => ?_) (fun hb5 => ?_)
  · skip
    refine x_if_eq (p2 := 11) (t := 29) (by decide) rfl dX7_hasEdge_8 (fun hc => absurd hc (by decide)) (fun _ => ?_)
    refine x_iload_n (p2 := 12) rfl dX7_hasEdge_11 rfl ?_
    refine x_if_lt (p2 := 15) (t := 29) (by decide) rfl dX7_hasEdge_12 (fun hc12 => ?_) (fun hc12 => ?_)
    · skip
      refine x_iconst (p2 := 30) rfl dX7_hasEdge_29 ⟨by decide, by decide⟩ ?_
      refine x_zret dX7_hasEdge_30 rfl (by omega) ?_
      exact k0 (by omega)
    · skip
      refine x_iload_n (p2 := 16) rfl dX7_hasEdge_15 rfl ?_
      refine x_aload_n (p2 := 17) rfl dX7_hasEdge_16 rfl ?_
      refine x_getr (p2 := 20) (kz := 1) rfl dX7_hasEdge_17 f_7_9 rfl rfl hS.sh hS.r1 ?_
      refine x_iload_n (p2 := 21) rfl dX7_hasEdge_20 rfl ?_
      refine x_iald (p2 := 22) rfl dX7_hasEdge_21 hS.a1 (by omega) (by omega) ?_
      refine x_ic_ge (p2 := 25) (t := 29) (by decide) rfl dX7_hasEdge_22 (fun hc22 => ?_) (fun hc22 => ?_)
      · skip
        refine x_iconst (p2 := 30) rfl dX7_hasEdge_29 ⟨by decide, by decide⟩ ?_
        refine x_zret dX7_hasEdge_30 rfl (by omega) ?_
        exact k0 (by omega)
      · skip
        refine x_iconst (p2 := 26) rfl dX7_hasEdge_25 ⟨by decide, by decide⟩ ?_
        refine x_goto (t := 30) (by decide) dX7_hasEdge_26 ?_
        refine x_zret dX7_hasEdge_30 rfl (by omega) ?_
        exact k1 (by omega)
  · skip
    refine x_if_eq (p2 := 11) (t := 29) (by decide) rfl dX7_hasEdge_8 (fun _ => ?_) (fun hc => absurd hc (by decide))
    refine x_iconst (p2 := 30) rfl dX7_hasEdge_29 ⟨by decide, by decide⟩ ?_
    refine x_zret dX7_hasEdge_30 rfl (by omega) ?_
    exact k0 (by omega)
set_option maxHeartbeats 4000000 in
theorem t_leadsTo_l {S F : Nat} {b c : Int} (hS : isSt σ ρ S F) (hb : 0 ≤ b ∧ b < 8) (hx : M (S + 1) b ≤ 2) (k1 : (∃ j, 0 ≤ j ∧ j < M (S + 1) b ∧ M (S + 2) (2 * b + j) = c) → Q (some (xI 1)) (σ, ρ, M)) (k0 : (∀ j, 0 ≤ j → j < M (S + 1) b → M (S + 2) (2 * b + j) ≠ c) → Q (some (xI 0)) (σ, ρ, M)) : ∀ (n : Nat) (k : Int), 0 ≤ k → k + n = M (S + 1) b → (∀ j, 0 ≤ j → j < k → M (S + 2) (2 * b + j) ≠ c) → xX G mX7_leadsTo 0 0 2 [(0, xP S), (1, xI b), (2, xI c), (3, xI k)] [] (σ, ρ, M) Q := by
  intro n
  induction n with
  | zero =>
    intro k h0 hk hp
    refine x_iload_n (p2 := 3) rfl dX7_leadsTo_2 rfl ?_
    refine x_aload_n (p2 := 4) rfl dX7_leadsTo_3 rfl ?_
    refine x_getr (p2 := 7) (kz := 1) rfl dX7_leadsTo_4 f_7_9 rfl rfl hS.sh hS.r1 ?_
    refine x_iload_n (p2 := 8) rfl dX7_leadsTo_7 rfl ?_
    refine x_iald (p2 := 9) rfl dX7_leadsTo_8 hS.a1 (by omega) (by omega) ?_
    refine x_ic_ge (p2 := 12) (t := 34) (by decide) rfl dX7_leadsTo_9 (fun hc9 => ?_) (fun hc9 => absurd hc9 (by omega))
    refine x_iconst (p2 := 35) rfl dX7_leadsTo_34 ⟨by decide, by decide⟩ ?_
    refine x_zret dX7_leadsTo_35 rfl (by omega) ?_
    exact k0 (fun j a1 a2 => hp j a1 (by omega))
  | succ n ih =>
    intro k h0 hk hp
    refine x_iload_n (p2 := 3) rfl dX7_leadsTo_2 rfl ?_
    refine x_aload_n (p2 := 4) rfl dX7_leadsTo_3 rfl ?_
    refine x_getr (p2 := 7) (kz := 1) rfl dX7_leadsTo_4 f_7_9 rfl rfl hS.sh hS.r1 ?_
    refine x_iload_n (p2 := 8) rfl dX7_leadsTo_7 rfl ?_
    refine x_iald (p2 := 9) rfl dX7_leadsTo_8 hS.a1 (by omega) (by omega) ?_
    refine x_ic_ge (p2 := 12) (t := 34) (by decide) rfl dX7_leadsTo_9 (fun hc9 => ?_) (fun hc9 => ?_)
    · exact absurd hc9 (by omega)
    refine x_aload_n (p2 := 13) rfl dX7_leadsTo_12 rfl ?_
    refine x_getr (p2 := 16) (kz := 2) rfl dX7_leadsTo_13 f_7_15 rfl rfl hS.sh hS.r2 ?_
    refine x_iconst (p2 := 17) rfl dX7_leadsTo_16 ⟨by decide, by decide⟩ ?_
    refine x_iload_n (p2 := 18) rfl dX7_leadsTo_17 rfl ?_
    refine x_imul (p2 := 19) rfl dX7_leadsTo_18 ⟨by omega, by omega⟩ ?_
    refine x_iload_n (p2 := 20) rfl dX7_leadsTo_19 rfl ?_
    refine x_iadd (p2 := 21) rfl dX7_leadsTo_20 ⟨by omega, by omega⟩ ?_
    refine x_iald (p2 := 22) rfl dX7_leadsTo_21 hS.a2 (by omega) (by omega) ?_
    refine x_iload_n (p2 := 23) rfl dX7_leadsTo_22 rfl ?_
    refine x_ic_ne (p2 := 26) (t := 28) (by decide) rfl dX7_leadsTo_23 (fun hc23 => ?_) (fun hc23 => ?_)
    · skip
      refine x_iinc (p2 := 31) (L2 := [(0, _), (1, _), (2, _), (3, _)]) rfl dX7_leadsTo_28 rfl ⟨by omega, by omega⟩ ⟨rfl, Nat.le_of_ble_eq_true rfl⟩ rfl ?_
      refine x_goto (t := 2) (by decide) dX7_leadsTo_31 ?_
      refine x_pick (L2 := [(0, _), (1, _), (2, _), (3, _)]) [0, 1, 2, 3] rfl ?_
      exact ih (k + 1) (by omega) (by omega) (fun j a1 a2 => by
        rcases Int.lt_or_eq_of_le (show j ≤ k by omega) with q | q
        · exact hp j a1 q
        · rw [q]; exact hc23)
    · skip
      refine x_iconst (p2 := 27) rfl dX7_leadsTo_26 ⟨by decide, by decide⟩ ?_
      refine x_zret dX7_leadsTo_27 rfl (by omega) ?_
      exact k1 ⟨k, h0, by omega, hc23⟩
set_option maxHeartbeats 4000000 in
theorem t_X7_leadsTo {S F : Nat} {b c : Int} (hS : isSt σ ρ S F) (hb : 0 ≤ b ∧ b < 8) (hx : 0 ≤ M (S + 1) b ∧ M (S + 1) b ≤ 2) (k1 : (∃ j, 0 ≤ j ∧ j < M (S + 1) b ∧ M (S + 2) (2 * b + j) = c) → Q (some (xI 1)) (σ, ρ, M)) (k0 : (∀ j, 0 ≤ j → j < M (S + 1) b → M (S + 2) (2 * b + j) ≠ c) → Q (some (xI 0)) (σ, ρ, M)) : xX G mX7_leadsTo 0 0 0 [(0, xP S), (1, xI b), (2, xI c)] [] (σ, ρ, M) Q := by
  refine x_iconst (p2 := 1) rfl dX7_leadsTo_0 ⟨by decide, by decide⟩ ?_
  refine x_istore_n (p2 := 2) (i := 3) (L2 := [(0, _), (1, _), (2, _), (3, _)]) rfl dX7_leadsTo_1 rfl ⟨rfl, Nat.le_of_ble_eq_true rfl⟩ rfl ?_
  refine x_pick (L2 := [(0, _), (1, _), (2, _), (3, _)]) [0, 1, 2, 3] rfl ?_
  exact t_leadsTo_l hS hb hx.2 k1 k0 (M (S + 1) b).toNat 0 (by omega) (by omega) (fun j a1 a2 => by omega)
set_option maxHeartbeats 4000000 in
theorem t_X7_followerAt {S F : Nat} {i : Int} (hS : isSt σ ρ S F) (hn : M F 0 ≤ 8) (hi : 0 ≤ i ∧ i < 8) (hq : Q (some (xI (fa (M F 0) (M (S + 4)) (M S 5) i))) (σ, ρ, M)) : xX G mX7_followerAt 0 0 0 [(0, xP S), (1, xI i)] [] (σ, ρ, M) Q := by
  refine x_iload_n (p2 := 1) rfl dX7_followerAt_0 rfl ?_
  refine x_iconst (p2 := 2) rfl dX7_followerAt_1 ⟨by decide, by decide⟩ ?_
  refine x_iadd (p2 := 3) rfl dX7_followerAt_2 ⟨by omega, by omega⟩ ?_
  refine x_istore_n (p2 := 4) (i := 2) (L2 := [(0, _), (1, _), (2, _)]) rfl dX7_followerAt_3 rfl ⟨rfl, Nat.le_of_ble_eq_true rfl⟩ rfl ?_
  refine x_iload_n (p2 := 5) rfl dX7_followerAt_4 rfl ?_
  refine x_aload_n (p2 := 6) rfl dX7_followerAt_5 rfl ?_
  refine x_geti (p2 := 9) (kz := 5) rfl dX7_followerAt_6 f_7_24 rfl rfl hS.sh ?_
  refine x_ic_eq (p2 := 12) (t := 23) (by decide) rfl dX7_followerAt_9 (fun hc9 => ?_) (fun hc9 => ?_)
  · skip
    refine x_iconst (p2 := 24) rfl dX7_followerAt_23 ⟨by decide, by decide⟩ ?_
    refine x_goto (t := 33) (by decide) dX7_followerAt_24 ?_
    refine x_iret dX7_followerAt_33 rfl ?_
    have e : fa (M F 0) (M (S + 4)) (M S 5) i = -1 := if_pos (by omega)
    rw [e] at hq; exact hq
  · skip
    refine x_iload_n (p2 := 13) rfl dX7_followerAt_12 rfl ?_
    refine x_aload_n (p2 := 14) rfl dX7_followerAt_13 rfl ?_
    refine x_getr (p2 := 17) (kz := 0) rfl dX7_followerAt_14 f_7_31 rfl rfl hS.sh hS.r0 ?_
    refine x_geti (p2 := 20) (kz := 0) rfl dX7_followerAt_17 f_7_41 rfl rfl hS.fr.sh ?_
    refine x_ic_lt (p2 := 23) (t := 27) (by decide) rfl dX7_followerAt_20 (fun hc20 => ?_) (fun hc20 => ?_)
    · skip
      refine x_aload_n (p2 := 28) rfl dX7_followerAt_27 rfl ?_
      refine x_getr (p2 := 31) (kz := 4) rfl dX7_followerAt_28 f_7_21 rfl rfl hS.sh hS.r4 ?_
      refine x_iload_n (p2 := 32) rfl dX7_followerAt_31 rfl ?_
      refine x_iald (p2 := 33) rfl dX7_followerAt_32 hS.a4 (by omega) (by omega) ?_
      refine x_iret dX7_followerAt_33 rfl ?_
      have e : fa (M F 0) (M (S + 4)) (M S 5) i = M (S + 4) (i + 1) := if_neg (by omega)
      rw [e] at hq; exact hq
    · skip
      refine x_iconst (p2 := 24) rfl dX7_followerAt_23 ⟨by decide, by decide⟩ ?_
      refine x_goto (t := 33) (by decide) dX7_followerAt_24 ?_
      refine x_iret dX7_followerAt_33 rfl ?_
      have e : fa (M F 0) (M (S + 4)) (M S 5) i = -1 := if_pos (by omega)
      rw [e] at hq; exact hq
set_option maxHeartbeats 4000000 in
theorem t_followerOf_l {S F : Nat} {b i : Int} (hS : isSt σ ρ S F) (hn : M F 0 ≤ 8) (hi : 0 ≤ i ∧ i < M F 0) (he : M (S + 4) i = b) (hj : ∀ j, 0 ≤ j → j < M F 0 → M (S + 4) j = b → j = i) (hq : Q (some (xI (fa (M F 0) (M (S + 4)) (M S 5) i))) (σ, ρ, M)) : ∀ (n : Nat) (k : Int), 0 ≤ k → k + n = i → xX G mX7_followerOf 0 0 2 [(0, xP S), (1, xI b), (2, xI k)] [] (σ, ρ, M) Q := by
  intro n
  induction n with
  | zero =>
    intro k h0 hk
    have ek : k = i := by omega
    subst ek
    refine x_iload_n (p2 := 3) rfl dX7_followerOf_2 rfl ?_
    refine x_aload_n (p2 := 4) rfl dX7_followerOf_3 rfl ?_
    refine x_getr (p2 := 7) (kz := 0) rfl dX7_followerOf_4 f_7_31 rfl rfl hS.sh hS.r0 ?_
    refine x_geti (p2 := 10) (kz := 0) rfl dX7_followerOf_7 f_7_41 rfl rfl hS.fr.sh ?_
    refine x_ic_ge (p2 := 13) (t := 35) (by decide) rfl dX7_followerOf_10 (fun hc10 => ?_) (fun hc10 => ?_)
    · exact absurd hc10 (by omega)
    refine x_aload_n (p2 := 14) rfl dX7_followerOf_13 rfl ?_
    refine x_getr (p2 := 17) (kz := 4) rfl dX7_followerOf_14 f_7_21 rfl rfl hS.sh hS.r4 ?_
    refine x_iload_n (p2 := 18) rfl dX7_followerOf_17 rfl ?_
    refine x_iald (p2 := 19) rfl dX7_followerOf_18 hS.a4 (by omega) (by omega) ?_
    refine x_iload_n (p2 := 20) rfl dX7_followerOf_19 rfl ?_
    refine x_ic_ne (p2 := 23) (t := 29) (by decide) rfl dX7_followerOf_20 (fun hc20 => ?_) (fun hc20 => ?_)
    · exact absurd hc20 (fun z => z he)
    refine x_aload_n (p2 := 24) rfl dX7_followerOf_23 rfl ?_
    refine x_iload_n (p2 := 25) rfl dX7_followerOf_24 rfl ?_
    refine x_v1 (p2 := 28) rfl dX7_followerOf_25 l_7_60 ok_X7_followerAt rfl hS.sh rfl ?_
    refine t_X7_followerAt hS (by omega) (by omega) ?_
    refine x_iret dX7_followerOf_28 rfl ?_
    exact hq
  | succ n ih =>
    intro k h0 hk
    refine x_iload_n (p2 := 3) rfl dX7_followerOf_2 rfl ?_
    refine x_aload_n (p2 := 4) rfl dX7_followerOf_3 rfl ?_
    refine x_getr (p2 := 7) (kz := 0) rfl dX7_followerOf_4 f_7_31 rfl rfl hS.sh hS.r0 ?_
    refine x_geti (p2 := 10) (kz := 0) rfl dX7_followerOf_7 f_7_41 rfl rfl hS.fr.sh ?_
    refine x_ic_ge (p2 := 13) (t := 35) (by decide) rfl dX7_followerOf_10 (fun hc10 => ?_) (fun hc10 => ?_)
    · exact absurd hc10 (by omega)
    refine x_aload_n (p2 := 14) rfl dX7_followerOf_13 rfl ?_
    refine x_getr (p2 := 17) (kz := 4) rfl dX7_followerOf_14 f_7_21 rfl rfl hS.sh hS.r4 ?_
    refine x_iload_n (p2 := 18) rfl dX7_followerOf_17 rfl ?_
    refine x_iald (p2 := 19) rfl dX7_followerOf_18 hS.a4 (by omega) (by omega) ?_
    refine x_iload_n (p2 := 20) rfl dX7_followerOf_19 rfl ?_
    refine x_ic_ne (p2 := 23) (t := 29) (by decide) rfl dX7_followerOf_20 (fun hc20 => ?_) (fun hc20 => absurd hc20 (fun z => absurd (hj k (by omega) (by omega) z) (by omega)))
    refine x_iinc (p2 := 32) (L2 := [(0, _), (1, _), (2, _)]) rfl dX7_followerOf_29 rfl ⟨by omega, by omega⟩ ⟨rfl, Nat.le_of_ble_eq_true rfl⟩ rfl ?_
    refine x_goto (t := 2) (by decide) dX7_followerOf_32 ?_
    refine x_pick (L2 := [(0, _), (1, _), (2, _)]) [0, 1, 2] rfl ?_
    exact ih (k + 1) (by omega) (by omega)
set_option maxHeartbeats 4000000 in
theorem t_X7_followerOf {S F : Nat} {b i : Int} (hS : isSt σ ρ S F) (hn : M F 0 ≤ 8) (hi : 0 ≤ i ∧ i < M F 0) (he : M (S + 4) i = b) (hj : ∀ j, 0 ≤ j → j < M F 0 → M (S + 4) j = b → j = i) (hq : Q (some (xI (fa (M F 0) (M (S + 4)) (M S 5) i))) (σ, ρ, M)) : xX G mX7_followerOf 0 0 0 [(0, xP S), (1, xI b)] [] (σ, ρ, M) Q := by
  refine x_iconst (p2 := 1) rfl dX7_followerOf_0 ⟨by decide, by decide⟩ ?_
  refine x_istore_n (p2 := 2) (i := 2) (L2 := [(0, _), (1, _), (2, _)]) rfl dX7_followerOf_1 rfl ⟨rfl, Nat.le_of_ble_eq_true rfl⟩ rfl ?_
  refine x_pick (L2 := [(0, _), (1, _), (2, _)]) [0, 1, 2] rfl ?_
  exact t_followerOf_l hS hn hi he hj hq i.toNat 0 (by omega) (by omega)
set_option maxHeartbeats 4000000 in
theorem t_bbb_l {S F : Nat} {b f : Int} (hS : isSt σ ρ S F) (hb : 0 ≤ b ∧ b < 8) (hx : M (S + 1) b ≤ 2) : ∀ (n : Nat) (k s : Int), 0 ≤ k → k + n = M (S + 1) b → 0 ≤ s → s ≤ 2 * k → Q (some (xI (s + sg (fun k => if M (S + 2) (2 * b + k) = f then 0 else 2) k n))) (σ, ρ, M) → xX G mX7_branchBytesBefore 0 0 5 [(0, xP S), (1, xI b), (2, xI f), (3, xI s), (4, xI k)] [] (σ, ρ, M) Q := by
  intro n
  induction n with
  | zero =>
    intro k s h0 hk hs1 hs2 hq
    rw [show sg (fun k => if M (S + 2) (2 * b + k) = f then 0 else 2) k 0 = 0 from rfl, Int.add_zero] at hq
    refine x_iload (p2 := 7) rfl dX7_branchBytesBefore_5 rfl ?_
    refine x_aload_n (p2 := 8) rfl dX7_branchBytesBefore_7 rfl ?_
    refine x_getr (p2 := 11) (kz := 1) rfl dX7_branchBytesBefore_8 f_7_9 rfl rfl hS.sh hS.r1 ?_
    refine x_iload_n (p2 := 12) rfl dX7_branchBytesBefore_11 rfl ?_
    refine x_iald (p2 := 13) rfl dX7_branchBytesBefore_12 hS.a1 (by omega) (by omega) ?_
    refine x_ic_ge (p2 := 16) (t := 36) (by decide) rfl dX7_branchBytesBefore_13 (fun hc13 => ?_) (fun hc13 => absurd hc13 (by omega))
    refine x_iload_n (p2 := 37) rfl dX7_branchBytesBefore_36 rfl ?_
    refine x_iret dX7_branchBytesBefore_37 rfl ?_
    exact hq
  | succ n ih =>
    intro k s h0 hk hs1 hs2 hq
    refine x_iload (p2 := 7) rfl dX7_branchBytesBefore_5 rfl ?_
    refine x_aload_n (p2 := 8) rfl dX7_branchBytesBefore_7 rfl ?_
    refine x_getr (p2 := 11) (kz := 1) rfl dX7_branchBytesBefore_8 f_7_9 rfl rfl hS.sh hS.r1 ?_
    refine x_iload_n (p2 := 12) rfl dX7_branchBytesBefore_11 rfl ?_
    refine x_iald (p2 := 13) rfl dX7_branchBytesBefore_12 hS.a1 (by omega) (by omega) ?_
    refine x_ic_ge (p2 := 16) (t := 36) (by decide) rfl dX7_branchBytesBefore_13 (fun hc13 => ?_) (fun hc13 => ?_)
    · exact absurd hc13 (by omega)
    refine x_aload_n (p2 := 17) rfl dX7_branchBytesBefore_16 rfl ?_
    refine x_iload_n (p2 := 18) rfl dX7_branchBytesBefore_17 rfl ?_
    refine x_iload (p2 := 20) rfl dX7_branchBytesBefore_18 rfl ?_
    refine x_v2 (p2 := 23) rfl dX7_branchBytesBefore_20 l_7_53 ok_X7_target rfl hS.sh rfl ?_
    refine t_X7_target hS (by omega) (by omega) (by omega) (by omega) ?_
    refine x_iload_n (p2 := 24) rfl dX7_branchBytesBefore_23 rfl ?_
    refine x_ic_eq (p2 := 27) (t := 30) (by decide) rfl dX7_branchBytesBefore_24 (fun hc24 => ?_) (fun hc24 => ?_)
    · skip
      refine x_iinc (p2 := 33) (L2 := [(0, _), (1, _), (2, _), (3, _), (4, _)]) rfl dX7_branchBytesBefore_30 rfl ⟨by omega, by omega⟩ ⟨rfl, Nat.le_of_ble_eq_true rfl⟩ rfl ?_
      refine x_goto (t := 5) (by decide) dX7_branchBytesBefore_33 ?_
      refine x_pick (L2 := [(0, _), (1, _), (2, _), (3, _), (4, _)]) [0, 1, 2, 3, 4] rfl ?_
      refine ih _ _ (by omega) (by omega) (by omega) (by omega) ?_
      unfold sg at hq
      first
        | (rw [if_pos hc24, Int.zero_add] at hq; exact hq)
        | (rw [if_neg hc24, ← Int.add_assoc] at hq; exact hq)
    · skip
      refine x_iinc (p2 := 30) (L2 := [(0, _), (1, _), (2, _), (3, _), (4, _)]) rfl dX7_branchBytesBefore_27 rfl ⟨by omega, by omega⟩ ⟨rfl, Nat.le_of_ble_eq_true rfl⟩ rfl ?_
      refine x_iinc (p2 := 33) (L2 := [(0, _), (1, _), (2, _), (3, _), (4, _)]) rfl dX7_branchBytesBefore_30 rfl ⟨by omega, by omega⟩ ⟨rfl, Nat.le_of_ble_eq_true rfl⟩ rfl ?_
      refine x_goto (t := 5) (by decide) dX7_branchBytesBefore_33 ?_
      refine x_pick (L2 := [(0, _), (1, _), (2, _), (3, _), (4, _)]) [0, 1, 2, 3, 4] rfl ?_
      refine ih _ _ (by omega) (by omega) (by omega) (by omega) ?_
      unfold sg at hq
      first
        | (rw [if_pos hc24, Int.zero_add] at hq; exact hq)
        | (rw [if_neg hc24, ← Int.add_assoc] at hq; exact hq)
set_option maxHeartbeats 4000000 in
theorem t_X7_branchBytesBefore {S F : Nat} {b f : Int} (hS : isSt σ ρ S F) (hb : 0 ≤ b ∧ b < 8) (hx : 0 ≤ M (S + 1) b ∧ M (S + 1) b ≤ 2) (hq : Q (some (xI (bbf (M (S + 1)) (M (S + 2)) b f))) (σ, ρ, M)) : xX G mX7_branchBytesBefore 0 0 0 [(0, xP S), (1, xI b), (2, xI f)] [] (σ, ρ, M) Q := by
  refine x_iconst (p2 := 1) rfl dX7_branchBytesBefore_0 ⟨by decide, by decide⟩ ?_
  refine x_istore_n (p2 := 2) (i := 3) (L2 := [(0, _), (1, _), (2, _), (3, _)]) rfl dX7_branchBytesBefore_1 rfl ⟨rfl, Nat.le_of_ble_eq_true rfl⟩ rfl ?_
  refine x_iconst (p2 := 3) rfl dX7_branchBytesBefore_2 ⟨by decide, by decide⟩ ?_
  refine x_istore (p2 := 5) (i := 4) (L2 := [(0, _), (1, _), (2, _), (3, _), (4, _)]) rfl dX7_branchBytesBefore_3 ⟨rfl, Nat.le_of_ble_eq_true rfl⟩ rfl ?_
  refine x_pick (L2 := [(0, _), (1, _), (2, _), (3, _), (4, _)]) [0, 1, 2, 3, 4] rfl ?_
  refine t_bbb_l hS hb hx.2 (M (S + 1) b).toNat 0 0 (by omega) (by omega) (by omega) (by omega) ?_
  rw [Int.zero_add]; exact hq
set_option maxHeartbeats 4000000 in
theorem t_X7_passCost {S F : Nat} {b k f : Int} (hS : isSt σ ρ S F) (hb : 0 ≤ b ∧ b < 8) (hk : 0 ≤ k ∧ k < 2) (hq : Q (some (xI (pcst (M (S + 1)) (M (S + 2)) (M (S + 3)) b k f))) (σ, ρ, M)) : xX G mX7_passCost 0 0 0 [(0, xP S), (1, xI b), (2, xI k), (3, xI f)] [] (σ, ρ, M) Q := by
  unfold pcst at hq
  refine x_aload_n (p2 := 1) rfl dX7_passCost_0 rfl ?_
  refine x_iload_n (p2 := 2) rfl dX7_passCost_1 rfl ?_
  refine x_iload_n (p2 := 3) rfl dX7_passCost_2 rfl ?_
  refine x_v2 (p2 := 6) rfl dX7_passCost_3 l_7_53 ok_X7_target rfl hS.sh rfl ?_
  refine t_X7_target hS (by omega) (by omega) (by omega) (by omega) ?_
  refine x_iload_n (p2 := 7) rfl dX7_passCost_6 rfl ?_
  refine x_ic_ne (p2 := 10) (t := 12) (by decide) rfl dX7_passCost_7 (fun hc7 => ?_) (fun hc7 => ?_)
  · skip
    refine x_aload_n (p2 := 13) rfl dX7_passCost_12 rfl ?_
    refine x_getr (p2 := 16) (kz := 1) rfl dX7_passCost_13 f_7_9 rfl rfl hS.sh hS.r1 ?_
    refine x_iload_n (p2 := 17) rfl dX7_passCost_16 rfl ?_
    refine x_iald (p2 := 18) rfl dX7_passCost_17 hS.a1 (by omega) (by omega) ?_
    refine x_iconst (p2 := 19) rfl dX7_passCost_18 ⟨by decide, by decide⟩ ?_
    refine x_ic_ne (p2 := 22) (t := 24) (by decide) rfl dX7_passCost_19 (fun hc19 => ?_) (fun hc19 => ?_)
    · skip
      refine x_aload_n (p2 := 25) rfl dX7_passCost_24 rfl ?_
      refine x_iload_n (p2 := 26) rfl dX7_passCost_25 rfl ?_
      refine x_iconst (p2 := 27) rfl dX7_passCost_26 ⟨by decide, by decide⟩ ?_
      refine x_iload_n (p2 := 28) rfl dX7_passCost_27 rfl ?_
      refine x_isub (p2 := 29) rfl dX7_passCost_28 ⟨by omega, by omega⟩ ?_
      refine x_v2 (p2 := 32) rfl dX7_passCost_29 l_7_53 ok_X7_target rfl hS.sh rfl ?_
      refine t_X7_target hS (by omega) (by omega) (by omega) (by omega) ?_
      refine x_iload_n (p2 := 33) rfl dX7_passCost_32 rfl ?_
      refine x_ic_ne (p2 := 36) (t := 38) (by decide) rfl dX7_passCost_33 (fun hc33 => ?_) (fun hc33 => ?_)
      · skip
        refine x_aload_n (p2 := 39) rfl dX7_passCost_38 rfl ?_
        refine x_iload_n (p2 := 40) rfl dX7_passCost_39 rfl ?_
        refine x_iconst (p2 := 41) rfl dX7_passCost_40 ⟨by decide, by decide⟩ ?_
        refine x_v2 (p2 := 44) rfl dX7_passCost_41 l_7_57 ok_X7_count rfl hS.sh rfl ?_
        refine t_X7_count hS (by omega) (by omega) (by omega) (by omega) ?_
        refine x_aload_n (p2 := 45) rfl dX7_passCost_44 rfl ?_
        refine x_iload_n (p2 := 46) rfl dX7_passCost_45 rfl ?_
        refine x_iconst (p2 := 47) rfl dX7_passCost_46 ⟨by decide, by decide⟩ ?_
        refine x_v2 (p2 := 50) rfl dX7_passCost_47 l_7_57 ok_X7_count rfl hS.sh rfl ?_
        refine t_X7_count hS (by omega) (by omega) (by omega) (by omega) ?_
        refine x_ic_le (p2 := 53) (t := 57) (by decide) rfl dX7_passCost_50 (fun hc50 => ?_) (fun hc50 => ?_)
        · skip
          refine x_iconst (p2 := 58) rfl dX7_passCost_57 ⟨by decide, by decide⟩ ?_
          refine x_istore (p2 := 60) (i := 4) (L2 := [(0, _), (1, _), (2, _), (3, _), (4, _)]) rfl dX7_passCost_58 ⟨rfl, Nat.le_of_ble_eq_true rfl⟩ rfl ?_
          refine x_iload_n (p2 := 61) rfl dX7_passCost_60 rfl ?_
          refine x_iload (p2 := 63) rfl dX7_passCost_61 rfl ?_
          refine x_ic_ne (p2 := 66) (t := 70) (by decide) rfl dX7_passCost_63 (fun hc63 => ?_) (fun hc63 => ?_)
          · skip
            refine x_iconst (p2 := 71) rfl dX7_passCost_70 ⟨by decide, by decide⟩ ?_
            refine x_iret dX7_passCost_71 rfl ?_
            rw [if_neg hc7, if_neg hc19, if_neg hc33] at hq
            first
              | (rw [if_pos (show M (S + 3) (2 * b + 0) < M (S + 3) (2 * b + 1) by omega)] at hq; first | (rw [if_pos hc63] at hq; exact hq) | (rw [if_neg hc63] at hq; exact hq))
              | (rw [if_neg (show ¬ M (S + 3) (2 * b + 0) < M (S + 3) (2 * b + 1) by omega)] at hq; first | (rw [if_pos hc63] at hq; exact hq) | (rw [if_neg hc63] at hq; exact hq))
          · skip
            refine x_iconst (p2 := 67) rfl dX7_passCost_66 ⟨by decide, by decide⟩ ?_
            refine x_goto (t := 71) (by decide) dX7_passCost_67 ?_
            refine x_iret dX7_passCost_71 rfl ?_
            rw [if_neg hc7, if_neg hc19, if_neg hc33] at hq
            first
              | (rw [if_pos (show M (S + 3) (2 * b + 0) < M (S + 3) (2 * b + 1) by omega)] at hq; first | (rw [if_pos hc63] at hq; exact hq) | (rw [if_neg hc63] at hq; exact hq))
              | (rw [if_neg (show ¬ M (S + 3) (2 * b + 0) < M (S + 3) (2 * b + 1) by omega)] at hq; first | (rw [if_pos hc63] at hq; exact hq) | (rw [if_neg hc63] at hq; exact hq))
        · skip
          refine x_iconst (p2 := 54) rfl dX7_passCost_53 ⟨by decide, by decide⟩ ?_
          refine x_goto (t := 58) (by decide) dX7_passCost_54 ?_
          refine x_istore (p2 := 60) (i := 4) (L2 := [(0, _), (1, _), (2, _), (3, _), (4, _)]) rfl dX7_passCost_58 ⟨rfl, Nat.le_of_ble_eq_true rfl⟩ rfl ?_
          refine x_iload_n (p2 := 61) rfl dX7_passCost_60 rfl ?_
          refine x_iload (p2 := 63) rfl dX7_passCost_61 rfl ?_
          refine x_ic_ne (p2 := 66) (t := 70) (by decide) rfl dX7_passCost_63 (fun hc63 => ?_) (fun hc63 => ?_)
          · skip
            refine x_iconst (p2 := 71) rfl dX7_passCost_70 ⟨by decide, by decide⟩ ?_
            refine x_iret dX7_passCost_71 rfl ?_
            rw [if_neg hc7, if_neg hc19, if_neg hc33] at hq
            first
              | (rw [if_pos (show M (S + 3) (2 * b + 0) < M (S + 3) (2 * b + 1) by omega)] at hq; first | (rw [if_pos hc63] at hq; exact hq) | (rw [if_neg hc63] at hq; exact hq))
              | (rw [if_neg (show ¬ M (S + 3) (2 * b + 0) < M (S + 3) (2 * b + 1) by omega)] at hq; first | (rw [if_pos hc63] at hq; exact hq) | (rw [if_neg hc63] at hq; exact hq))
          · skip
            refine x_iconst (p2 := 67) rfl dX7_passCost_66 ⟨by decide, by decide⟩ ?_
            refine x_goto (t := 71) (by decide) dX7_passCost_67 ?_
            refine x_iret dX7_passCost_71 rfl ?_
            rw [if_neg hc7, if_neg hc19, if_neg hc33] at hq
            first
              | (rw [if_pos (show M (S + 3) (2 * b + 0) < M (S + 3) (2 * b + 1) by omega)] at hq; first | (rw [if_pos hc63] at hq; exact hq) | (rw [if_neg hc63] at hq; exact hq))
              | (rw [if_neg (show ¬ M (S + 3) (2 * b + 0) < M (S + 3) (2 * b + 1) by omega)] at hq; first | (rw [if_pos hc63] at hq; exact hq) | (rw [if_neg hc63] at hq; exact hq))
      · skip
        refine x_iconst (p2 := 37) rfl dX7_passCost_36 ⟨by decide, by decide⟩ ?_
        refine x_iret dX7_passCost_37 rfl ?_
        rw [if_neg hc7, if_neg hc19, if_pos hc33] at hq; exact hq
    · skip
      refine x_iconst (p2 := 23) rfl dX7_passCost_22 ⟨by decide, by decide⟩ ?_
      refine x_iret dX7_passCost_23 rfl ?_
      rw [if_neg hc7, if_pos hc19] at hq; exact hq
  · skip
    refine x_iconst (p2 := 11) rfl dX7_passCost_10 ⟨by decide, by decide⟩ ?_
    refine x_iret dX7_passCost_11 rfl ?_
    rw [if_pos hc7] at hq; exact hq
set_option maxHeartbeats 4000000 in
theorem t_share_l {S F : Nat} {b f n0 : Int} (hS : isSt σ ρ S F) (hb : 0 ≤ b ∧ b < 8) (hx : wfB n0 (M (S + 1)) (M (S + 2)) (M (S + 3)) b) : ∀ (n : Nat) (k s : Int), 0 ≤ k → k + n = M (S + 1) b → 0 ≤ s → s ≤ 297 * k → Q (some (xI (s + sg (fun k => M (S + 3) (2 * b + k) * pcst (M (S + 1)) (M (S + 2)) (M (S + 3)) b k f) k n))) (σ, ρ, M) → xX G mX7_shareOfCost 0 0 5 [(0, xP S), (1, xI b), (2, xI f), (3, xI s), (4, xI k)] [] (σ, ρ, M) Q := by
  have hx2 := hx.2.1
  intro n
  induction n with
  | zero =>
    intro k s h0 hk hs1 hs2 hq
    rw [show sg (fun k => M (S + 3) (2 * b + k) * pcst (M (S + 1)) (M (S + 2)) (M (S + 3)) b k f) k 0 = 0 from rfl, Int.add_zero] at hq
    refine x_iload (p2 := 7) rfl dX7_shareOfCost_5 rfl ?_
    refine x_aload_n (p2 := 8) rfl dX7_shareOfCost_7 rfl ?_
    refine x_getr (p2 := 11) (kz := 1) rfl dX7_shareOfCost_8 f_7_9 rfl rfl hS.sh hS.r1 ?_
    refine x_iload_n (p2 := 12) rfl dX7_shareOfCost_11 rfl ?_
    refine x_iald (p2 := 13) rfl dX7_shareOfCost_12 hS.a1 (by omega) (by omega) ?_
    refine x_ic_ge (p2 := 16) (t := 41) (by decide) rfl dX7_shareOfCost_13 (fun hc13 => ?_) (fun hc13 => absurd hc13 (by omega))
    refine x_iload_n (p2 := 42) rfl dX7_shareOfCost_41 rfl ?_
    refine x_iret dX7_shareOfCost_42 rfl ?_
    exact hq
  | succ n ih =>
    intro k s h0 hk hs1 hs2 hq
    refine x_iload (p2 := 7) rfl dX7_shareOfCost_5 rfl ?_
    refine x_aload_n (p2 := 8) rfl dX7_shareOfCost_7 rfl ?_
    refine x_getr (p2 := 11) (kz := 1) rfl dX7_shareOfCost_8 f_7_9 rfl rfl hS.sh hS.r1 ?_
    refine x_iload_n (p2 := 12) rfl dX7_shareOfCost_11 rfl ?_
    refine x_iald (p2 := 13) rfl dX7_shareOfCost_12 hS.a1 (by omega) (by omega) ?_
    refine x_ic_ge (p2 := 16) (t := 41) (by decide) rfl dX7_shareOfCost_13 (fun hc13 => ?_) (fun hc13 => ?_)
    · exact absurd hc13 (by omega)
    have hw := hx.2.2.1 k h0 (by omega)
    have hp := pcst_bd (ex := M (S + 1)) (tg := M (S + 2)) (ct := M (S + 3)) (b := b) (k := k) (f := f)
    have hm := mul_bd hw.2.2.1 hw.2.2.2 hp.1 hp.2
    refine x_iload_n (p2 := 17) rfl dX7_shareOfCost_16 rfl ?_
    refine x_aload_n (p2 := 18) rfl dX7_shareOfCost_17 rfl ?_
    refine x_iload_n (p2 := 19) rfl dX7_shareOfCost_18 rfl ?_
    refine x_iload (p2 := 21) rfl dX7_shareOfCost_19 rfl ?_
    refine x_v2 (p2 := 24) rfl dX7_shareOfCost_21 l_7_57 ok_X7_count rfl hS.sh rfl ?_
    refine t_X7_count hS (by omega) (by omega) (by omega) (by omega) ?_
    refine x_aload_n (p2 := 25) rfl dX7_shareOfCost_24 rfl ?_
    refine x_iload_n (p2 := 26) rfl dX7_shareOfCost_25 rfl ?_
    refine x_iload (p2 := 28) rfl dX7_shareOfCost_26 rfl ?_
    refine x_iload_n (p2 := 29) rfl dX7_shareOfCost_28 rfl ?_
    refine x_v3 (p2 := 32) rfl dX7_shareOfCost_29 l_7_64 ok_X7_passCost rfl hS.sh rfl ?_
    refine t_X7_passCost hS (by omega) (by omega) ?_
    refine x_imul (p2 := 33) rfl dX7_shareOfCost_32 ⟨by omega, by omega⟩ ?_
    refine x_iadd (p2 := 34) rfl dX7_shareOfCost_33 ⟨by omega, by omega⟩ ?_
    refine x_istore_n (p2 := 35) (i := 3) (L2 := [(0, _), (1, _), (2, _), (3, _), (4, _)]) rfl dX7_shareOfCost_34 rfl ⟨rfl, Nat.le_of_ble_eq_true rfl⟩ rfl ?_
    refine x_iinc (p2 := 38) (L2 := [(0, _), (1, _), (2, _), (3, _), (4, _)]) rfl dX7_shareOfCost_35 rfl ⟨by omega, by omega⟩ ⟨rfl, Nat.le_of_ble_eq_true rfl⟩ rfl ?_
    refine x_goto (t := 5) (by decide) dX7_shareOfCost_38 ?_
    refine x_pick (L2 := [(0, _), (1, _), (2, _), (3, _), (4, _)]) [0, 1, 2, 3, 4] rfl ?_
    refine ih _ _ (by omega) (by omega) (by omega) (by omega) ?_
    unfold sg at hq
    rw [← Int.add_assoc] at hq
    exact hq
set_option maxHeartbeats 4000000 in
theorem t_X7_shareOfCost {S F : Nat} {b f n0 : Int} (hS : isSt σ ρ S F) (hb : 0 ≤ b ∧ b < 8) (hx : wfB n0 (M (S + 1)) (M (S + 2)) (M (S + 3)) b) (hq : Q (some (xI (shr (M (S + 1)) (M (S + 2)) (M (S + 3)) b f))) (σ, ρ, M)) : xX G mX7_shareOfCost 0 0 0 [(0, xP S), (1, xI b), (2, xI f)] [] (σ, ρ, M) Q := by
  have hx0 := hx.1
  refine x_iconst (p2 := 1) rfl dX7_shareOfCost_0 ⟨by decide, by decide⟩ ?_
  refine x_istore_n (p2 := 2) (i := 3) (L2 := [(0, _), (1, _), (2, _), (3, _)]) rfl dX7_shareOfCost_1 rfl ⟨rfl, Nat.le_of_ble_eq_true rfl⟩ rfl ?_
  refine x_iconst (p2 := 3) rfl dX7_shareOfCost_2 ⟨by decide, by decide⟩ ?_
  refine x_istore (p2 := 5) (i := 4) (L2 := [(0, _), (1, _), (2, _), (3, _), (4, _)]) rfl dX7_shareOfCost_3 ⟨rfl, Nat.le_of_ble_eq_true rfl⟩ rfl ?_
  refine x_pick (L2 := [(0, _), (1, _), (2, _), (3, _), (4, _)]) [0, 1, 2, 3, 4] rfl ?_
  refine t_share_l hS hb hx (M (S + 1) b).toNat 0 0 (by omega) (by omega) (by omega) (by omega) ?_
  rw [Int.zero_add]; exact hq
set_option maxHeartbeats 4000000 in
theorem t_total_l {S F : Nat} (hS : isSt σ ρ S F) (hG : wfG (M F 0) (M (S + 1)) (M (S + 2)) (M (S + 3))) (hO : wfO (M F 0) (M (S + 4)) (M S 5)) : ∀ (n : Nat) (i s : Int), 0 ≤ i → i + n = M F 0 → 0 ≤ s → s ≤ 594 * i → Q (some (xI (s + sg (fun i => shr (M (S + 1)) (M (S + 2)) (M (S + 3)) (M (S + 4) i) (fa (M F 0) (M (S + 4)) (M S 5) i)) i n))) (σ, ρ, M) → xX G mX7_totalCost 0 0 4 [(0, xP S), (1, xI s), (2, xI i)] [] (σ, ρ, M) Q := by
  have hn1 := hG.1
  have hn8 := hG.2.1
  intro n
  induction n with
  | zero =>
    intro i s h0 hk hs1 hs2 hq
    rw [show sg (fun i => shr (M (S + 1)) (M (S + 2)) (M (S + 3)) (M (S + 4) i) (fa (M F 0) (M (S + 4)) (M S 5) i)) i 0 = 0 from rfl, Int.add_zero] at hq
    refine x_iload_n (p2 := 5) rfl dX7_totalCost_4 rfl ?_
    refine x_aload_n (p2 := 6) rfl dX7_totalCost_5 rfl ?_
    refine x_getr (p2 := 9) (kz := 0) rfl dX7_totalCost_6 f_7_31 rfl rfl hS.sh hS.r0 ?_
    refine x_geti (p2 := 12) (kz := 0) rfl dX7_totalCost_9 f_7_41 rfl rfl hS.fr.sh ?_
    refine x_ic_ge (p2 := 15) (t := 39) (by decide) rfl dX7_totalCost_12 (fun hc12 => ?_) (fun hc12 => absurd hc12 (by omega))
    refine x_iload_n (p2 := 40) rfl dX7_totalCost_39 rfl ?_
    refine x_iret dX7_totalCost_40 rfl ?_
    exact hq
  | succ n ih =>
    intro i s h0 hk hs1 hs2 hq
    refine x_iload_n (p2 := 5) rfl dX7_totalCost_4 rfl ?_
    refine x_aload_n (p2 := 6) rfl dX7_totalCost_5 rfl ?_
    refine x_getr (p2 := 9) (kz := 0) rfl dX7_totalCost_6 f_7_31 rfl rfl hS.sh hS.r0 ?_
    refine x_geti (p2 := 12) (kz := 0) rfl dX7_totalCost_9 f_7_41 rfl rfl hS.fr.sh ?_
    refine x_ic_ge (p2 := 15) (t := 39) (by decide) rfl dX7_totalCost_12 (fun hc12 => ?_) (fun hc12 => ?_)
    · exact absurd hc12 (by omega)
    have ho := hO.1 i h0 (by omega)
    have hw := hG.2.2 _ ho.1 ho.2
    have hsh := shr_bd (f := fa (M F 0) (M (S + 4)) (M S 5) i) hw
    refine x_iload_n (p2 := 16) rfl dX7_totalCost_15 rfl ?_
    refine x_aload_n (p2 := 17) rfl dX7_totalCost_16 rfl ?_
    refine x_aload_n (p2 := 18) rfl dX7_totalCost_17 rfl ?_
    refine x_getr (p2 := 21) (kz := 4) rfl dX7_totalCost_18 f_7_21 rfl rfl hS.sh hS.r4 ?_
    refine x_iload_n (p2 := 22) rfl dX7_totalCost_21 rfl ?_
    refine x_iald (p2 := 23) rfl dX7_totalCost_22 hS.a4 (by omega) (by omega) ?_
    refine x_aload_n (p2 := 24) rfl dX7_totalCost_23 rfl ?_
    refine x_iload_n (p2 := 25) rfl dX7_totalCost_24 rfl ?_
    refine x_v1 (p2 := 28) rfl dX7_totalCost_25 l_7_60 ok_X7_followerAt rfl hS.sh rfl ?_
    refine t_X7_followerAt hS (by omega) (by omega) ?_
    refine x_v2 (p2 := 31) rfl dX7_totalCost_28 l_7_68 ok_X7_shareOfCost rfl hS.sh rfl ?_
    refine t_X7_shareOfCost hS (by omega) hw ?_
    refine x_iadd (p2 := 32) rfl dX7_totalCost_31 ⟨by omega, by omega⟩ ?_
    refine x_istore_n (p2 := 33) (i := 1) (L2 := [(0, _), (1, _), (2, _)]) rfl dX7_totalCost_32 rfl ⟨rfl, Nat.le_of_ble_eq_true rfl⟩ rfl ?_
    refine x_iinc (p2 := 36) (L2 := [(0, _), (1, _), (2, _)]) rfl dX7_totalCost_33 rfl ⟨by omega, by omega⟩ ⟨rfl, Nat.le_of_ble_eq_true rfl⟩ rfl ?_
    refine x_goto (t := 4) (by decide) dX7_totalCost_36 ?_
    refine x_pick (L2 := [(0, _), (1, _), (2, _)]) [0, 1, 2] rfl ?_
    refine ih _ _ (by omega) (by omega) (by omega) (by omega) ?_
    unfold sg at hq
    rw [← Int.add_assoc] at hq
    exact hq
set_option maxHeartbeats 4000000 in
theorem t_X7_totalCost {S F : Nat} (hS : isSt σ ρ S F) (hG : wfG (M F 0) (M (S + 1)) (M (S + 2)) (M (S + 3))) (hO : wfO (M F 0) (M (S + 4)) (M S 5)) (hq : Q (some (xI (tcs (M F 0) (M (S + 1)) (M (S + 2)) (M (S + 3)) (M (S + 4)) (M S 5)))) (σ, ρ, M)) : xX G mX7_totalCost 0 0 0 [(0, xP S)] [] (σ, ρ, M) Q := by
  have hn1 := hG.1
  refine x_iconst (p2 := 1) rfl dX7_totalCost_0 ⟨by decide, by decide⟩ ?_
  refine x_istore_n (p2 := 2) (i := 1) (L2 := [(0, _), (1, _)]) rfl dX7_totalCost_1 rfl ⟨rfl, Nat.le_of_ble_eq_true rfl⟩ rfl ?_
  refine x_iconst (p2 := 3) rfl dX7_totalCost_2 ⟨by decide, by decide⟩ ?_
  refine x_istore_n (p2 := 4) (i := 2) (L2 := [(0, _), (1, _), (2, _)]) rfl dX7_totalCost_3 rfl ⟨rfl, Nat.le_of_ble_eq_true rfl⟩ rfl ?_
  refine x_pick (L2 := [(0, _), (1, _), (2, _)]) [0, 1, 2] rfl ?_
  refine t_total_l hS hG hO (M F 0).toNat 0 0 (by omega) (by omega) (by omega) (by omega) ?_
  rw [Int.zero_add]; exact hq
set_option maxHeartbeats 4000000 in
theorem t_runs_l1 {S F : Nat} {b f n0 : Int} (hS : isSt σ ρ S F) (hb : 0 ≤ f ∧ f < 8) (hx : wfB n0 (M (S + 1)) (M (S + 2)) (M (S + 3)) f) : ∀ (n : Nat) (k s : Int), 0 ≤ k → k + n = M (S + 1) f → 0 ≤ s → s ≤ 99 + 198 * f + 99 * k → xX G mX7_runsOf 0 0 70 [(0, xP S), (1, xI b), (2, xI (s + sg (fun k => if M (S + 2) (2 * f + k) = b then M (S + 3) (2 * f + k) else 0) k n)), (3, xI f)] [] (σ, ρ, M) Q → xX G mX7_runsOf 0 0 32 [(0, xP S), (1, xI b), (2, xI s), (3, xI f), (4, xI k)] [] (σ, ρ, M) Q := by
  have hx2 := hx.2.1
  intro n
  induction n with
  | zero =>
    intro k s h0 hk hs1 hs2 hq
    rw [show sg (fun k => if M (S + 2) (2 * f + k) = b then M (S + 3) (2 * f + k) else 0) k 0 = 0 from rfl, Int.add_zero] at hq
    refine x_iload (p2 := 34) rfl dX7_runsOf_32 rfl ?_
    refine x_aload_n (p2 := 35) rfl dX7_runsOf_34 rfl ?_
    refine x_getr (p2 := 38) (kz := 1) rfl dX7_runsOf_35 f_7_9 rfl rfl hS.sh hS.r1 ?_
    refine x_iload_n (p2 := 39) rfl dX7_runsOf_38 rfl ?_
    refine x_iald (p2 := 40) rfl dX7_runsOf_39 hS.a1 (by omega) (by omega) ?_
    refine x_ic_ge (p2 := 43) (t := 70) (by decide) rfl dX7_runsOf_40 (fun hc40 => ?_) (fun hc40 => absurd hc40 (by omega))
    refine x_pick (L2 := [(0, _), (1, _), (2, _), (3, _)]) [0, 1, 2, 3] rfl ?_
    exact hq
  | succ n ih =>
    intro k s h0 hk hs1 hs2 hq
    refine x_iload (p2 := 34) rfl dX7_runsOf_32 rfl ?_
    refine x_aload_n (p2 := 35) rfl dX7_runsOf_34 rfl ?_
    refine x_getr (p2 := 38) (kz := 1) rfl dX7_runsOf_35 f_7_9 rfl rfl hS.sh hS.r1 ?_
    refine x_iload_n (p2 := 39) rfl dX7_runsOf_38 rfl ?_
    refine x_iald (p2 := 40) rfl dX7_runsOf_39 hS.a1 (by omega) (by omega) ?_
    refine x_ic_ge (p2 := 43) (t := 70) (by decide) rfl dX7_runsOf_40 (fun hc40 => ?_) (fun hc40 => ?_)
    · exact absurd hc40 (by omega)
    have hw := hx.2.2.1 k h0 (by omega)
    refine x_aload_n (p2 := 44) rfl dX7_runsOf_43 rfl ?_
    refine x_iload_n (p2 := 45) rfl dX7_runsOf_44 rfl ?_
    refine x_iload (p2 := 47) rfl dX7_runsOf_45 rfl ?_
    refine x_v2 (p2 := 50) rfl dX7_runsOf_47 l_7_53 ok_X7_target rfl hS.sh rfl ?_
    refine t_X7_target hS (by omega) (by omega) (by omega) (by omega) ?_
    refine x_iload_n (p2 := 51) rfl dX7_runsOf_50 rfl ?_
    refine x_ic_ne (p2 := 54) (t := 64) (by decide) rfl dX7_runsOf_51 (fun hc51 => ?_) (fun hc51 => ?_)
    · skip
      refine x_iinc (p2 := 67) (L2 := [(0, _), (1, _), (2, _), (3, _), (4, _)]) rfl dX7_runsOf_64 rfl ⟨by omega, by omega⟩ ⟨rfl, Nat.le_of_ble_eq_true rfl⟩ rfl ?_
      refine x_goto (t := 32) (by decide) dX7_runsOf_67 ?_
      refine x_pick (L2 := [(0, _), (1, _), (2, _), (3, _), (4, _)]) [0, 1, 2, 3, 4] rfl ?_
      refine ih _ _ (by omega) (by omega) (by omega) (by omega) ?_
      unfold sg at hq
      first
        | (rw [if_pos hc51, ← Int.add_assoc] at hq; exact hq)
        | (rw [if_neg hc51, Int.zero_add] at hq; exact hq)
    · skip
      refine x_iload_n (p2 := 55) rfl dX7_runsOf_54 rfl ?_
      refine x_aload_n (p2 := 56) rfl dX7_runsOf_55 rfl ?_
      refine x_iload_n (p2 := 57) rfl dX7_runsOf_56 rfl ?_
      refine x_iload (p2 := 59) rfl dX7_runsOf_57 rfl ?_
      refine x_v2 (p2 := 62) rfl dX7_runsOf_59 l_7_57 ok_X7_count rfl hS.sh rfl ?_
      refine t_X7_count hS (by omega) (by omega) (by omega) (by omega) ?_
      refine x_iadd (p2 := 63) rfl dX7_runsOf_62 ⟨by omega, by omega⟩ ?_
      refine x_istore_n (p2 := 64) (i := 2) (L2 := [(0, _), (1, _), (2, _), (3, _), (4, _)]) rfl dX7_runsOf_63 rfl ⟨rfl, Nat.le_of_ble_eq_true rfl⟩ rfl ?_
      refine x_iinc (p2 := 67) (L2 := [(0, _), (1, _), (2, _), (3, _), (4, _)]) rfl dX7_runsOf_64 rfl ⟨by omega, by omega⟩ ⟨rfl, Nat.le_of_ble_eq_true rfl⟩ rfl ?_
      refine x_goto (t := 32) (by decide) dX7_runsOf_67 ?_
      refine x_pick (L2 := [(0, _), (1, _), (2, _), (3, _), (4, _)]) [0, 1, 2, 3, 4] rfl ?_
      refine ih _ _ (by omega) (by omega) (by omega) (by omega) ?_
      unfold sg at hq
      first
        | (rw [if_pos hc51, ← Int.add_assoc] at hq; exact hq)
        | (rw [if_neg hc51, Int.zero_add] at hq; exact hq)
set_option maxHeartbeats 4000000 in
theorem t_runs_l2 {S F : Nat} {b : Int} (hS : isSt σ ρ S F) (hG : wfG (M F 0) (M (S + 1)) (M (S + 2)) (M (S + 3))) : ∀ (n : Nat) (f s : Int), 0 ≤ f → f + n = M F 0 → 0 ≤ s → s ≤ 99 + 198 * f → Q (some (xI (s + sg (rnf (M (S + 1)) (M (S + 2)) (M (S + 3)) b) f n))) (σ, ρ, M) → xX G mX7_runsOf 0 0 18 [(0, xP S), (1, xI b), (2, xI s), (3, xI f)] [] (σ, ρ, M) Q := by
  have hn1 := hG.1
  have hn8 := hG.2.1
  intro n
  induction n with
  | zero =>
    intro f s h0 hk hs1 hs2 hq
    rw [show sg (rnf (M (S + 1)) (M (S + 2)) (M (S + 3)) b) f 0 = 0 from rfl, Int.add_zero] at hq
    refine x_iload_n (p2 := 19) rfl dX7_runsOf_18 rfl ?_
    refine x_aload_n (p2 := 20) rfl dX7_runsOf_19 rfl ?_
    refine x_getr (p2 := 23) (kz := 0) rfl dX7_runsOf_20 f_7_31 rfl rfl hS.sh hS.r0 ?_
    refine x_geti (p2 := 26) (kz := 0) rfl dX7_runsOf_23 f_7_41 rfl rfl hS.fr.sh ?_
    refine x_ic_ge (p2 := 29) (t := 76) (by decide) rfl dX7_runsOf_26 (fun hc26 => ?_) (fun hc26 => absurd hc26 (by omega))
    refine x_iload_n (p2 := 77) rfl dX7_runsOf_76 rfl ?_
    refine x_iret dX7_runsOf_77 rfl ?_
    exact hq
  | succ n ih =>
    intro f s h0 hk hs1 hs2 hq
    refine x_iload_n (p2 := 19) rfl dX7_runsOf_18 rfl ?_
    refine x_aload_n (p2 := 20) rfl dX7_runsOf_19 rfl ?_
    refine x_getr (p2 := 23) (kz := 0) rfl dX7_runsOf_20 f_7_31 rfl rfl hS.sh hS.r0 ?_
    refine x_geti (p2 := 26) (kz := 0) rfl dX7_runsOf_23 f_7_41 rfl rfl hS.fr.sh ?_
    refine x_ic_ge (p2 := 29) (t := 76) (by decide) rfl dX7_runsOf_26 (fun hc26 => ?_) (fun hc26 => ?_)
    · exact absurd hc26 (by omega)
    have hw := hG.2.2 f h0 (by omega)
    have hw0 := hw.1
    have hr := rnf_bd (b := b) hw
    refine x_iconst (p2 := 30) rfl dX7_runsOf_29 ⟨by decide, by decide⟩ ?_
    refine x_istore (p2 := 32) (i := 4) (L2 := [(0, _), (1, _), (2, _), (3, _), (4, _)]) rfl dX7_runsOf_30 ⟨rfl, Nat.le_of_ble_eq_true rfl⟩ rfl ?_
    refine x_pick (L2 := [(0, _), (1, _), (2, _), (3, _), (4, _)]) [0, 1, 2, 3, 4] rfl ?_
    refine t_runs_l1 hS (by omega) hw (M (S + 1) f).toNat 0 s (by omega) (by omega) (by omega) (by omega) ?_
    refine x_iinc (p2 := 73) (L2 := [(0, _), (1, _), (2, _), (3, _)]) rfl dX7_runsOf_70 rfl ⟨by omega, by omega⟩ ⟨rfl, Nat.le_of_ble_eq_true rfl⟩ rfl ?_
    refine x_goto (t := 18) (by decide) dX7_runsOf_73 ?_
    refine x_pick (L2 := [(0, _), (1, _), (2, _), (3, _)]) [0, 1, 2, 3] rfl ?_
    refine ih _ _ (by omega) (by omega) (by unfold rnf at hr; omega) (by unfold rnf at hr; omega) ?_
    unfold sg at hq
    rw [← Int.add_assoc] at hq
    exact hq
set_option maxHeartbeats 4000000 in
theorem t_X7_runsOf {S F : Nat} {b : Int} (hS : isSt σ ρ S F) (hG : wfG (M F 0) (M (S + 1)) (M (S + 2)) (M (S + 3))) (he : 0 ≤ M F 1 ∧ M F 1 ≤ 99) (hq : Q (some (xI (rns (M F 0) (M F 1) (M (S + 1)) (M (S + 2)) (M (S + 3)) b))) (σ, ρ, M)) : xX G mX7_runsOf 0 0 0 [(0, xP S), (1, xI b)] [] (σ, ρ, M) Q := by
  have hn1 := hG.1
  unfold rns at hq
  refine x_iload_n (p2 := 1) rfl dX7_runsOf_0 rfl ?_
  refine x_if_ne (p2 := 4) (t := 14) (by decide) rfl dX7_runsOf_1 (fun hc1 => ?_) (fun hc1 => ?_)
  · skip
    refine x_iconst (p2 := 15) rfl dX7_runsOf_14 ⟨by decide, by decide⟩ ?_
    refine x_istore_n (p2 := 16) (i := 2) (L2 := [(0, _), (1, _), (2, _)]) rfl dX7_runsOf_15 rfl ⟨rfl, Nat.le_of_ble_eq_true rfl⟩ rfl ?_
    refine x_iconst (p2 := 17) rfl dX7_runsOf_16 ⟨by decide, by decide⟩ ?_
    refine x_istore_n (p2 := 18) (i := 3) (L2 := [(0, _), (1, _), (2, _), (3, _)]) rfl dX7_runsOf_17 rfl ⟨rfl, Nat.le_of_ble_eq_true rfl⟩ rfl ?_
    refine x_pick (L2 := [(0, _), (1, _), (2, _), (3, _)]) [0, 1, 2, 3] rfl ?_
    first
      | (rw [if_pos hc1] at hq; exact t_runs_l2 hS hG (M F 0).toNat 0 _ (by omega) (by omega) (by omega) (by omega) hq)
      | (rw [if_neg hc1] at hq; exact t_runs_l2 hS hG (M F 0).toNat 0 _ (by omega) (by omega) (by omega) (by omega) hq)
  · skip
    refine x_aload_n (p2 := 5) rfl dX7_runsOf_4 rfl ?_
    refine x_getr (p2 := 8) (kz := 0) rfl dX7_runsOf_5 f_7_31 rfl rfl hS.sh hS.r0 ?_
    refine x_geti (p2 := 11) (kz := 1) rfl dX7_runsOf_8 f_7_50 rfl rfl hS.fr.sh ?_
    refine x_goto (t := 15) (by decide) dX7_runsOf_11 ?_
    refine x_istore_n (p2 := 16) (i := 2) (L2 := [(0, _), (1, _), (2, _)]) rfl dX7_runsOf_15 rfl ⟨rfl, Nat.le_of_ble_eq_true rfl⟩ rfl ?_
    refine x_iconst (p2 := 17) rfl dX7_runsOf_16 ⟨by decide, by decide⟩ ?_
    refine x_istore_n (p2 := 18) (i := 3) (L2 := [(0, _), (1, _), (2, _), (3, _)]) rfl dX7_runsOf_17 rfl ⟨rfl, Nat.le_of_ble_eq_true rfl⟩ rfl ?_
    refine x_pick (L2 := [(0, _), (1, _), (2, _), (3, _)]) [0, 1, 2, 3] rfl ?_
    first
      | (rw [if_pos hc1] at hq; exact t_runs_l2 hS hG (M F 0).toNat 0 _ (by omega) (by omega) (by omega) (by omega) hq)
      | (rw [if_neg hc1] at hq; exact t_runs_l2 hS hG (M F 0).toNat 0 _ (by omega) (by omega) (by omega) (by omega) hq)
end XT
end
section
section XU
variable {G : xG} {σ : List (Nat × Nat)} {ρ : Nat → Int → Option Nat} {M : Nat → Int → Int} {Q : Option xV → xH → Prop}
def upf (f : Int → Int) (j v : Int) : Int → Int := fun x => if x = j then v else f x
def xw (M : Nat → Int → Int) (c : Nat) (f : Int → Int) : Nat → Int → Int := fun a => if a = c then f else M a
theorem upf_s {f : Int → Int} {j v : Int} : upf f j v j = v := if_pos rfl
theorem upf_n {f : Int → Int} {j v x : Int} (h : x ≠ j) : upf f j v x = f x := if_neg h
theorem xw_s {c : Nat} {f : Int → Int} : xw M c f c = f := if_pos rfl
theorem xw_n {a c : Nat} {f : Int → Int} (h : a ≠ c) : xw M c f a = M a := if_neg h
theorem xw_xw {c : Nat} {f g : Int → Int} : xw (xw M c f) c g = xw M c g := by
  funext a; unfold xw; split <;> rfl
theorem xw_id {c : Nat} : xw M c (M c) = M := by
  funext a; unfold xw; split
  · rename_i h; rw [h]
  · rfl
theorem xu_eq {c : Nat} {j v : Int} : xu M c j v = xw M c (upf (M c) j v) := by
  funext a b; unfold xu xw upf
  by_cases h : a = c
  · subst h; simp
  · simp [h]
theorem xu_xw {c : Nat} {f : Int → Int} {j v : Int} : xu (xw M c f) c j v = xw M c (upf f j v) := by
  rw [xu_eq, xw_s, xw_xw]
theorem xw_cm {a c : Nat} {f g : Int → Int} (h : a ≠ c) : xw (xw M a f) c g = xw (xw M c g) a f := by
  funext x; unfold xw
  by_cases h1 : x = c
  · subst h1; simp [Ne.symm h]
  · simp [h1]
/-- three rows of a State -/
def st3 (M : Nat → Int → Int) (S : Nat) (ex tg ct : Int → Int) : Nat → Int → Int := xw (xw (xw M (S + 1) ex) (S + 2) tg) (S + 3) ct
section S3
variable {S : Nat} {ex tg ct : Int → Int}
theorem st3_1 : st3 M S ex tg ct (S + 1) = ex := by unfold st3; rw [xw_n (by omega), xw_n (by omega), xw_s]
theorem st3_2 : st3 M S ex tg ct (S + 2) = tg := by unfold st3; rw [xw_n (by omega), xw_s]
theorem st3_3 : st3 M S ex tg ct (S + 3) = ct := by unfold st3; rw [xw_s]
theorem st3_n {c : Nat} (h1 : c ≠ S + 1) (h2 : c ≠ S + 2) (h3 : c ≠ S + 3) : st3 M S ex tg ct c = M c := by unfold st3; rw [xw_n h3, xw_n h2, xw_n h1]
theorem st3_u1 {j v : Int} : xu (st3 M S ex tg ct) (S + 1) j v = st3 M S (upf ex j v) tg ct := by
  rw [xu_eq, st3_1]; unfold st3
  rw [xw_cm (show S + 3 ≠ S + 1 by omega), xw_cm (show S + 2 ≠ S + 1 by omega), xw_xw]
theorem st3_u2 {j v : Int} : xu (st3 M S ex tg ct) (S + 2) j v = st3 M S ex (upf tg j v) ct := by
  rw [xu_eq, st3_2]; unfold st3
  rw [xw_cm (show S + 3 ≠ S + 2 by omega), xw_xw]
theorem st3_u3 {j v : Int} : xu (st3 M S ex tg ct) (S + 3) j v = st3 M S ex tg (upf ct j v) := by
  rw [xu_eq, st3_3]; unfold st3
  rw [xw_xw]
theorem st3_id : st3 M S (M (S + 1)) (M (S + 2)) (M (S + 3)) = M := by
  unfold st3
  rw [xw_id, xw_id, xw_id]
end S3
set_option maxHeartbeats 4000000 in
theorem t_X7_exchange {S F : Nat} {i j : Int} (hS : isSt σ ρ S F) (hi : 0 ≤ i ∧ i < 8) (hj : 0 ≤ j ∧ j < 8) (hq : Q none (σ, ρ, xw M (S + 4) (upf (upf (M (S + 4)) i (M (S + 4) j)) j (M (S + 4) i)))) : xX G mX7_exchange 0 0 0 [(0, xP S), (1, xI i), (2, xI j)] [] (σ, ρ, M) Q := by
  refine x_aload_n (p2 := 1) rfl dX7_exchange_0 rfl ?_
  refine x_getr (p2 := 4) (kz := 4) rfl dX7_exchange_1 f_7_21 rfl rfl hS.sh hS.r4 ?_
  refine x_iload_n (p2 := 5) rfl dX7_exchange_4 rfl ?_
  refine x_iald (p2 := 6) rfl dX7_exchange_5 hS.a4 (by omega) (by omega) ?_
  refine x_istore_n (p2 := 7) (i := 3) (L2 := [(0, _), (1, _), (2, _), (3, _)]) rfl dX7_exchange_6 rfl ⟨rfl, Nat.le_of_ble_eq_true rfl⟩ rfl ?_
  refine x_aload_n (p2 := 8) rfl dX7_exchange_7 rfl ?_
  refine x_getr (p2 := 11) (kz := 4) rfl dX7_exchange_8 f_7_21 rfl rfl hS.sh hS.r4 ?_
  refine x_iload_n (p2 := 12) rfl dX7_exchange_11 rfl ?_
  refine x_aload_n (p2 := 13) rfl dX7_exchange_12 rfl ?_
  refine x_getr (p2 := 16) (kz := 4) rfl dX7_exchange_13 f_7_21 rfl rfl hS.sh hS.r4 ?_
  refine x_iload_n (p2 := 17) rfl dX7_exchange_16 rfl ?_
  refine x_iald (p2 := 18) rfl dX7_exchange_17 hS.a4 (by omega) (by omega) ?_
  refine x_iast (p2 := 19) rfl dX7_exchange_18 hS.a4 (by omega) (by omega) ?_
  refine x_aload_n (p2 := 20) rfl dX7_exchange_19 rfl ?_
  refine x_getr (p2 := 23) (kz := 4) rfl dX7_exchange_20 f_7_21 rfl rfl hS.sh hS.r4 ?_
  refine x_iload_n (p2 := 24) rfl dX7_exchange_23 rfl ?_
  refine x_iload_n (p2 := 25) rfl dX7_exchange_24 rfl ?_
  refine x_iast (p2 := 26) rfl dX7_exchange_25 hS.a4 (by omega) (by omega) ?_
  refine x_vret dX7_exchange_26 rfl ?_
  rw [xu_eq (M := M), xu_xw]; exact hq
set_option maxHeartbeats 4000000 in
theorem t_X7_refusalToExchange {S F : Nat} {i j : Int} (hS : isSt σ ρ S F) (k1 : ¬ (0 ≤ i ∧ i < M F 0 ∧ 0 ≤ j ∧ j < M F 0) → Q (some (xI (-1))) (σ, ρ, M)) (k2 : (0 ≤ i ∧ i < M F 0 ∧ 0 ≤ j ∧ j < M F 0) ∧ (i = 0 ∨ j = 0) → Q (some (xI (-3))) (σ, ρ, M)) (k0 : 0 < i ∧ i < M F 0 ∧ 0 < j ∧ j < M F 0 → Q (some (xI 0)) (σ, ρ, M)) : xX G mX7_refusalToExchange 0 0 0 [(0, xP S), (1, xI i), (2, xI j)] [] (σ, ρ, M) Q := by
  refine x_aload_n (p2 := 1) rfl dX7_refusalToExchange_0 rfl ?_
  refine x_getr (p2 := 4) (kz := 0) rfl dX7_refusalToExchange_1 f_7_31 rfl rfl hS.sh hS.r0 ?_
  refine x_iload_n (p2 := 5) rfl dX7_refusalToExchange_4 rfl ?_
  refine x_v1 (p2 := 8) rfl dX7_refusalToExchange_5 l_7_71 ok_X1_hasPosition rfl hS.fr.sh rfl ?_
  refine t_X1_hasPosition hS.fr (fun hb5 => ?_) (fun hb5 => ?_)
  · skip
    refine x_if_eq (p2 := 11) (t := 22) (by decide) rfl dX7_refusalToExchange_8 (fun hc => absurd hc (by decide)) (fun _ => ?_)
    refine x_aload_n (p2 := 12) rfl dX7_refusalToExchange_11 rfl ?_
    refine x_getr (p2 := 15) (kz := 0) rfl dX7_refusalToExchange_12 f_7_31 rfl rfl hS.sh hS.r0 ?_
    refine x_iload_n (p2 := 16) rfl dX7_refusalToExchange_15 rfl ?_
    refine x_v1 (p2 := 19) rfl dX7_refusalToExchange_16 l_7_71 ok_X1_hasPosition rfl hS.fr.sh rfl ?_
    refine t_X1_hasPosition hS.fr (fun hb16 => ?_) (fun hb16 => ?_)
    · skip
      refine x_if_ne (p2 := 22) (t := 24) (by decide) rfl dX7_refusalToExchange_19 (fun _ => ?_) (fun hc => absurd hc (by decide))
      refine x_iload_n (p2 := 25) rfl dX7_refusalToExchange_24 rfl ?_
      refine x_if_eq (p2 := 28) (t := 32) (by decide) rfl dX7_refusalToExchange_25 (fun hc25 => ?_) (fun hc25 => ?_)
      · skip
        refine x_bipush (p2 := 34) rfl dX7_refusalToExchange_32 ⟨by decide, ⟨by decide, by decide⟩⟩ ?_
        refine x_goto (t := 38) (by decide) dX7_refusalToExchange_34 ?_
        refine x_iret dX7_refusalToExchange_38 rfl ?_
        exact k2 (by omega)
      · skip
        refine x_iload_n (p2 := 29) rfl dX7_refusalToExchange_28 rfl ?_
        refine x_if_ne (p2 := 32) (t := 37) (by decide) rfl dX7_refusalToExchange_29 (fun hc29 => ?_) (fun hc29 => ?_)
        · skip
          refine x_iconst (p2 := 38) rfl dX7_refusalToExchange_37 ⟨by decide, by decide⟩ ?_
          refine x_iret dX7_refusalToExchange_38 rfl ?_
          exact k0 (by omega)
        · skip
          refine x_bipush (p2 := 34) rfl dX7_refusalToExchange_32 ⟨by decide, ⟨by decide, by decide⟩⟩ ?_
          refine x_goto (t := 38) (by decide) dX7_refusalToExchange_34 ?_
          refine x_iret dX7_refusalToExchange_38 rfl ?_
          exact k2 (by omega)
    · skip
      refine x_if_ne (p2 := 22) (t := 24) (by decide) rfl dX7_refusalToExchange_19 (fun hc => absurd hc (by decide)) (fun _ => ?_)
      refine x_iconst (p2 := 23) rfl dX7_refusalToExchange_22 ⟨by decide, by decide⟩ ?_
      refine x_iret dX7_refusalToExchange_23 rfl ?_
      exact k1 (by omega)
  · skip
    refine x_if_eq (p2 := 11) (t := 22) (by decide) rfl dX7_refusalToExchange_8 (fun _ => ?_) (fun hc => absurd hc (by decide))
    refine x_iconst (p2 := 23) rfl dX7_refusalToExchange_22 ⟨by decide, by decide⟩ ?_
    refine x_iret dX7_refusalToExchange_23 rfl ?_
    exact k1 (by omega)
set_option maxHeartbeats 4000000 in
theorem t_X7_refusalToTurn {S F : Nat} {i j : Int} (hS : isSt σ ρ S F) (k1 : ¬ (0 ≤ i ∧ i < M F 0 ∧ 0 ≤ j ∧ j < M F 0) → Q (some (xI (-1))) (σ, ρ, M)) (k2 : (0 ≤ i ∧ i < M F 0 ∧ 0 ≤ j ∧ j < M F 0) ∧ (i = 0 ∨ j < i ∨ M S 5 ≤ j) → Q (some (xI (-3))) (σ, ρ, M)) (k0 : 0 < i ∧ i ≤ j ∧ j < M F 0 ∧ j < M S 5 → Q (some (xI 0)) (σ, ρ, M)) : xX G mX7_refusalToTurn 0 0 0 [(0, xP S), (1, xI i), (2, xI j)] [] (σ, ρ, M) Q := by
  refine x_aload_n (p2 := 1) rfl dX7_refusalToTurn_0 rfl ?_
  refine x_getr (p2 := 4) (kz := 0) rfl dX7_refusalToTurn_1 f_7_31 rfl rfl hS.sh hS.r0 ?_
  refine x_iload_n (p2 := 5) rfl dX7_refusalToTurn_4 rfl ?_
  refine x_v1 (p2 := 8) rfl dX7_refusalToTurn_5 l_7_71 ok_X1_hasPosition rfl hS.fr.sh rfl ?_
  refine t_X1_hasPosition hS.fr (fun hb5 => ?_) (fun hb5 => ?_)
  · skip
    refine x_if_eq (p2 := 11) (t := 22) (by decide) rfl dX7_refusalToTurn_8 (fun hc => absurd hc (by decide)) (fun _ => ?_)
    refine x_aload_n (p2 := 12) rfl dX7_refusalToTurn_11 rfl ?_
    refine x_getr (p2 := 15) (kz := 0) rfl dX7_refusalToTurn_12 f_7_31 rfl rfl hS.sh hS.r0 ?_
    refine x_iload_n (p2 := 16) rfl dX7_refusalToTurn_15 rfl ?_
    refine x_v1 (p2 := 19) rfl dX7_refusalToTurn_16 l_7_71 ok_X1_hasPosition rfl hS.fr.sh rfl ?_
    refine t_X1_hasPosition hS.fr (fun hb16 => ?_) (fun hb16 => ?_)
    · skip
      refine x_if_ne (p2 := 22) (t := 24) (by decide) rfl dX7_refusalToTurn_19 (fun _ => ?_) (fun hc => absurd hc (by decide))
      refine x_iload_n (p2 := 25) rfl dX7_refusalToTurn_24 rfl ?_
      refine x_if_eq (p2 := 28) (t := 41) (by decide) rfl dX7_refusalToTurn_25 (fun hc25 => ?_) (fun hc25 => ?_)
      · skip
        refine x_bipush (p2 := 43) rfl dX7_refusalToTurn_41 ⟨by decide, ⟨by decide, by decide⟩⟩ ?_
        refine x_goto (t := 47) (by decide) dX7_refusalToTurn_43 ?_
        refine x_iret dX7_refusalToTurn_47 rfl ?_
        exact k2 (by omega)
      · skip
        refine x_iload_n (p2 := 29) rfl dX7_refusalToTurn_28 rfl ?_
        refine x_iload_n (p2 := 30) rfl dX7_refusalToTurn_29 rfl ?_
        refine x_ic_gt (p2 := 33) (t := 41) (by decide) rfl dX7_refusalToTurn_30 (fun hc30 => ?_) (fun hc30 => ?_)
        · skip
          refine x_bipush (p2 := 43) rfl dX7_refusalToTurn_41 ⟨by decide, ⟨by decide, by decide⟩⟩ ?_
          refine x_goto (t := 47) (by decide) dX7_refusalToTurn_43 ?_
          refine x_iret dX7_refusalToTurn_47 rfl ?_
          exact k2 (by omega)
        · skip
          refine x_iload_n (p2 := 34) rfl dX7_refusalToTurn_33 rfl ?_
          refine x_aload_n (p2 := 35) rfl dX7_refusalToTurn_34 rfl ?_
          refine x_geti (p2 := 38) (kz := 5) rfl dX7_refusalToTurn_35 f_7_24 rfl rfl hS.sh ?_
          refine x_ic_lt (p2 := 41) (t := 46) (by decide) rfl dX7_refusalToTurn_38 (fun hc38 => ?_) (fun hc38 => ?_)
          · skip
            refine x_iconst (p2 := 47) rfl dX7_refusalToTurn_46 ⟨by decide, by decide⟩ ?_
            refine x_iret dX7_refusalToTurn_47 rfl ?_
            exact k0 (by omega)
          · skip
            refine x_bipush (p2 := 43) rfl dX7_refusalToTurn_41 ⟨by decide, ⟨by decide, by decide⟩⟩ ?_
            refine x_goto (t := 47) (by decide) dX7_refusalToTurn_43 ?_
            refine x_iret dX7_refusalToTurn_47 rfl ?_
            exact k2 (by omega)
    · skip
      refine x_if_ne (p2 := 22) (t := 24) (by decide) rfl dX7_refusalToTurn_19 (fun hc => absurd hc (by decide)) (fun _ => ?_)
      refine x_iconst (p2 := 23) rfl dX7_refusalToTurn_22 ⟨by decide, by decide⟩ ?_
      refine x_iret dX7_refusalToTurn_23 rfl ?_
      exact k1 (by omega)
  · skip
    refine x_if_eq (p2 := 11) (t := 22) (by decide) rfl dX7_refusalToTurn_8 (fun _ => ?_) (fun hc => absurd hc (by decide))
    refine x_iconst (p2 := 23) rfl dX7_refusalToTurn_22 ⟨by decide, by decide⟩ ?_
    refine x_iret dX7_refusalToTurn_23 rfl ?_
    exact k1 (by omega)
set_option maxHeartbeats 4000000 in
theorem t_X7_refusalToDivide {i : Int} (k1 : ¬ (1 ≤ i ∧ i ≤ 99) → Q (some (xI (-2))) (σ, ρ, M)) (k0 : 1 ≤ i ∧ i ≤ 99 → Q (some (xI 0)) (σ, ρ, M)) : xX G mX7_refusalToDivide 0 0 0 [(0, xI i)] [] (σ, ρ, M) Q := by
  refine x_iload_n (p2 := 1) rfl dX7_refusalToDivide_0 rfl ?_
  refine x_iconst (p2 := 2) rfl dX7_refusalToDivide_1 ⟨by decide, by decide⟩ ?_
  refine x_ic_lt (p2 := 5) (t := 11) (by decide) rfl dX7_refusalToDivide_2 (fun hc2 => ?_) (fun hc2 => ?_)
  · skip
    refine x_bipush (p2 := 13) rfl dX7_refusalToDivide_11 ⟨by decide, ⟨by decide, by decide⟩⟩ ?_
    refine x_goto (t := 17) (by decide) dX7_refusalToDivide_13 ?_
    refine x_iret dX7_refusalToDivide_17 rfl ?_
    exact k1 (by omega)
  · skip
    refine x_iload_n (p2 := 6) rfl dX7_refusalToDivide_5 rfl ?_
    refine x_bipush (p2 := 8) rfl dX7_refusalToDivide_6 ⟨by decide, ⟨by decide, by decide⟩⟩ ?_
    refine x_ic_le (p2 := 11) (t := 16) (by decide) rfl dX7_refusalToDivide_8 (fun hc8 => ?_) (fun hc8 => ?_)
    · skip
      refine x_iconst (p2 := 17) rfl dX7_refusalToDivide_16 ⟨by decide, by decide⟩ ?_
      refine x_iret dX7_refusalToDivide_17 rfl ?_
      exact k0 (by omega)
    · skip
      refine x_bipush (p2 := 13) rfl dX7_refusalToDivide_11 ⟨by decide, ⟨by decide, by decide⟩⟩ ?_
      refine x_goto (t := 17) (by decide) dX7_refusalToDivide_13 ?_
      refine x_iret dX7_refusalToDivide_17 rfl ?_
      exact k1 (by omega)
set_option maxHeartbeats 4000000 in
theorem t_X7_refusalToGoAround {S F : Nat} {b : Int} (hS : isSt σ ρ S F) (hn : M F 0 ≤ 8) (k1 : ¬ (0 ≤ b ∧ b < M F 0) → Q (some (xI (-1))) (σ, ρ, M)) (k2 : (0 ≤ b ∧ b < M F 0) ∧ (b = 0 ∨ M (F + 1) b ≠ 0 ∨ M (S + 1) b ≠ 1 ∨ M (S + 2) (2 * b + 0) = b) → Q (some (xI (-3))) (σ, ρ, M)) (k0 : 0 < b ∧ b < M F 0 ∧ M (F + 1) b = 0 ∧ M (S + 1) b = 1 ∧ M (S + 2) (2 * b + 0) ≠ b → Q (some (xI 0)) (σ, ρ, M)) : xX G mX7_refusalToGoAround 0 0 0 [(0, xP S), (1, xI b)] [] (σ, ρ, M) Q := by
  refine x_aload_n (p2 := 1) rfl dX7_refusalToGoAround_0 rfl ?_
  refine x_getr (p2 := 4) (kz := 0) rfl dX7_refusalToGoAround_1 f_7_31 rfl rfl hS.sh hS.r0 ?_
  refine x_iload_n (p2 := 5) rfl dX7_refusalToGoAround_4 rfl ?_
  refine x_v1 (p2 := 8) rfl dX7_refusalToGoAround_5 l_7_46 ok_X1_hasBlock rfl hS.fr.sh rfl ?_
  refine t_X1_hasBlock hS.fr (fun hb5 => ?_) (fun hb5 => ?_)
  · skip
    refine x_if_ne (p2 := 11) (t := 13) (by decide) rfl dX7_refusalToGoAround_8 (fun _ => ?_) (fun hc => absurd hc (by decide))
    refine x_iload_n (p2 := 14) rfl dX7_refusalToGoAround_13 rfl ?_
    refine x_if_eq (p2 := 17) (t := 53) (by decide) rfl dX7_refusalToGoAround_14 (fun hc14 => ?_) (fun hc14 => ?_)
    · skip
      refine x_iconst (p2 := 54) rfl dX7_refusalToGoAround_53 ⟨by decide, by decide⟩ ?_
      refine x_istore_n (p2 := 55) (i := 2) (L2 := [(0, _), (1, _), (2, _)]) rfl dX7_refusalToGoAround_54 rfl ⟨rfl, Nat.le_of_ble_eq_true rfl⟩ rfl ?_
      refine x_iload_n (p2 := 56) rfl dX7_refusalToGoAround_55 rfl ?_
      refine x_if_eq (p2 := 59) (t := 63) (by decide) rfl dX7_refusalToGoAround_56 (fun _ => ?_) (fun hc => absurd hc (by decide))
      refine x_bipush (p2 := 65) rfl dX7_refusalToGoAround_63 ⟨by decide, ⟨by decide, by decide⟩⟩ ?_
      refine x_iret dX7_refusalToGoAround_65 rfl ?_
      exact k2 (by omega)
    · skip
      refine x_aload_n (p2 := 18) rfl dX7_refusalToGoAround_17 rfl ?_
      refine x_getr (p2 := 21) (kz := 0) rfl dX7_refusalToGoAround_18 f_7_31 rfl rfl hS.sh hS.r0 ?_
      refine x_getr (p2 := 24) (kz := 2) rfl dX7_refusalToGoAround_21 f_7_77 rfl rfl hS.fr.sh hS.fr.r2 ?_
      refine x_iload_n (p2 := 25) rfl dX7_refusalToGoAround_24 rfl ?_
      refine x_iald (p2 := 26) rfl dX7_refusalToGoAround_25 hS.fr.a2 (by omega) (by omega) ?_
      refine x_if_ne (p2 := 29) (t := 53) (by decide) rfl dX7_refusalToGoAround_26 (fun hc26 => ?_) (fun hc26 => ?_)
      · skip
        refine x_iconst (p2 := 54) rfl dX7_refusalToGoAround_53 ⟨by decide, by decide⟩ ?_
        refine x_istore_n (p2 := 55) (i := 2) (L2 := [(0, _), (1, _), (2, _)]) rfl dX7_refusalToGoAround_54 rfl ⟨rfl, Nat.le_of_ble_eq_true rfl⟩ rfl ?_
        refine x_iload_n (p2 := 56) rfl dX7_refusalToGoAround_55 rfl ?_
        refine x_if_eq (p2 := 59) (t := 63) (by decide) rfl dX7_refusalToGoAround_56 (fun _ => ?_) (fun hc => absurd hc (by decide))
        refine x_bipush (p2 := 65) rfl dX7_refusalToGoAround_63 ⟨by decide, ⟨by decide, by decide⟩⟩ ?_
        refine x_iret dX7_refusalToGoAround_65 rfl ?_
        exact k2 (by omega)
      · skip
        refine x_aload_n (p2 := 30) rfl dX7_refusalToGoAround_29 rfl ?_
        refine x_getr (p2 := 33) (kz := 1) rfl dX7_refusalToGoAround_30 f_7_9 rfl rfl hS.sh hS.r1 ?_
        refine x_iload_n (p2 := 34) rfl dX7_refusalToGoAround_33 rfl ?_
        refine x_iald (p2 := 35) rfl dX7_refusalToGoAround_34 hS.a1 (by omega) (by omega) ?_
        refine x_iconst (p2 := 36) rfl dX7_refusalToGoAround_35 ⟨by decide, by decide⟩ ?_
        refine x_ic_ne (p2 := 39) (t := 53) (by decide) rfl dX7_refusalToGoAround_36 (fun hc36 => ?_) (fun hc36 => ?_)
        · skip
          refine x_iconst (p2 := 54) rfl dX7_refusalToGoAround_53 ⟨by decide, by decide⟩ ?_
          refine x_istore_n (p2 := 55) (i := 2) (L2 := [(0, _), (1, _), (2, _)]) rfl dX7_refusalToGoAround_54 rfl ⟨rfl, Nat.le_of_ble_eq_true rfl⟩ rfl ?_
          refine x_iload_n (p2 := 56) rfl dX7_refusalToGoAround_55 rfl ?_
          refine x_if_eq (p2 := 59) (t := 63) (by decide) rfl dX7_refusalToGoAround_56 (fun _ => ?_) (fun hc => absurd hc (by decide))
          refine x_bipush (p2 := 65) rfl dX7_refusalToGoAround_63 ⟨by decide, ⟨by decide, by decide⟩⟩ ?_
          refine x_iret dX7_refusalToGoAround_65 rfl ?_
          exact k2 (by omega)
        · skip
          refine x_aload_n (p2 := 40) rfl dX7_refusalToGoAround_39 rfl ?_
          refine x_iload_n (p2 := 41) rfl dX7_refusalToGoAround_40 rfl ?_
          refine x_iconst (p2 := 42) rfl dX7_refusalToGoAround_41 ⟨by decide, by decide⟩ ?_
          refine x_v2 (p2 := 45) rfl dX7_refusalToGoAround_42 l_7_53 ok_X7_target rfl hS.sh rfl ?_
          refine t_X7_target hS (by omega) (by omega) (by omega) (by omega) ?_
          refine x_iload_n (p2 := 46) rfl dX7_refusalToGoAround_45 rfl ?_
          refine x_ic_eq (p2 := 49) (t := 53) (by decide) rfl dX7_refusalToGoAround_46 (fun hc46 => ?_) (fun hc46 => ?_)
          · skip
            refine x_iconst (p2 := 54) rfl dX7_refusalToGoAround_53 ⟨by decide, by decide⟩ ?_
            refine x_istore_n (p2 := 55) (i := 2) (L2 := [(0, _), (1, _), (2, _)]) rfl dX7_refusalToGoAround_54 rfl ⟨rfl, Nat.le_of_ble_eq_true rfl⟩ rfl ?_
            refine x_iload_n (p2 := 56) rfl dX7_refusalToGoAround_55 rfl ?_
            refine x_if_eq (p2 := 59) (t := 63) (by decide) rfl dX7_refusalToGoAround_56 (fun _ => ?_) (fun hc => absurd hc (by decide))
            refine x_bipush (p2 := 65) rfl dX7_refusalToGoAround_63 ⟨by decide, ⟨by decide, by decide⟩⟩ ?_
            refine x_iret dX7_refusalToGoAround_65 rfl ?_
            exact k2 (by omega)
          · skip
            refine x_iconst (p2 := 50) rfl dX7_refusalToGoAround_49 ⟨by decide, by decide⟩ ?_
            refine x_goto (t := 54) (by decide) dX7_refusalToGoAround_50 ?_
            refine x_istore_n (p2 := 55) (i := 2) (L2 := [(0, _), (1, _), (2, _)]) rfl dX7_refusalToGoAround_54 rfl ⟨rfl, Nat.le_of_ble_eq_true rfl⟩ rfl ?_
            refine x_iload_n (p2 := 56) rfl dX7_refusalToGoAround_55 rfl ?_
            refine x_if_eq (p2 := 59) (t := 63) (by decide) rfl dX7_refusalToGoAround_56 (fun hc => absurd hc (by decide)) (fun _ => ?_)
            refine x_iconst (p2 := 60) rfl dX7_refusalToGoAround_59 ⟨by decide, by decide⟩ ?_
            refine x_goto (t := 65) (by decide) dX7_refusalToGoAround_60 ?_
            refine x_iret dX7_refusalToGoAround_65 rfl ?_
            exact k0 (by omega)
  · skip
    refine x_if_ne (p2 := 11) (t := 13) (by decide) rfl dX7_refusalToGoAround_8 (fun hc => absurd hc (by decide)) (fun _ => ?_)
    refine x_iconst (p2 := 12) rfl dX7_refusalToGoAround_11 ⟨by decide, by decide⟩ ?_
    refine x_iret dX7_refusalToGoAround_12 rfl ?_
    exact k1 (by omega)
def tnf : Nat → Int → (Int → Int) → Int → Int
  | 0, _, r => r
  | k + 1, i, r => tnf k (i + 1) (upf r i (r (i + 1)))
set_option maxHeartbeats 4000000 in
theorem t_turn_l {S F : Nat} {f l v : Int} (hS : isSt σ ρ S F) (hl : l < 8) : ∀ (n : Nat) (i : Int) (r : Int → Int), 0 ≤ i → i + n = l → Q none (σ, ρ, xw M (S + 4) (upf (tnf n i r) l v)) → xX G mX7_turn 0 0 10 [(0, xP S), (1, xI f), (2, xI l), (3, xI v), (4, xI i)] [] (σ, ρ, xw M (S + 4) r) Q := by
  intro n
  induction n with
  | zero =>
    intro i r h0 hk hq
    refine x_iload (p2 := 12) rfl dX7_turn_10 rfl ?_
    refine x_iload_n (p2 := 13) rfl dX7_turn_12 rfl ?_
    refine x_ic_ge (p2 := 16) (t := 38) (by decide) rfl dX7_turn_13 (fun hc13 => ?_) (fun hc13 => absurd hc13 (by omega))
    refine x_aload_n (p2 := 39) rfl dX7_turn_38 rfl ?_
    refine x_getr (p2 := 42) (kz := 4) rfl dX7_turn_39 f_7_21 rfl rfl hS.sh hS.r4 ?_
    refine x_iload_n (p2 := 43) rfl dX7_turn_42 rfl ?_
    refine x_iload_n (p2 := 44) rfl dX7_turn_43 rfl ?_
    refine x_iast (p2 := 45) rfl dX7_turn_44 hS.a4 (by omega) (by omega) ?_
    rw [xu_xw]
    refine x_vret dX7_turn_45 rfl ?_
    exact hq
  | succ n ih =>
    intro i r h0 hk hq
    refine x_iload (p2 := 12) rfl dX7_turn_10 rfl ?_
    refine x_iload_n (p2 := 13) rfl dX7_turn_12 rfl ?_
    refine x_ic_ge (p2 := 16) (t := 38) (by decide) rfl dX7_turn_13 (fun hc13 => ?_) (fun hc13 => ?_)
    · exact absurd hc13 (by omega)
    refine x_aload_n (p2 := 17) rfl dX7_turn_16 rfl ?_
    refine x_getr (p2 := 20) (kz := 4) rfl dX7_turn_17 f_7_21 rfl rfl hS.sh hS.r4 ?_
    refine x_iload (p2 := 22) rfl dX7_turn_20 rfl ?_
    refine x_aload_n (p2 := 23) rfl dX7_turn_22 rfl ?_
    refine x_getr (p2 := 26) (kz := 4) rfl dX7_turn_23 f_7_21 rfl rfl hS.sh hS.r4 ?_
    refine x_iload (p2 := 28) rfl dX7_turn_26 rfl ?_
    refine x_iconst (p2 := 29) rfl dX7_turn_28 ⟨by decide, by decide⟩ ?_
    refine x_iadd (p2 := 30) rfl dX7_turn_29 ⟨by omega, by omega⟩ ?_
    refine x_iald (p2 := 31) rfl dX7_turn_30 hS.a4 (by omega) (by omega) ?_
    rw [xw_s]
    refine x_iast (p2 := 32) rfl dX7_turn_31 hS.a4 (by omega) (by omega) ?_
    rw [xu_xw]
    refine x_iinc (p2 := 35) (L2 := [(0, _), (1, _), (2, _), (3, _), (4, _)]) rfl dX7_turn_32 rfl ⟨by omega, by omega⟩ ⟨rfl, Nat.le_of_ble_eq_true rfl⟩ rfl ?_
    refine x_goto (t := 10) (by decide) dX7_turn_35 ?_
    refine x_pick (L2 := [(0, _), (1, _), (2, _), (3, _), (4, _)]) [0, 1, 2, 3, 4] rfl ?_
    exact ih _ _ (by omega) (by omega) hq
set_option maxHeartbeats 4000000 in
theorem t_X7_turn {S F : Nat} {f l : Int} (hS : isSt σ ρ S F) (hf : 0 ≤ f ∧ f ≤ l) (hl : l < 8) (hq : Q none (σ, ρ, xw M (S + 4) (upf (tnf (l - f).toNat f (M (S + 4))) l (M (S + 4) f)))) : xX G mX7_turn 0 0 0 [(0, xP S), (1, xI f), (2, xI l)] [] (σ, ρ, M) Q := by
  refine x_aload_n (p2 := 1) rfl dX7_turn_0 rfl ?_
  refine x_getr (p2 := 4) (kz := 4) rfl dX7_turn_1 f_7_21 rfl rfl hS.sh hS.r4 ?_
  refine x_iload_n (p2 := 5) rfl dX7_turn_4 rfl ?_
  refine x_iald (p2 := 6) rfl dX7_turn_5 hS.a4 (by omega) (by omega) ?_
  refine x_istore_n (p2 := 7) (i := 3) (L2 := [(0, _), (1, _), (2, _), (3, _)]) rfl dX7_turn_6 rfl ⟨rfl, Nat.le_of_ble_eq_true rfl⟩ rfl ?_
  refine x_iload_n (p2 := 8) rfl dX7_turn_7 rfl ?_
  refine x_istore (p2 := 10) (i := 4) (L2 := [(0, _), (1, _), (2, _), (3, _), (4, _)]) rfl dX7_turn_8 ⟨rfl, Nat.le_of_ble_eq_true rfl⟩ rfl ?_
  refine x_pick (L2 := [(0, _), (1, _), (2, _), (3, _), (4, _)]) [0, 1, 2, 3, 4] rfl ?_
  rw [show (σ, ρ, M) = (σ, ρ, xw M (S + 4) (M (S + 4))) by rw [xw_id]]
  exact t_turn_l hS hl _ _ _ hf.1 (by omega) hq
def shf : Nat → Int → (Int → Int) → Int → Int
  | 0, _, r => r
  | k + 1, j, r => shf k (j - 1) (upf r j (r (j - 1)))
def dvf (p : Int → Bool) : Nat → Int → (Int → Int) → Int → (Int → Int) × Int
  | 0, _, r, h => (r, h)
  | k + 1, i, r, h => if p (r i) then dvf p k (i + 1) (upf (shf (i - h).toNat i r) h (r i)) (h + 1) else dvf p k (i + 1) r h
def hotp (n en : Int) (ex tg ct : Int → Int) (t b : Int) : Bool := decide (b = 0 ∨ t ≤ rns n en ex tg ct b)
set_option maxHeartbeats 4000000 in
theorem t_div_l1 {S F : Nat} {t h i b : Int} (hS : isSt σ ρ S F) (hh : 0 ≤ h) : ∀ (n : Nat) (j : Int) (r : Int → Int), j < 8 → h + n = j → xX G mX7_divide 0 0 69 [(0, xP S), (1, xI t), (2, xI h), (3, xI i), (4, xI b)] [] (σ, ρ, xw M (S + 4) (shf n j r)) Q → xX G mX7_divide 0 0 41 [(0, xP S), (1, xI t), (2, xI h), (3, xI i), (4, xI b), (5, xI j)] [] (σ, ρ, xw M (S + 4) r) Q := by
  intro n
  induction n with
  | zero =>
    intro j r h0 hk hq
    refine x_iload (p2 := 43) rfl dX7_divide_41 rfl ?_
    refine x_iload_n (p2 := 44) rfl dX7_divide_43 rfl ?_
    refine x_ic_le (p2 := 47) (t := 69) (by decide) rfl dX7_divide_44 (fun hc44 => ?_) (fun hc44 => absurd hc44 (by omega))
    refine x_pick (L2 := [(0, _), (1, _), (2, _), (3, _), (4, _)]) [0, 1, 2, 3, 4] rfl ?_
    exact hq
  | succ n ih =>
    intro j r h0 hk hq
    refine x_iload (p2 := 43) rfl dX7_divide_41 rfl ?_
    refine x_iload_n (p2 := 44) rfl dX7_divide_43 rfl ?_
    refine x_ic_le (p2 := 47) (t := 69) (by decide) rfl dX7_divide_44 (fun hc44 => ?_) (fun hc44 => ?_)
    · exact absurd hc44 (by omega)
    refine x_aload_n (p2 := 48) rfl dX7_divide_47 rfl ?_
    refine x_getr (p2 := 51) (kz := 4) rfl dX7_divide_48 f_7_21 rfl rfl hS.sh hS.r4 ?_
    refine x_iload (p2 := 53) rfl dX7_divide_51 rfl ?_
    refine x_aload_n (p2 := 54) rfl dX7_divide_53 rfl ?_
    refine x_getr (p2 := 57) (kz := 4) rfl dX7_divide_54 f_7_21 rfl rfl hS.sh hS.r4 ?_
    refine x_iload (p2 := 59) rfl dX7_divide_57 rfl ?_
    refine x_iconst (p2 := 60) rfl dX7_divide_59 ⟨by decide, by decide⟩ ?_
    refine x_isub (p2 := 61) rfl dX7_divide_60 ⟨by omega, by omega⟩ ?_
    refine x_iald (p2 := 62) rfl dX7_divide_61 hS.a4 (by omega) (by omega) ?_
    rw [xw_s]
    refine x_iast (p2 := 63) rfl dX7_divide_62 hS.a4 (by omega) (by omega) ?_
    rw [xu_xw]
    refine x_iinc (p2 := 66) (L2 := [(0, _), (1, _), (2, _), (3, _), (4, _), (5, _)]) rfl dX7_divide_63 rfl ⟨by omega, by omega⟩ ⟨rfl, Nat.le_of_ble_eq_true rfl⟩ rfl ?_
    refine x_goto (t := 41) (by decide) dX7_divide_66 ?_
    refine x_pick (L2 := [(0, _), (1, _), (2, _), (3, _), (4, _), (5, _)]) [0, 1, 2, 3, 4, 5] rfl ?_
    rw [show j + -1 = j - 1 by omega]
    exact ih _ _ (by omega) (by omega) hq
set_option maxHeartbeats 4000000 in
theorem t_div_l2 {S F : Nat} {t : Int} (hS : isSt σ ρ S F) (hG : wfG (M F 0) (M (S + 1)) (M (S + 2)) (M (S + 3))) (he : 0 ≤ M F 1 ∧ M F 1 ≤ 99) : ∀ (n : Nat) (i h : Int) (r : Int → Int), 0 ≤ i → i + n = M F 0 → 0 ≤ h → h ≤ i → Q none (σ, ρ, xu (xw M (S + 4) (dvf (hotp (M F 0) (M F 1) (M (S + 1)) (M (S + 2)) (M (S + 3)) t) n i r h).1) S 5 (dvf (hotp (M F 0) (M F 1) (M (S + 1)) (M (S + 2)) (M (S + 3)) t) n i r h).2) → xX G mX7_divide 0 0 4 [(0, xP S), (1, xI t), (2, xI h), (3, xI i)] [] (σ, ρ, xw M (S + 4) r) Q := by
  have hn1 := hG.1
  have hn8 := hG.2.1
  intro n
  induction n with
  | zero =>
    intro i h r h0 hk h2 h3 hq
    have e0 : xw M (S + 4) r F 0 = M F 0 := by rw [xw_n (by have := hS.lt; omega)]
    have eF : xw M (S + 4) r F = M F := xw_n (by have := hS.lt; omega)
    have e1 : xw M (S + 4) r (S + 1) = M (S + 1) := xw_n (by omega)
    have e2 : xw M (S + 4) r (S + 2) = M (S + 2) := xw_n (by omega)
    have e3 : xw M (S + 4) r (S + 3) = M (S + 3) := xw_n (by omega)
    refine x_iload_n (p2 := 5) rfl dX7_divide_4 rfl ?_
    refine x_aload_n (p2 := 6) rfl dX7_divide_5 rfl ?_
    refine x_getr (p2 := 9) (kz := 0) rfl dX7_divide_6 f_7_31 rfl rfl hS.sh hS.r0 ?_
    refine x_geti (p2 := 12) (kz := 0) rfl dX7_divide_9 f_7_41 rfl rfl hS.fr.sh ?_
    refine x_ic_ge (p2 := 15) (t := 86) (by decide) rfl dX7_divide_12 (fun hc12 => ?_) (fun hc12 => absurd hc12 (by omega))
    refine x_aload_n (p2 := 87) rfl dX7_divide_86 rfl ?_
    refine x_iload_n (p2 := 88) rfl dX7_divide_87 rfl ?_
    refine x_puti (p2 := 91) (kz := 5) rfl dX7_divide_88 f_7_24 rfl rfl rfl hS.sh ?_
    refine x_vret dX7_divide_91 rfl ?_
    exact hq
  | succ n ih =>
    intro i h r h0 hk h2 h3 hq
    have e0 : xw M (S + 4) r F 0 = M F 0 := by rw [xw_n (by have := hS.lt; omega)]
    have eF : xw M (S + 4) r F = M F := xw_n (by have := hS.lt; omega)
    have e1 : xw M (S + 4) r (S + 1) = M (S + 1) := xw_n (by omega)
    have e2 : xw M (S + 4) r (S + 2) = M (S + 2) := xw_n (by omega)
    have e3 : xw M (S + 4) r (S + 3) = M (S + 3) := xw_n (by omega)
    refine x_iload_n (p2 := 5) rfl dX7_divide_4 rfl ?_
    refine x_aload_n (p2 := 6) rfl dX7_divide_5 rfl ?_
    refine x_getr (p2 := 9) (kz := 0) rfl dX7_divide_6 f_7_31 rfl rfl hS.sh hS.r0 ?_
    refine x_geti (p2 := 12) (kz := 0) rfl dX7_divide_9 f_7_41 rfl rfl hS.fr.sh ?_
    refine x_ic_ge (p2 := 15) (t := 86) (by decide) rfl dX7_divide_12 (fun hc12 => ?_) (fun hc12 => ?_)
    · exact absurd hc12 (by omega)
    refine x_aload_n (p2 := 16) rfl dX7_divide_15 rfl ?_
    refine x_getr (p2 := 19) (kz := 4) rfl dX7_divide_16 f_7_21 rfl rfl hS.sh hS.r4 ?_
    refine x_iload_n (p2 := 20) rfl dX7_divide_19 rfl ?_
    refine x_iald (p2 := 21) rfl dX7_divide_20 hS.a4 (by omega) (by omega) ?_
    rw [xw_s]
    refine x_istore (p2 := 23) (i := 4) (L2 := [(0, _), (1, _), (2, _), (3, _), (4, _)]) rfl dX7_divide_21 ⟨rfl, Nat.le_of_ble_eq_true rfl⟩ rfl ?_
    refine x_iload (p2 := 25) rfl dX7_divide_23 rfl ?_
    refine x_if_eq (p2 := 28) (t := 38) (by decide) rfl dX7_divide_25 (fun hc25 => ?_) (fun hc25 => ?_)
    · skip
      refine x_iload_n (p2 := 39) rfl dX7_divide_38 rfl ?_
      refine x_istore (p2 := 41) (i := 5) (L2 := [(0, _), (1, _), (2, _), (3, _), (4, _), (5, _)]) rfl dX7_divide_39 ⟨rfl, Nat.le_of_ble_eq_true rfl⟩ rfl ?_
      refine x_pick (L2 := [(0, _), (1, _), (2, _), (3, _), (4, _), (5, _)]) [0, 1, 2, 3, 4, 5] rfl ?_
      have hp : (hotp (M F 0) (M F 1) (M (S + 1)) (M (S + 2)) (M (S + 3)) t) (r i) = true := decide_eq_true (by first | exact Or.inl hc25 | exact Or.inr hc35)
      refine t_div_l1 hS h2 (i - h).toNat i r (by omega) (by omega) ?_
      refine x_aload_n (p2 := 70) rfl dX7_divide_69 rfl ?_
      refine x_getr (p2 := 73) (kz := 4) rfl dX7_divide_70 f_7_21 rfl rfl hS.sh hS.r4 ?_
      refine x_iload_n (p2 := 74) rfl dX7_divide_73 rfl ?_
      refine x_iload (p2 := 76) rfl dX7_divide_74 rfl ?_
      refine x_iast (p2 := 77) rfl dX7_divide_76 hS.a4 (by omega) (by omega) ?_
      rw [xu_xw]
      refine x_iinc (p2 := 80) (L2 := [(0, _), (1, _), (2, _), (3, _), (4, _)]) rfl dX7_divide_77 rfl ⟨by omega, by omega⟩ ⟨rfl, Nat.le_of_ble_eq_true rfl⟩ rfl ?_
      refine x_iinc (p2 := 83) (L2 := [(0, _), (1, _), (2, _), (3, _), (4, _)]) rfl dX7_divide_80 rfl ⟨by omega, by omega⟩ ⟨rfl, Nat.le_of_ble_eq_true rfl⟩ rfl ?_
      refine x_goto (t := 4) (by decide) dX7_divide_83 ?_
      refine x_pick (L2 := [(0, _), (1, _), (2, _), (3, _)]) [0, 1, 2, 3] rfl ?_
      unfold dvf at hq
      rw [if_pos hp] at hq
      exact ih _ _ _ (by omega) (by omega) (by omega) (by omega) hq
    · skip
      refine x_aload_n (p2 := 29) rfl dX7_divide_28 rfl ?_
      refine x_iload (p2 := 31) rfl dX7_divide_29 rfl ?_
      refine x_v1 (p2 := 34) rfl dX7_divide_31 l_7_74 ok_X7_runsOf rfl hS.sh rfl ?_
      refine t_X7_runsOf hS (by rw [eF, e1, e2, e3]; exact hG) (by rw [eF]; exact he) ?_
      rw [eF, e1, e2, e3]
      refine x_iload_n (p2 := 35) rfl dX7_divide_34 rfl ?_
      refine x_ic_lt (p2 := 38) (t := 80) (by decide) rfl dX7_divide_35 (fun hc35 => ?_) (fun hc35 => ?_)
      · skip
        refine x_iinc (p2 := 83) (L2 := [(0, _), (1, _), (2, _), (3, _), (4, _)]) rfl dX7_divide_80 rfl ⟨by omega, by omega⟩ ⟨rfl, Nat.le_of_ble_eq_true rfl⟩ rfl ?_
        refine x_goto (t := 4) (by decide) dX7_divide_83 ?_
        refine x_pick (L2 := [(0, _), (1, _), (2, _), (3, _)]) [0, 1, 2, 3] rfl ?_
        have hp : ¬ ((hotp (M F 0) (M F 1) (M (S + 1)) (M (S + 2)) (M (S + 3)) t) (r i) = true) := fun z => by have := of_decide_eq_true z; omega
        unfold dvf at hq
        rw [if_neg hp] at hq
        exact ih _ _ _ (by omega) (by omega) (by omega) (by omega) hq
      · skip
        refine x_iload_n (p2 := 39) rfl dX7_divide_38 rfl ?_
        refine x_istore (p2 := 41) (i := 5) (L2 := [(0, _), (1, _), (2, _), (3, _), (4, _), (5, _)]) rfl dX7_divide_39 ⟨rfl, Nat.le_of_ble_eq_true rfl⟩ rfl ?_
        refine x_pick (L2 := [(0, _), (1, _), (2, _), (3, _), (4, _), (5, _)]) [0, 1, 2, 3, 4, 5] rfl ?_
        have hp : (hotp (M F 0) (M F 1) (M (S + 1)) (M (S + 2)) (M (S + 3)) t) (r i) = true := decide_eq_true (by first | exact Or.inl hc25 | exact Or.inr hc35)
        refine t_div_l1 hS h2 (i - h).toNat i r (by omega) (by omega) ?_
        refine x_aload_n (p2 := 70) rfl dX7_divide_69 rfl ?_
        refine x_getr (p2 := 73) (kz := 4) rfl dX7_divide_70 f_7_21 rfl rfl hS.sh hS.r4 ?_
        refine x_iload_n (p2 := 74) rfl dX7_divide_73 rfl ?_
        refine x_iload (p2 := 76) rfl dX7_divide_74 rfl ?_
        refine x_iast (p2 := 77) rfl dX7_divide_76 hS.a4 (by omega) (by omega) ?_
        rw [xu_xw]
        refine x_iinc (p2 := 80) (L2 := [(0, _), (1, _), (2, _), (3, _), (4, _)]) rfl dX7_divide_77 rfl ⟨by omega, by omega⟩ ⟨rfl, Nat.le_of_ble_eq_true rfl⟩ rfl ?_
        refine x_iinc (p2 := 83) (L2 := [(0, _), (1, _), (2, _), (3, _), (4, _)]) rfl dX7_divide_80 rfl ⟨by omega, by omega⟩ ⟨rfl, Nat.le_of_ble_eq_true rfl⟩ rfl ?_
        refine x_goto (t := 4) (by decide) dX7_divide_83 ?_
        refine x_pick (L2 := [(0, _), (1, _), (2, _), (3, _)]) [0, 1, 2, 3] rfl ?_
        unfold dvf at hq
        rw [if_pos hp] at hq
        exact ih _ _ _ (by omega) (by omega) (by omega) (by omega) hq
set_option maxHeartbeats 4000000 in
theorem t_X7_divide {S F : Nat} {t : Int} (hS : isSt σ ρ S F) (hG : wfG (M F 0) (M (S + 1)) (M (S + 2)) (M (S + 3))) (he : 0 ≤ M F 1 ∧ M F 1 ≤ 99) (hq : Q none (σ, ρ, xu (xw M (S + 4) (dvf (hotp (M F 0) (M F 1) (M (S + 1)) (M (S + 2)) (M (S + 3)) t) (M F 0).toNat 0 (M (S + 4)) 0).1) S 5 (dvf (hotp (M F 0) (M F 1) (M (S + 1)) (M (S + 2)) (M (S + 3)) t) (M F 0).toNat 0 (M (S + 4)) 0).2)) : xX G mX7_divide 0 0 0 [(0, xP S), (1, xI t)] [] (σ, ρ, M) Q := by
  have hn1 := hG.1
  refine x_iconst (p2 := 1) rfl dX7_divide_0 ⟨by decide, by decide⟩ ?_
  refine x_istore_n (p2 := 2) (i := 2) (L2 := [(0, _), (1, _), (2, _)]) rfl dX7_divide_1 rfl ⟨rfl, Nat.le_of_ble_eq_true rfl⟩ rfl ?_
  refine x_iconst (p2 := 3) rfl dX7_divide_2 ⟨by decide, by decide⟩ ?_
  refine x_istore_n (p2 := 4) (i := 3) (L2 := [(0, _), (1, _), (2, _), (3, _)]) rfl dX7_divide_3 rfl ⟨rfl, Nat.le_of_ble_eq_true rfl⟩ rfl ?_
  refine x_pick (L2 := [(0, _), (1, _), (2, _), (3, _)]) [0, 1, 2, 3] rfl ?_
  rw [show (σ, ρ, M) = (σ, ρ, xw M (S + 4) (M (S + 4))) by rw [xw_id]]
  exact t_div_l2 hS hG he _ _ _ _ (by omega) (by omega) (by omega) (by omega) hq
set_option maxHeartbeats 4000000 in
theorem t_X7_joinEqualEdges {S F : Nat} {b : Int} {ex tg ct : Int → Int} (hS : isSt σ ρ S F) (hb : 0 ≤ b ∧ b < 8) (hc : ex b = 2 → 0 ≤ ct (2 * b + 0) ∧ ct (2 * b + 0) ≤ 99 ∧ 0 ≤ ct (2 * b + 1) ∧ ct (2 * b + 1) ≤ 99) (k1 : ex b = 2 ∧ tg (2 * b + 0) = tg (2 * b + 1) → Q none (σ, ρ, st3 M S (upf ex b 1) tg (upf ct (2 * b + 0) (if ct (2 * b + 0) + ct (2 * b + 1) < 99 then ct (2 * b + 0) + ct (2 * b + 1) else 99)))) (k0 : ¬ (ex b = 2 ∧ tg (2 * b + 0) = tg (2 * b + 1)) → Q none (σ, ρ, st3 M S ex tg ct)) : xX G mX7_joinEqualEdges 0 0 0 [(0, xP S), (1, xI b)] [] (σ, ρ, st3 M S ex tg ct) Q := by
  refine x_aload_n (p2 := 1) rfl dX7_joinEqualEdges_0 rfl ?_
  refine x_getr (p2 := 4) (kz := 1) rfl dX7_joinEqualEdges_1 f_7_9 rfl rfl hS.sh hS.r1 ?_
  refine x_iload_n (p2 := 5) rfl dX7_joinEqualEdges_4 rfl ?_
  refine x_iald (p2 := 6) rfl dX7_joinEqualEdges_5 hS.a1 (by omega) (by omega) ?_
  rw [st3_1]
  refine x_iconst (p2 := 7) rfl dX7_joinEqualEdges_6 ⟨by decide, by decide⟩ ?_
  refine x_ic_ne (p2 := 10) (t := 56) (by decide) rfl dX7_joinEqualEdges_7 (fun hc7 => ?_) (fun hc7 => ?_)
  · skip
    refine x_vret dX7_joinEqualEdges_56 rfl ?_
    first
      | exact k0 (fun z => hc7 z.1)
      | exact k0 (fun z => hc22 z.2)
      | exact k1 ⟨hc7, hc22⟩
  · skip
    refine x_aload_n (p2 := 11) rfl dX7_joinEqualEdges_10 rfl ?_
    refine x_iload_n (p2 := 12) rfl dX7_joinEqualEdges_11 rfl ?_
    refine x_iconst (p2 := 13) rfl dX7_joinEqualEdges_12 ⟨by decide, by decide⟩ ?_
    refine x_v2 (p2 := 16) rfl dX7_joinEqualEdges_13 l_7_53 ok_X7_target rfl hS.sh rfl ?_
    refine t_X7_target hS (by omega) (by omega) (by omega) (by omega) ?_
    rw [st3_2]
    refine x_aload_n (p2 := 17) rfl dX7_joinEqualEdges_16 rfl ?_
    refine x_iload_n (p2 := 18) rfl dX7_joinEqualEdges_17 rfl ?_
    refine x_iconst (p2 := 19) rfl dX7_joinEqualEdges_18 ⟨by decide, by decide⟩ ?_
    refine x_v2 (p2 := 22) rfl dX7_joinEqualEdges_19 l_7_53 ok_X7_target rfl hS.sh rfl ?_
    refine t_X7_target hS (by omega) (by omega) (by omega) (by omega) ?_
    rw [st3_2]
    refine x_ic_ne (p2 := 25) (t := 56) (by decide) rfl dX7_joinEqualEdges_22 (fun hc22 => ?_) (fun hc22 => ?_)
    · skip
      refine x_vret dX7_joinEqualEdges_56 rfl ?_
      first
        | exact k0 (fun z => hc7 z.1)
        | exact k0 (fun z => hc22 z.2)
        | exact k1 ⟨hc7, hc22⟩
    · skip
      have hc9 := hc hc7
      refine x_aload_n (p2 := 26) rfl dX7_joinEqualEdges_25 rfl ?_
      refine x_iload_n (p2 := 27) rfl dX7_joinEqualEdges_26 rfl ?_
      refine x_iconst (p2 := 28) rfl dX7_joinEqualEdges_27 ⟨by decide, by decide⟩ ?_
      refine x_bipush (p2 := 30) rfl dX7_joinEqualEdges_28 ⟨by decide, ⟨by decide, by decide⟩⟩ ?_
      refine x_aload_n (p2 := 31) rfl dX7_joinEqualEdges_30 rfl ?_
      refine x_iload_n (p2 := 32) rfl dX7_joinEqualEdges_31 rfl ?_
      refine x_iconst (p2 := 33) rfl dX7_joinEqualEdges_32 ⟨by decide, by decide⟩ ?_
      refine x_v2 (p2 := 36) rfl dX7_joinEqualEdges_33 l_7_57 ok_X7_count rfl hS.sh rfl ?_
      refine t_X7_count hS (by omega) (by omega) (by omega) (by omega) ?_
      rw [st3_3]
      refine x_aload_n (p2 := 37) rfl dX7_joinEqualEdges_36 rfl ?_
      refine x_iload_n (p2 := 38) rfl dX7_joinEqualEdges_37 rfl ?_
      refine x_iconst (p2 := 39) rfl dX7_joinEqualEdges_38 ⟨by decide, by decide⟩ ?_
      refine x_v2 (p2 := 42) rfl dX7_joinEqualEdges_39 l_7_57 ok_X7_count rfl hS.sh rfl ?_
      refine t_X7_count hS (by omega) (by omega) (by omega) (by omega) ?_
      rw [st3_3]
      refine x_iadd (p2 := 43) rfl dX7_joinEqualEdges_42 ⟨by omega, by omega⟩ ?_
      refine x_min (p2 := 46) rfl dX7_joinEqualEdges_43 w_7_91 w_mn3 w_mn4 w_mn5 ⟨Nat.le_of_ble_eq_true rfl, Nat.le_of_ble_eq_true rfl⟩ (Nat.le_of_ble_eq_true rfl) ?_
      refine x_v3 (p2 := 49) rfl dX7_joinEqualEdges_46 l_7_88 ok_X7_putCount rfl hS.sh rfl ?_
      refine t_X7_putCount hS (by omega) (by omega) (by omega) (by omega) ?_
      rw [st3_u3]
      refine x_aload_n (p2 := 50) rfl dX7_joinEqualEdges_49 rfl ?_
      refine x_getr (p2 := 53) (kz := 1) rfl dX7_joinEqualEdges_50 f_7_9 rfl rfl hS.sh hS.r1 ?_
      refine x_iload_n (p2 := 54) rfl dX7_joinEqualEdges_53 rfl ?_
      refine x_iconst (p2 := 55) rfl dX7_joinEqualEdges_54 ⟨by decide, by decide⟩ ?_
      refine x_iast (p2 := 56) rfl dX7_joinEqualEdges_55 hS.a1 (by omega) (by omega) ?_
      rw [st3_u1]
      refine x_vret dX7_joinEqualEdges_56 rfl ?_
      first
        | exact k0 (fun z => hc7 z.1)
        | exact k0 (fun z => hc22 z.2)
        | exact k1 ⟨hc7, hc22⟩
def ga1 (b f : Int) : Nat → Int → (Int → Int) → Int → (Int → Int) × Int
  | 0, _, tg, c => (tg, c)
  | m + 1, k, tg, c => if tg (2 * f + k) = b then ga1 b f m (k + 1) (upf tg (2 * f + k) (tg (2 * b + 0))) (c + 1) else ga1 b f m (k + 1) tg c
def jnE (f : Int) (ex tg : Int → Int) : Int → Int := if ex f = 2 ∧ tg (2 * f + 0) = tg (2 * f + 1) then upf ex f 1 else ex
def jnC (f : Int) (ex tg ct : Int → Int) : Int → Int := if ex f = 2 ∧ tg (2 * f + 0) = tg (2 * f + 1) then upf ct (2 * f + 0) (if ct (2 * f + 0) + ct (2 * f + 1) < 99 then ct (2 * f + 0) + ct (2 * f + 1) else 99) else ct
def ga2 (b : Int) : Nat → Int → (Int → Int) → (Int → Int) → (Int → Int) → Int → (Int → Int) × (Int → Int) × (Int → Int) × Int
  | 0, _, ex, tg, ct, c => (ex, tg, ct, c)
  | m + 1, f, ex, tg, ct, c => ga2 b m (f + 1) (jnE f ex (ga1 b f (ex f).toNat 0 tg c).1) (ga1 b f (ex f).toNat 0 tg c).1 (jnC f ex (ga1 b f (ex f).toNat 0 tg c).1 ct) (ga1 b f (ex f).toNat 0 tg c).2
set_option maxHeartbeats 4000000 in
theorem t_ga_l1 {S F : Nat} {b f : Int} {ex ct : Int → Int} (hS : isSt σ ρ S F) (hb : 0 ≤ b ∧ b < 8) (hf : 0 ≤ f ∧ f < 8) (hx : ex f ≤ 2) : ∀ (n : Nat) (k c : Int) (tg : Int → Int), 0 ≤ k → k + n = ex f → 0 ≤ c → c ≤ 2 * f + k → xX G mX7_goAround 0 0 62 [(0, xP S), (1, xI b), (2, xI (ga1 b f n k tg c).2), (3, xI f)] [] (σ, ρ, st3 M S ex (ga1 b f n k tg c).1 ct) Q → xX G mX7_goAround 0 0 18 [(0, xP S), (1, xI b), (2, xI c), (3, xI f), (4, xI k)] [] (σ, ρ, st3 M S ex tg ct) Q := by
  intro n
  induction n with
  | zero =>
    intro k c tg h0 hk hc1 hc2 hq
    refine x_iload (p2 := 20) rfl dX7_goAround_18 rfl ?_
    refine x_aload_n (p2 := 21) rfl dX7_goAround_20 rfl ?_
    refine x_getr (p2 := 24) (kz := 1) rfl dX7_goAround_21 f_7_9 rfl rfl hS.sh hS.r1 ?_
    refine x_iload_n (p2 := 25) rfl dX7_goAround_24 rfl ?_
    refine x_iald (p2 := 26) rfl dX7_goAround_25 hS.a1 (by omega) (by omega) ?_
    rw [st3_1]
    refine x_ic_ge (p2 := 29) (t := 62) (by decide) rfl dX7_goAround_26 (fun hc26 => ?_) (fun hc26 => absurd hc26 (by omega))
    refine x_pick (L2 := [(0, _), (1, _), (2, _), (3, _)]) [0, 1, 2, 3] rfl ?_
    exact hq
  | succ n ih =>
    intro k c tg h0 hk hc1 hc2 hq
    unfold ga1 at hq
    refine x_iload (p2 := 20) rfl dX7_goAround_18 rfl ?_
    refine x_aload_n (p2 := 21) rfl dX7_goAround_20 rfl ?_
    refine x_getr (p2 := 24) (kz := 1) rfl dX7_goAround_21 f_7_9 rfl rfl hS.sh hS.r1 ?_
    refine x_iload_n (p2 := 25) rfl dX7_goAround_24 rfl ?_
    refine x_iald (p2 := 26) rfl dX7_goAround_25 hS.a1 (by omega) (by omega) ?_
    rw [st3_1]
    refine x_ic_ge (p2 := 29) (t := 62) (by decide) rfl dX7_goAround_26 (fun hc26 => ?_) (fun hc26 => ?_)
    · exact absurd hc26 (by omega)
    refine x_aload_n (p2 := 30) rfl dX7_goAround_29 rfl ?_
    refine x_iload_n (p2 := 31) rfl dX7_goAround_30 rfl ?_
    refine x_iload (p2 := 33) rfl dX7_goAround_31 rfl ?_
    refine x_v2 (p2 := 36) rfl dX7_goAround_33 l_7_53 ok_X7_target rfl hS.sh rfl ?_
    refine t_X7_target hS (by omega) (by omega) (by omega) (by omega) ?_
    rw [st3_2]
    refine x_iload_n (p2 := 37) rfl dX7_goAround_36 rfl ?_
    refine x_ic_ne (p2 := 40) (t := 56) (by decide) rfl dX7_goAround_37 (fun hc37 => ?_) (fun hc37 => ?_)
    · skip
      refine x_iinc (p2 := 59) (L2 := [(0, _), (1, _), (2, _), (3, _), (4, _)]) rfl dX7_goAround_56 rfl ⟨by omega, by omega⟩ ⟨rfl, Nat.le_of_ble_eq_true rfl⟩ rfl ?_
      refine x_goto (t := 18) (by decide) dX7_goAround_59 ?_
      refine x_pick (L2 := [(0, _), (1, _), (2, _), (3, _), (4, _)]) [0, 1, 2, 3, 4] rfl ?_
      first
        | (rw [if_pos hc37] at hq; exact ih _ _ _ (by omega) (by omega) (by omega) (by omega) hq)
        | (rw [if_neg hc37] at hq; exact ih _ _ _ (by omega) (by omega) (by omega) (by omega) hq)
    · skip
      refine x_aload_n (p2 := 41) rfl dX7_goAround_40 rfl ?_
      refine x_iload_n (p2 := 42) rfl dX7_goAround_41 rfl ?_
      refine x_iload (p2 := 44) rfl dX7_goAround_42 rfl ?_
      refine x_aload_n (p2 := 45) rfl dX7_goAround_44 rfl ?_
      refine x_iload_n (p2 := 46) rfl dX7_goAround_45 rfl ?_
      refine x_iconst (p2 := 47) rfl dX7_goAround_46 ⟨by decide, by decide⟩ ?_
      refine x_v2 (p2 := 50) rfl dX7_goAround_47 l_7_53 ok_X7_target rfl hS.sh rfl ?_
      refine t_X7_target hS (by omega) (by omega) (by omega) (by omega) ?_
      rw [st3_2]
      refine x_v3 (p2 := 53) rfl dX7_goAround_50 l_7_80 ok_X7_putTarget rfl hS.sh rfl ?_
      refine t_X7_putTarget hS (by omega) (by omega) (by omega) (by omega) ?_
      rw [st3_u2]
      refine x_iinc (p2 := 56) (L2 := [(0, _), (1, _), (2, _), (3, _), (4, _)]) rfl dX7_goAround_53 rfl ⟨by omega, by omega⟩ ⟨rfl, Nat.le_of_ble_eq_true rfl⟩ rfl ?_
      refine x_iinc (p2 := 59) (L2 := [(0, _), (1, _), (2, _), (3, _), (4, _)]) rfl dX7_goAround_56 rfl ⟨by omega, by omega⟩ ⟨rfl, Nat.le_of_ble_eq_true rfl⟩ rfl ?_
      refine x_goto (t := 18) (by decide) dX7_goAround_59 ?_
      refine x_pick (L2 := [(0, _), (1, _), (2, _), (3, _), (4, _)]) [0, 1, 2, 3, 4] rfl ?_
      first
        | (rw [if_pos hc37] at hq; exact ih _ _ _ (by omega) (by omega) (by omega) (by omega) hq)
        | (rw [if_neg hc37] at hq; exact ih _ _ _ (by omega) (by omega) (by omega) (by omega) hq)
/-- the rows at block f on: as they were; below: still rows of a graph -/
def gaI (n : Int) (ex ct : Int → Int) : Prop := (∀ x, 0 ≤ x → x < n → 0 ≤ ex x ∧ ex x ≤ 2 ∧ (ex x = 2 → 0 ≤ ct (2 * x + 0) ∧ ct (2 * x + 0) ≤ 99 ∧ 0 ≤ ct (2 * x + 1) ∧ ct (2 * x + 1) ≤ 99))
theorem ga1_c {b f : Int} : ∀ (m : Nat) (k : Int) (tg : Int → Int) (c : Int), c ≤ (ga1 b f m k tg c).2 ∧ (ga1 b f m k tg c).2 ≤ c + m
  | 0, k, tg, c => by unfold ga1; dsimp only; omega
  | m + 1, k, tg, c => by
    unfold ga1
    split
    · have := ga1_c (b := b) (f := f) m (k + 1) (upf tg (2 * f + k) (tg (2 * b + 0))) (c + 1)
      omega
    · have := ga1_c (b := b) (f := f) m (k + 1) tg c
      omega
theorem gaI_jn {n f : Int} {ex tg ct : Int → Int} (h : gaI n ex ct) (hf : 0 ≤ f ∧ f < n) : gaI n (jnE f ex tg) (jnC f ex tg ct) := by
  intro x h0 h1
  have hx := h x h0 h1
  have hy := h f hf.1 hf.2
  unfold jnE jnC
  split
  · rename_i hc
    have h9 := hy.2.2 hc.1
    by_cases hxf : x = f
    · subst hxf
      rw [upf_s]
      refine ⟨by omega, by omega, fun z => by omega⟩
    · rw [upf_n hxf, upf_n (by omega), upf_n (by omega)]
      exact hx
  · exact hx
set_option maxHeartbeats 4000000 in
theorem t_ga_l2 {S F : Nat} {b : Int} (hS : isSt σ ρ S F) (hn : M F 0 ≤ 8) (hb : 0 ≤ b ∧ b < 8) : ∀ (n : Nat) (f c : Int) (ex tg ct : Int → Int), 0 ≤ f → f + n = M F 0 → 0 ≤ c → c ≤ 2 * f → gaI (M F 0) ex ct → Q (some (xI (ga2 b n f ex tg ct c).2.2.2)) (σ, ρ, xu (st3 M S (ga2 b n f ex tg ct c).1 (ga2 b n f ex tg ct c).2.1 (ga2 b n f ex tg ct c).2.2.1) (S + 3) (2 * b + 0) 0) → xX G mX7_goAround 0 0 4 [(0, xP S), (1, xI b), (2, xI c), (3, xI f)] [] (σ, ρ, st3 M S ex tg ct) Q := by
  intro n
  induction n with
  | zero =>
    intro f c ex tg ct h0 hk hc1 hc2 hI hq
    have e0 : st3 M S ex tg ct F 0 = M F 0 := by rw [st3_n (by have := hS.lt; omega) (by have := hS.lt; omega) (by have := hS.lt; omega)]
    refine x_iload_n (p2 := 5) rfl dX7_goAround_4 rfl ?_
    refine x_aload_n (p2 := 6) rfl dX7_goAround_5 rfl ?_
    refine x_getr (p2 := 9) (kz := 0) rfl dX7_goAround_6 f_7_31 rfl rfl hS.sh hS.r0 ?_
    refine x_geti (p2 := 12) (kz := 0) rfl dX7_goAround_9 f_7_41 rfl rfl hS.fr.sh ?_
    refine x_ic_ge (p2 := 15) (t := 73) (by decide) rfl dX7_goAround_12 (fun hc12 => ?_) (fun hc12 => absurd hc12 (by omega))
    refine x_aload_n (p2 := 74) rfl dX7_goAround_73 rfl ?_
    refine x_iload_n (p2 := 75) rfl dX7_goAround_74 rfl ?_
    refine x_iconst (p2 := 76) rfl dX7_goAround_75 ⟨by decide, by decide⟩ ?_
    refine x_iconst (p2 := 77) rfl dX7_goAround_76 ⟨by decide, by decide⟩ ?_
    refine x_v3 (p2 := 80) rfl dX7_goAround_77 l_7_88 ok_X7_putCount rfl hS.sh rfl ?_
    refine t_X7_putCount hS (by omega) (by omega) (by omega) (by omega) ?_
    rw [st3_u3]
    refine x_iload_n (p2 := 81) rfl dX7_goAround_80 rfl ?_
    refine x_iret dX7_goAround_81 rfl ?_
    rw [← st3_u3]; exact hq
  | succ n ih =>
    intro f c ex tg ct h0 hk hc1 hc2 hI hq
    have e0 : st3 M S ex tg ct F 0 = M F 0 := by rw [st3_n (by have := hS.lt; omega) (by have := hS.lt; omega) (by have := hS.lt; omega)]
    have hx := hI f h0 (by omega)
    unfold ga2 at hq
    refine x_iload_n (p2 := 5) rfl dX7_goAround_4 rfl ?_
    refine x_aload_n (p2 := 6) rfl dX7_goAround_5 rfl ?_
    refine x_getr (p2 := 9) (kz := 0) rfl dX7_goAround_6 f_7_31 rfl rfl hS.sh hS.r0 ?_
    refine x_geti (p2 := 12) (kz := 0) rfl dX7_goAround_9 f_7_41 rfl rfl hS.fr.sh ?_
    refine x_ic_ge (p2 := 15) (t := 73) (by decide) rfl dX7_goAround_12 (fun hc12 => ?_) (fun hc12 => ?_)
    · exact absurd hc12 (by omega)
    refine x_iconst (p2 := 16) rfl dX7_goAround_15 ⟨by decide, by decide⟩ ?_
    refine x_istore (p2 := 18) (i := 4) (L2 := [(0, _), (1, _), (2, _), (3, _), (4, _)]) rfl dX7_goAround_16 ⟨rfl, Nat.le_of_ble_eq_true rfl⟩ rfl ?_
    refine x_pick (L2 := [(0, _), (1, _), (2, _), (3, _), (4, _)]) [0, 1, 2, 3, 4] rfl ?_
    refine t_ga_l1 hS hb (by omega) hx.2.1 (ex f).toNat 0 c tg (by omega) (by omega) (by omega) (by omega) ?_
    have hz := ga1_c (b := b) (f := f) (ex f).toNat 0 tg c
    generalize ga1 b f (ex f).toNat 0 tg c = z at hq hz ⊢
    refine x_aload_n rfl dX7_goAround_62 rfl ?_
    refine x_iload_n rfl dX7_goAround_63 rfl ?_
    refine x_v1 rfl dX7_goAround_64 l_7_84 ok_X7_joinEqualEdges rfl hS.sh rfl ?_
    refine t_X7_joinEqualEdges hS (by omega) hx.2.2 (fun hj => ?_) (fun hj => ?_)
    · have e7 : jnE f ex z.1 = _ := if_pos hj
      have e8 : jnC f ex z.1 ct = _ := if_pos hj
      rw [e7, e8] at hq
      have hI2 := gaI_jn (tg := z.1) hI (by omega : 0 ≤ f ∧ f < M F 0)
      rw [e7, e8] at hI2
      refine x_iinc (p2 := 70) (L2 := [(0, _), (1, _), (2, _), (3, _)]) rfl dX7_goAround_67 rfl ⟨by omega, by omega⟩ ⟨rfl, Nat.le_of_ble_eq_true rfl⟩ rfl ?_
      refine x_goto (t := 4) (by decide) dX7_goAround_70 ?_
      refine x_pick (L2 := [(0, _), (1, _), (2, _), (3, _)]) [0, 1, 2, 3] rfl ?_
      exact ih _ _ _ _ _ (by omega) (by omega) (by omega) (by omega) hI2 hq
    · have e7 : jnE f ex z.1 = _ := if_neg hj
      have e8 : jnC f ex z.1 ct = _ := if_neg hj
      rw [e7, e8] at hq
      have hI2 := gaI_jn (tg := z.1) hI (by omega : 0 ≤ f ∧ f < M F 0)
      rw [e7, e8] at hI2
      refine x_iinc (p2 := 70) (L2 := [(0, _), (1, _), (2, _), (3, _)]) rfl dX7_goAround_67 rfl ⟨by omega, by omega⟩ ⟨rfl, Nat.le_of_ble_eq_true rfl⟩ rfl ?_
      refine x_goto (t := 4) (by decide) dX7_goAround_70 ?_
      refine x_pick (L2 := [(0, _), (1, _), (2, _), (3, _)]) [0, 1, 2, 3] rfl ?_
      exact ih _ _ _ _ _ (by omega) (by omega) (by omega) (by omega) hI2 hq
set_option maxHeartbeats 4000000 in
theorem t_X7_goAround {S F : Nat} {b : Int} (hS : isSt σ ρ S F) (hG : wfG (M F 0) (M (S + 1)) (M (S + 2)) (M (S + 3))) (hb : 0 ≤ b ∧ b < M F 0) (hq : Q (some (xI (ga2 b (M F 0).toNat 0 (M (S + 1)) (M (S + 2)) (M (S + 3)) 0).2.2.2)) (σ, ρ, xu (st3 M S (ga2 b (M F 0).toNat 0 (M (S + 1)) (M (S + 2)) (M (S + 3)) 0).1 (ga2 b (M F 0).toNat 0 (M (S + 1)) (M (S + 2)) (M (S + 3)) 0).2.1 (ga2 b (M F 0).toNat 0 (M (S + 1)) (M (S + 2)) (M (S + 3)) 0).2.2.1) (S + 3) (2 * b + 0) 0)) : xX G mX7_goAround 0 0 0 [(0, xP S), (1, xI b)] [] (σ, ρ, M) Q := by
  have hn1 := hG.1
  have hn8 := hG.2.1
  refine x_iconst (p2 := 1) rfl dX7_goAround_0 ⟨by decide, by decide⟩ ?_
  refine x_istore_n (p2 := 2) (i := 2) (L2 := [(0, _), (1, _), (2, _)]) rfl dX7_goAround_1 rfl ⟨rfl, Nat.le_of_ble_eq_true rfl⟩ rfl ?_
  refine x_iconst (p2 := 3) rfl dX7_goAround_2 ⟨by decide, by decide⟩ ?_
  refine x_istore_n (p2 := 4) (i := 3) (L2 := [(0, _), (1, _), (2, _), (3, _)]) rfl dX7_goAround_3 rfl ⟨rfl, Nat.le_of_ble_eq_true rfl⟩ rfl ?_
  refine x_pick (L2 := [(0, _), (1, _), (2, _), (3, _)]) [0, 1, 2, 3] rfl ?_
  rw [show (σ, ρ, M) = (σ, ρ, st3 M S (M (S + 1)) (M (S + 2)) (M (S + 3))) by rw [st3_id]]
  refine t_ga_l2 hS hn8 (by omega) _ _ _ _ _ _ (by omega) (by omega) (by omega) (by omega) (fun x a1 a2 => ?_) hq
  have hw := hG.2.2 x a1 a2
  refine ⟨hw.1, hw.2.1, fun z => ?_⟩
  have h1 := hw.2.2.1 0 (by omega) (by omega)
  have h2 := hw.2.2.1 1 (by omega) (by omega)
  omega
end XU
end
