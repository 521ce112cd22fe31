-- ===== PART A: goes FIRST, ahead of the names: the tables' words, and 'selects' of the private methods out of them =====
/-- a private method of a class that the tables say can be made, by its rows of tables_1 -/
def lw_okq (q : MethodName × Nat) : Prop := (q.1.cls ≠ "java/lang/invoke/MethodHandle" ∧ q.1.cls ≠ "java/lang/invoke/VarHandle") ∧ Cond.instantiable q.1.cls q.2 ∈ tables_1 ∧ Cond.privateMethod q.1 ∈ tables_1 ∧ Cond.instanceMethod q.1 ∈ tables_1
theorem lw_p0 : lw_okq (⟨"MachineBench", "noMachine", "(I)Z"⟩, 16) := ⟨⟨by decide +kernel, by decide +kernel⟩, List.mem_of_getElem? (i := 17) (by decide +kernel), List.mem_of_getElem? (i := 293) (by decide +kernel), List.mem_of_getElem? (i := 294) (by decide +kernel)⟩
theorem lw_p1 : lw_okq (⟨"MachineBench$Reader", "start", "(Z)V"⟩, 7) := ⟨⟨by decide +kernel, by decide +kernel⟩, List.mem_of_getElem? (i := 42) (by decide +kernel), List.mem_of_getElem? (i := 304) (by decide +kernel), List.mem_of_getElem? (i := 305) (by decide +kernel)⟩
theorem lw_p2 : lw_okq (⟨"MachineBench$Reader", "readClause", "(LMachineBench$Machine;I)V"⟩, 7) := ⟨⟨by decide +kernel, by decide +kernel⟩, List.mem_of_getElem? (i := 42) (by decide +kernel), List.mem_of_getElem? (i := 308) (by decide +kernel), List.mem_of_getElem? (i := 309) (by decide +kernel)⟩
theorem lw_p3 : lw_okq (⟨"MachineBench$Reader", "takeDigit", "()I"⟩, 7) := ⟨⟨by decide +kernel, by decide +kernel⟩, List.mem_of_getElem? (i := 42) (by decide +kernel), List.mem_of_getElem? (i := 312) (by decide +kernel), List.mem_of_getElem? (i := 313) (by decide +kernel)⟩
theorem lw_p4 : lw_okq (⟨"MachineBench$Reader", "nextSign", "()I"⟩, 7) := ⟨⟨by decide +kernel, by decide +kernel⟩, List.mem_of_getElem? (i := 42) (by decide +kernel), List.mem_of_getElem? (i := 316) (by decide +kernel), List.mem_of_getElem? (i := 317) (by decide +kernel)⟩
theorem lw_p5 : lw_okq (⟨"MachineBench$Reader", "readTest", "(I)V"⟩, 7) := ⟨⟨by decide +kernel, by decide +kernel⟩, List.mem_of_getElem? (i := 42) (by decide +kernel), List.mem_of_getElem? (i := 321) (by decide +kernel), List.mem_of_getElem? (i := 322) (by decide +kernel)⟩
theorem lw_p6 : lw_okq (⟨"MachineBench$Reader", "readCase", "(I)V"⟩, 7) := ⟨⟨by decide +kernel, by decide +kernel⟩, List.mem_of_getElem? (i := 42) (by decide +kernel), List.mem_of_getElem? (i := 326) (by decide +kernel), List.mem_of_getElem? (i := 327) (by decide +kernel)⟩
theorem lw_p7 : lw_okq (⟨"MachineBench$Reader", "readClaim", "(I)V"⟩, 7) := ⟨⟨by decide +kernel, by decide +kernel⟩, List.mem_of_getElem? (i := 42) (by decide +kernel), List.mem_of_getElem? (i := 330) (by decide +kernel), List.mem_of_getElem? (i := 331) (by decide +kernel)⟩
theorem lw_p8 : lw_okq (⟨"MachineBench$Reader", "takes", "(C)Z"⟩, 7) := ⟨⟨by decide +kernel, by decide +kernel⟩, List.mem_of_getElem? (i := 42) (by decide +kernel), List.mem_of_getElem? (i := 334) (by decide +kernel), List.mem_of_getElem? (i := 335) (by decide +kernel)⟩
theorem lw_p9 : lw_okq (⟨"MachineBench$Reader", "claimWords", "(IZ)V"⟩, 7) := ⟨⟨by decide +kernel, by decide +kernel⟩, List.mem_of_getElem? (i := 42) (by decide +kernel), List.mem_of_getElem? (i := 340) (by decide +kernel), List.mem_of_getElem? (i := 341) (by decide +kernel)⟩
theorem lw_p10 : lw_okq (⟨"MachineBench$Reader", "need", "(C)V"⟩, 7) := ⟨⟨by decide +kernel, by decide +kernel⟩, List.mem_of_getElem? (i := 42) (by decide +kernel), List.mem_of_getElem? (i := 345) (by decide +kernel), List.mem_of_getElem? (i := 346) (by decide +kernel)⟩
theorem lw_p11 : lw_okq (⟨"MachineBench$Reader", "needEnd", "()V"⟩, 7) := ⟨⟨by decide +kernel, by decide +kernel⟩, List.mem_of_getElem? (i := 42) (by decide +kernel), List.mem_of_getElem? (i := 352) (by decide +kernel), List.mem_of_getElem? (i := 353) (by decide +kernel)⟩
theorem lw_p12 : lw_okq (⟨"MachineBench", "noTick", "(I)Z"⟩, 16) := ⟨⟨by decide +kernel, by decide +kernel⟩, List.mem_of_getElem? (i := 17) (by decide +kernel), List.mem_of_getElem? (i := 372) (by decide +kernel), List.mem_of_getElem? (i := 373) (by decide +kernel)⟩
theorem lw_p13 : lw_okq (⟨"MachineBench", "noSheet", "(I)Z"⟩, 16) := ⟨⟨by decide +kernel, by decide +kernel⟩, List.mem_of_getElem? (i := 17) (by decide +kernel), List.mem_of_getElem? (i := 380) (by decide +kernel), List.mem_of_getElem? (i := 381) (by decide +kernel)⟩
theorem lw_p14 : lw_okq (⟨"MachineBench", "playAsIs", "(LMachineBench$Machine;)V"⟩, 16) := ⟨⟨by decide +kernel, by decide +kernel⟩, List.mem_of_getElem? (i := 17) (by decide +kernel), List.mem_of_getElem? (i := 401) (by decide +kernel), List.mem_of_getElem? (i := 402) (by decide +kernel)⟩
theorem lw_p15 : lw_okq (⟨"MachineBench", "noLine", "(I)Z"⟩, 16) := ⟨⟨by decide +kernel, by decide +kernel⟩, List.mem_of_getElem? (i := 17) (by decide +kernel), List.mem_of_getElem? (i := 460) (by decide +kernel), List.mem_of_getElem? (i := 461) (by decide +kernel)⟩
def lw_privs_1 : List (MethodName × Nat) := [(⟨"MachineBench", "noMachine", "(I)Z"⟩, 16), (⟨"MachineBench$Reader", "start", "(Z)V"⟩, 7), (⟨"MachineBench$Reader", "readClause", "(LMachineBench$Machine;I)V"⟩, 7), (⟨"MachineBench$Reader", "takeDigit", "()I"⟩, 7), (⟨"MachineBench$Reader", "nextSign", "()I"⟩, 7), (⟨"MachineBench$Reader", "readTest", "(I)V"⟩, 7), (⟨"MachineBench$Reader", "readCase", "(I)V"⟩, 7), (⟨"MachineBench$Reader", "readClaim", "(I)V"⟩, 7), (⟨"MachineBench$Reader", "takes", "(C)Z"⟩, 7), (⟨"MachineBench$Reader", "claimWords", "(IZ)V"⟩, 7), (⟨"MachineBench$Reader", "need", "(C)V"⟩, 7), (⟨"MachineBench$Reader", "needEnd", "()V"⟩, 7), (⟨"MachineBench", "noTick", "(I)Z"⟩, 16), (⟨"MachineBench", "noSheet", "(I)Z"⟩, 16), (⟨"MachineBench", "playAsIs", "(LMachineBench$Machine;)V"⟩, 16), (⟨"MachineBench", "noLine", "(I)Z"⟩, 16)]
theorem lw_r1 : ∀ q ∈ lw_privs_1, lw_okq q := List.forall_mem_cons.mpr ⟨lw_p0, List.forall_mem_cons.mpr ⟨lw_p1, List.forall_mem_cons.mpr ⟨lw_p2, List.forall_mem_cons.mpr ⟨lw_p3, List.forall_mem_cons.mpr ⟨lw_p4, List.forall_mem_cons.mpr ⟨lw_p5, List.forall_mem_cons.mpr ⟨lw_p6, List.forall_mem_cons.mpr ⟨lw_p7, List.forall_mem_cons.mpr ⟨lw_p8, List.forall_mem_cons.mpr ⟨lw_p9, List.forall_mem_cons.mpr ⟨lw_p10, List.forall_mem_cons.mpr ⟨lw_p11, List.forall_mem_cons.mpr ⟨lw_p12, List.forall_mem_cons.mpr ⟨lw_p13, List.forall_mem_cons.mpr ⟨lw_p14, List.forall_mem_cons.mpr ⟨lw_p15, fun _ h => absurd h List.not_mem_nil⟩⟩⟩⟩⟩⟩⟩⟩⟩⟩⟩⟩⟩⟩⟩⟩
theorem lw_p16 : lw_okq (⟨"MachineBench", "countHolders", "()I"⟩, 16) := ⟨⟨by decide +kernel, by decide +kernel⟩, List.mem_of_getElem? (i := 17) (by decide +kernel), List.mem_of_getElem? (i := 464) (by decide +kernel), List.mem_of_getElem? (i := 465) (by decide +kernel)⟩
theorem lw_p17 : lw_okq (⟨"MachineBench", "isHeld", "(II)Z"⟩, 16) := ⟨⟨by decide +kernel, by decide +kernel⟩, List.mem_of_getElem? (i := 17) (by decide +kernel), List.mem_of_getElem? (i := 468) (by decide +kernel), List.mem_of_getElem? (i := 469) (by decide +kernel)⟩
theorem lw_p18 : lw_okq (⟨"MachineBench", "noKeeper", "(I)Z"⟩, 16) := ⟨⟨by decide +kernel, by decide +kernel⟩, List.mem_of_getElem? (i := 17) (by decide +kernel), List.mem_of_getElem? (i := 499) (by decide +kernel), List.mem_of_getElem? (i := 500) (by decide +kernel)⟩
theorem lw_p19 : lw_okq (⟨"MachineBench", "seeByBook", "()V"⟩, 16) := ⟨⟨by decide +kernel, by decide +kernel⟩, List.mem_of_getElem? (i := 17) (by decide +kernel), List.mem_of_getElem? (i := 520) (by decide +kernel), List.mem_of_getElem? (i := 521) (by decide +kernel)⟩
theorem lw_p20 : lw_okq (⟨"MachineBench", "isUnlikePlayed", "(III)Z"⟩, 16) := ⟨⟨by decide +kernel, by decide +kernel⟩, List.mem_of_getElem? (i := 17) (by decide +kernel), List.mem_of_getElem? (i := 524) (by decide +kernel), List.mem_of_getElem? (i := 525) (by decide +kernel)⟩
theorem lw_p21 : lw_okq (⟨"MachineBench", "comesOtherwise", "(I)Z"⟩, 16) := ⟨⟨by decide +kernel, by decide +kernel⟩, List.mem_of_getElem? (i := 17) (by decide +kernel), List.mem_of_getElem? (i := 540) (by decide +kernel), List.mem_of_getElem? (i := 541) (by decide +kernel)⟩
theorem lw_p22 : lw_okq (⟨"MachineBench", "comesWithRules", "(I)Z"⟩, 16) := ⟨⟨by decide +kernel, by decide +kernel⟩, List.mem_of_getElem? (i := 17) (by decide +kernel), List.mem_of_getElem? (i := 548) (by decide +kernel), List.mem_of_getElem? (i := 549) (by decide +kernel)⟩
theorem lw_p23 : lw_okq (⟨"MachineBench", "noDoing", "()Z"⟩, 16) := ⟨⟨by decide +kernel, by decide +kernel⟩, List.mem_of_getElem? (i := 17) (by decide +kernel), List.mem_of_getElem? (i := 579) (by decide +kernel), List.mem_of_getElem? (i := 580) (by decide +kernel)⟩
theorem lw_p24 : lw_okq (⟨"MachineBench", "leastSet", "(Z)I"⟩, 16) := ⟨⟨by decide +kernel, by decide +kernel⟩, List.mem_of_getElem? (i := 17) (by decide +kernel), List.mem_of_getElem? (i := 587) (by decide +kernel), List.mem_of_getElem? (i := 588) (by decide +kernel)⟩
theorem lw_p25 : lw_okq (⟨"MachineBench", "tryAllSets", "()V"⟩, 16) := ⟨⟨by decide +kernel, by decide +kernel⟩, List.mem_of_getElem? (i := 17) (by decide +kernel), List.mem_of_getElem? (i := 591) (by decide +kernel), List.mem_of_getElem? (i := 592) (by decide +kernel)⟩
theorem lw_p26 : lw_okq (⟨"MachineBench", "isEnough", "(I)Z"⟩, 16) := ⟨⟨by decide +kernel, by decide +kernel⟩, List.mem_of_getElem? (i := 17) (by decide +kernel), List.mem_of_getElem? (i := 601) (by decide +kernel), List.mem_of_getElem? (i := 602) (by decide +kernel)⟩
theorem lw_p27 : lw_okq (⟨"MachineBench", "isBecause", "(I)Z"⟩, 16) := ⟨⟨by decide +kernel, by decide +kernel⟩, List.mem_of_getElem? (i := 17) (by decide +kernel), List.mem_of_getElem? (i := 605) (by decide +kernel), List.mem_of_getElem? (i := 606) (by decide +kernel)⟩
theorem lw_p28 : lw_okq (⟨"MachineBench", "comesWithMakers", "(I)Z"⟩, 16) := ⟨⟨by decide +kernel, by decide +kernel⟩, List.mem_of_getElem? (i := 17) (by decide +kernel), List.mem_of_getElem? (i := 621) (by decide +kernel), List.mem_of_getElem? (i := 622) (by decide +kernel)⟩
theorem lw_p29 : lw_okq (⟨"MachineBenchModel", "clause", "(I)V"⟩, 46) := ⟨⟨by decide +kernel, by decide +kernel⟩, List.mem_of_getElem? (i := 678) (by decide +kernel), List.mem_of_getElem? (i := 841) (by decide +kernel), List.mem_of_getElem? (i := 842) (by decide +kernel)⟩
theorem lw_p30 : lw_okq (⟨"MachineBenchModel", "digit", "()I"⟩, 46) := ⟨⟨by decide +kernel, by decide +kernel⟩, List.mem_of_getElem? (i := 678) (by decide +kernel), List.mem_of_getElem? (i := 845) (by decide +kernel), List.mem_of_getElem? (i := 846) (by decide +kernel)⟩
theorem lw_p31 : lw_okq (⟨"MachineBenchModel", "next", "()I"⟩, 46) := ⟨⟨by decide +kernel, by decide +kernel⟩, List.mem_of_getElem? (i := 678) (by decide +kernel), List.mem_of_getElem? (i := 849) (by decide +kernel), List.mem_of_getElem? (i := 850) (by decide +kernel)⟩
def lw_privs_2 : List (MethodName × Nat) := [(⟨"MachineBench", "countHolders", "()I"⟩, 16), (⟨"MachineBench", "isHeld", "(II)Z"⟩, 16), (⟨"MachineBench", "noKeeper", "(I)Z"⟩, 16), (⟨"MachineBench", "seeByBook", "()V"⟩, 16), (⟨"MachineBench", "isUnlikePlayed", "(III)Z"⟩, 16), (⟨"MachineBench", "comesOtherwise", "(I)Z"⟩, 16), (⟨"MachineBench", "comesWithRules", "(I)Z"⟩, 16), (⟨"MachineBench", "noDoing", "()Z"⟩, 16), (⟨"MachineBench", "leastSet", "(Z)I"⟩, 16), (⟨"MachineBench", "tryAllSets", "()V"⟩, 16), (⟨"MachineBench", "isEnough", "(I)Z"⟩, 16), (⟨"MachineBench", "isBecause", "(I)Z"⟩, 16), (⟨"MachineBench", "comesWithMakers", "(I)Z"⟩, 16), (⟨"MachineBenchModel", "clause", "(I)V"⟩, 46), (⟨"MachineBenchModel", "digit", "()I"⟩, 46), (⟨"MachineBenchModel", "next", "()I"⟩, 46)]
theorem lw_r2 : ∀ q ∈ lw_privs_2, lw_okq q := List.forall_mem_cons.mpr ⟨lw_p16, List.forall_mem_cons.mpr ⟨lw_p17, List.forall_mem_cons.mpr ⟨lw_p18, List.forall_mem_cons.mpr ⟨lw_p19, List.forall_mem_cons.mpr ⟨lw_p20, List.forall_mem_cons.mpr ⟨lw_p21, List.forall_mem_cons.mpr ⟨lw_p22, List.forall_mem_cons.mpr ⟨lw_p23, List.forall_mem_cons.mpr ⟨lw_p24, List.forall_mem_cons.mpr ⟨lw_p25, List.forall_mem_cons.mpr ⟨lw_p26, List.forall_mem_cons.mpr ⟨lw_p27, List.forall_mem_cons.mpr ⟨lw_p28, List.forall_mem_cons.mpr ⟨lw_p29, List.forall_mem_cons.mpr ⟨lw_p30, List.forall_mem_cons.mpr ⟨lw_p31, fun _ h => absurd h List.not_mem_nil⟩⟩⟩⟩⟩⟩⟩⟩⟩⟩⟩⟩⟩⟩⟩⟩
theorem lw_p32 : lw_okq (⟨"MachineBenchModel", "test", "(IIZ)Z"⟩, 46) := ⟨⟨by decide +kernel, by decide +kernel⟩, List.mem_of_getElem? (i := 678) (by decide +kernel), List.mem_of_getElem? (i := 855) (by decide +kernel), List.mem_of_getElem? (i := 856) (by decide +kernel)⟩
theorem lw_p33 : lw_okq (⟨"MachineBenchModel", "passes", "(I)Z"⟩, 46) := ⟨⟨by decide +kernel, by decide +kernel⟩, List.mem_of_getElem? (i := 678) (by decide +kernel), List.mem_of_getElem? (i := 859) (by decide +kernel), List.mem_of_getElem? (i := 860) (by decide +kernel)⟩
theorem lw_p34 : lw_okq (⟨"MachineBenchModel", "claim", "(IIZ)Z"⟩, 46) := ⟨⟨by decide +kernel, by decide +kernel⟩, List.mem_of_getElem? (i := 678) (by decide +kernel), List.mem_of_getElem? (i := 863) (by decide +kernel), List.mem_of_getElem? (i := 864) (by decide +kernel)⟩
theorem lw_p35 : lw_okq (⟨"MachineBenchModel", "isTick", "(I)Z"⟩, 46) := ⟨⟨by decide +kernel, by decide +kernel⟩, List.mem_of_getElem? (i := 678) (by decide +kernel), List.mem_of_getElem? (i := 881) (by decide +kernel), List.mem_of_getElem? (i := 882) (by decide +kernel)⟩
theorem lw_p36 : lw_okq (⟨"MachineBenchModel", "finds", "(IIII)I"⟩, 46) := ⟨⟨by decide +kernel, by decide +kernel⟩, List.mem_of_getElem? (i := 678) (by decide +kernel), List.mem_of_getElem? (i := 894) (by decide +kernel), List.mem_of_getElem? (i := 895) (by decide +kernel)⟩
theorem lw_p37 : lw_okq (⟨"MachineBenchModel", "lays", "()V"⟩, 46) := ⟨⟨by decide +kernel, by decide +kernel⟩, List.mem_of_getElem? (i := 678) (by decide +kernel), List.mem_of_getElem? (i := 906) (by decide +kernel), List.mem_of_getElem? (i := 907) (by decide +kernel)⟩
theorem lw_p38 : lw_okq (⟨"MachineBenchModel", "plays", "(II)V"⟩, 46) := ⟨⟨by decide +kernel, by decide +kernel⟩, List.mem_of_getElem? (i := 678) (by decide +kernel), List.mem_of_getElem? (i := 910) (by decide +kernel), List.mem_of_getElem? (i := 911) (by decide +kernel)⟩
theorem lw_p39 : lw_okq (⟨"MachineBenchModel", "chosen", "(III)I"⟩, 46) := ⟨⟨by decide +kernel, by decide +kernel⟩, List.mem_of_getElem? (i := 678) (by decide +kernel), List.mem_of_getElem? (i := 914) (by decide +kernel), List.mem_of_getElem? (i := 915) (by decide +kernel)⟩
theorem lw_p40 : lw_okq (⟨"MachineBenchModel", "writes", "(III)V"⟩, 46) := ⟨⟨by decide +kernel, by decide +kernel⟩, List.mem_of_getElem? (i := 678) (by decide +kernel), List.mem_of_getElem? (i := 926) (by decide +kernel), List.mem_of_getElem? (i := 927) (by decide +kernel)⟩
theorem lw_p41 : lw_okq (⟨"MachineBenchModel", "loses", "(II)I"⟩, 46) := ⟨⟨by decide +kernel, by decide +kernel⟩, List.mem_of_getElem? (i := 678) (by decide +kernel), List.mem_of_getElem? (i := 930) (by decide +kernel), List.mem_of_getElem? (i := 931) (by decide +kernel)⟩
theorem lw_p42 : lw_okq (⟨"MachineBenchModel", "isLine", "(I)Z"⟩, 46) := ⟨⟨by decide +kernel, by decide +kernel⟩, List.mem_of_getElem? (i := 678) (by decide +kernel), List.mem_of_getElem? (i := 944) (by decide +kernel), List.mem_of_getElem? (i := 945) (by decide +kernel)⟩
theorem lw_p43 : lw_okq (⟨"MachineBenchModel", "seal", "()V"⟩, 46) := ⟨⟨by decide +kernel, by decide +kernel⟩, List.mem_of_getElem? (i := 678) (by decide +kernel), List.mem_of_getElem? (i := 949) (by decide +kernel), List.mem_of_getElem? (i := 950) (by decide +kernel)⟩
theorem lw_p44 : lw_okq (⟨"MachineBenchModel", "isHeld", "(I)Z"⟩, 46) := ⟨⟨by decide +kernel, by decide +kernel⟩, List.mem_of_getElem? (i := 678) (by decide +kernel), List.mem_of_getElem? (i := 953) (by decide +kernel), List.mem_of_getElem? (i := 954) (by decide +kernel)⟩
theorem lw_p45 : lw_okq (⟨"MachineBenchModel", "moves", "(II)V"⟩, 46) := ⟨⟨by decide +kernel, by decide +kernel⟩, List.mem_of_getElem? (i := 678) (by decide +kernel), List.mem_of_getElem? (i := 968) (by decide +kernel), List.mem_of_getElem? (i := 969) (by decide +kernel)⟩
theorem lw_p46 : lw_okq (⟨"MachineBenchModel", "comesBy", "(II)Z"⟩, 46) := ⟨⟨by decide +kernel, by decide +kernel⟩, List.mem_of_getElem? (i := 678) (by decide +kernel), List.mem_of_getElem? (i := 1001) (by decide +kernel), List.mem_of_getElem? (i := 1002) (by decide +kernel)⟩
theorem lw_p47 : lw_okq (⟨"MachineBenchModel", "isTold", "()Z"⟩, 46) := ⟨⟨by decide +kernel, by decide +kernel⟩, List.mem_of_getElem? (i := 678) (by decide +kernel), List.mem_of_getElem? (i := 1018) (by decide +kernel), List.mem_of_getElem? (i := 1019) (by decide +kernel)⟩
def lw_privs_3 : List (MethodName × Nat) := [(⟨"MachineBenchModel", "test", "(IIZ)Z"⟩, 46), (⟨"MachineBenchModel", "passes", "(I)Z"⟩, 46), (⟨"MachineBenchModel", "claim", "(IIZ)Z"⟩, 46), (⟨"MachineBenchModel", "isTick", "(I)Z"⟩, 46), (⟨"MachineBenchModel", "finds", "(IIII)I"⟩, 46), (⟨"MachineBenchModel", "lays", "()V"⟩, 46), (⟨"MachineBenchModel", "plays", "(II)V"⟩, 46), (⟨"MachineBenchModel", "chosen", "(III)I"⟩, 46), (⟨"MachineBenchModel", "writes", "(III)V"⟩, 46), (⟨"MachineBenchModel", "loses", "(II)I"⟩, 46), (⟨"MachineBenchModel", "isLine", "(I)Z"⟩, 46), (⟨"MachineBenchModel", "seal", "()V"⟩, 46), (⟨"MachineBenchModel", "isHeld", "(I)Z"⟩, 46), (⟨"MachineBenchModel", "moves", "(II)V"⟩, 46), (⟨"MachineBenchModel", "comesBy", "(II)Z"⟩, 46), (⟨"MachineBenchModel", "isTold", "()Z"⟩, 46)]
theorem lw_r3 : ∀ q ∈ lw_privs_3, lw_okq q := List.forall_mem_cons.mpr ⟨lw_p32, List.forall_mem_cons.mpr ⟨lw_p33, List.forall_mem_cons.mpr ⟨lw_p34, List.forall_mem_cons.mpr ⟨lw_p35, List.forall_mem_cons.mpr ⟨lw_p36, List.forall_mem_cons.mpr ⟨lw_p37, List.forall_mem_cons.mpr ⟨lw_p38, List.forall_mem_cons.mpr ⟨lw_p39, List.forall_mem_cons.mpr ⟨lw_p40, List.forall_mem_cons.mpr ⟨lw_p41, List.forall_mem_cons.mpr ⟨lw_p42, List.forall_mem_cons.mpr ⟨lw_p43, List.forall_mem_cons.mpr ⟨lw_p44, List.forall_mem_cons.mpr ⟨lw_p45, List.forall_mem_cons.mpr ⟨lw_p46, List.forall_mem_cons.mpr ⟨lw_p47, fun _ h => absurd h List.not_mem_nil⟩⟩⟩⟩⟩⟩⟩⟩⟩⟩⟩⟩⟩⟩⟩⟩
theorem lw_p48 : lw_okq (⟨"MachineBenchModel", "leastOf", "(I)I"⟩, 46) := ⟨⟨by decide +kernel, by decide +kernel⟩, List.mem_of_getElem? (i := 678) (by decide +kernel), List.mem_of_getElem? (i := 1026) (by decide +kernel), List.mem_of_getElem? (i := 1027) (by decide +kernel)⟩
theorem lw_p49 : lw_okq (⟨"MachineBenchModel", "tries", "()V"⟩, 46) := ⟨⟨by decide +kernel, by decide +kernel⟩, List.mem_of_getElem? (i := 678) (by decide +kernel), List.mem_of_getElem? (i := 1030) (by decide +kernel), List.mem_of_getElem? (i := 1031) (by decide +kernel)⟩
theorem lw_p50 : lw_okq (⟨"MachineBenchModel", "isSuch", "(II)Z"⟩, 46) := ⟨⟨by decide +kernel, by decide +kernel⟩, List.mem_of_getElem? (i := 678) (by decide +kernel), List.mem_of_getElem? (i := 1034) (by decide +kernel), List.mem_of_getElem? (i := 1035) (by decide +kernel)⟩
theorem lw_p51 : lw_okq (⟨"MachineBenchModel", "actAt", "(I)I"⟩, 46) := ⟨⟨by decide +kernel, by decide +kernel⟩, List.mem_of_getElem? (i := 678) (by decide +kernel), List.mem_of_getElem? (i := 1061) (by decide +kernel), List.mem_of_getElem? (i := 1062) (by decide +kernel)⟩
def lw_privs_4 : List (MethodName × Nat) := [(⟨"MachineBenchModel", "leastOf", "(I)I"⟩, 46), (⟨"MachineBenchModel", "tries", "()V"⟩, 46), (⟨"MachineBenchModel", "isSuch", "(II)Z"⟩, 46), (⟨"MachineBenchModel", "actAt", "(I)I"⟩, 46)]
theorem lw_r4 : ∀ q ∈ lw_privs_4, lw_okq q := List.forall_mem_cons.mpr ⟨lw_p48, List.forall_mem_cons.mpr ⟨lw_p49, List.forall_mem_cons.mpr ⟨lw_p50, List.forall_mem_cons.mpr ⟨lw_p51, fun _ h => absurd h List.not_mem_nil⟩⟩⟩⟩
def lw_privs : List (MethodName × Nat) := lw_privs_1 ++ (lw_privs_2 ++ (lw_privs_3 ++ (lw_privs_4)))
def lw_tbl : List Cond := k2_sels lw_privs ++ tables_1
theorem lw_privs_ok : ∀ q ∈ lw_privs, lw_okq q := by
  show ∀ q ∈ lw_privs_1 ++ (lw_privs_2 ++ (lw_privs_3 ++ (lw_privs_4))), lw_okq q
  exact List.forall_mem_append.mpr ⟨lw_r1, List.forall_mem_append.mpr ⟨lw_r2, List.forall_mem_append.mpr ⟨lw_r3, lw_r4⟩⟩⟩
def RX0 : String := "MachineBench$Book"
def TX0 : u_T := fun k => match k with
  | 0 => ("MachineBench$Book", "column", "[[I", true)
  | _ => ("MachineBench$Book", "size", "I", false)
def tyX0 : Nat → FieldType := fun k => match k with
  | 0 => .array (.array .int)
  | _ => .int
abbrev wsX00 : List Cond := u_ws RX0 TX0 2
theorem nmX0 : ∀ a, a < 2 → ∀ b, b < 2 → a ≠ b → (TX0 a).2.1 ≠ (TX0 b).2.1 := by decide +kernel
theorem tyX0_ok : ∀ k, k < 2 → parseFieldDescriptor (TX0 k).2.2.1 = some (tyX0 k) := by decide +kernel
abbrev cX0_init : ByteArray := prog_2_method_1_code
def yX0_init : MethodName := ⟨RX0, "<init>", "()V"⟩
abbrev cX0_add : ByteArray := prog_2_method_2_code
def yX0_add : MethodName := ⟨RX0, "add", "(III)V"⟩
abbrev cX0_lose : ByteArray := prog_2_method_3_code
def yX0_lose : MethodName := ⟨RX0, "lose", "(I)V"⟩
abbrev cX0_sealAll : ByteArray := prog_2_method_4_code
def yX0_sealAll : MethodName := ⟨RX0, "sealAll", "()V"⟩
abbrev cX0_exchange : ByteArray := prog_2_method_5_code
def yX0_exchange : MethodName := ⟨RX0, "exchange", "(II)V"⟩
abbrev cX0_takeOut : ByteArray := prog_2_method_6_code
def yX0_takeOut : MethodName := ⟨RX0, "takeOut", "(I)V"⟩
abbrev cX0_countLost : ByteArray := prog_2_method_7_code
def yX0_countLost : MethodName := ⟨RX0, "countLost", "()I"⟩
def RX1 : String := "MachineBench$Keeper"
def TX1 : u_T := fun k => match k with
  | 0 => ("MachineBench$Keeper", "seal", "[I", true)
  | _ => ("MachineBench$Keeper", "size", "I", false)
def tyX1 : Nat → FieldType := fun k => match k with
  | 0 => .array .int
  | _ => .int
abbrev wsX10 : List Cond := u_ws RX1 TX1 2
theorem nmX1 : ∀ a, a < 2 → ∀ b, b < 2 → a ≠ b → (TX1 a).2.1 ≠ (TX1 b).2.1 := by decide +kernel
theorem tyX1_ok : ∀ k, k < 2 → parseFieldDescriptor (TX1 k).2.2.1 = some (tyX1 k) := by decide +kernel
abbrev cX1_init : ByteArray := prog_3_method_1_code
def yX1_init : MethodName := ⟨RX1, "<init>", "()V"⟩
abbrev cX1_hold : ByteArray := prog_3_method_2_code
def yX1_hold : MethodName := ⟨RX1, "hold", "(LMachineBench$Book;)V"⟩
def RX2 : String := "MachineBench$Machine"
def TX2 : u_T := fun k => match k with
  | 0 => ("MachineBench$Machine", "maker", "[I", true)
  | 1 => ("MachineBench$Machine", "act", "[I", true)
  | 2 => ("MachineBench$Machine", "next", "[I", true)
  | 3 => ("MachineBench$Machine", "holds", "[[I", true)
  | _ => ("MachineBench$Machine", "size", "I", false)
def tyX2 : Nat → FieldType := fun k => match k with
  | 0 => .array .int
  | 1 => .array .int
  | 2 => .array .int
  | 3 => .array (.array .int)
  | _ => .int
abbrev wsX20 : List Cond := u_ws RX2 TX2 5
theorem nmX2 : ∀ a, a < 5 → ∀ b, b < 5 → a ≠ b → (TX2 a).2.1 ≠ (TX2 b).2.1 := by decide +kernel
theorem tyX2_ok : ∀ k, k < 5 → parseFieldDescriptor (TX2 k).2.2.1 = some (tyX2 k) := by decide +kernel
abbrev cX2_init : ByteArray := prog_4_method_1_code
def yX2_init : MethodName := ⟨RX2, "<init>", "()V"⟩
abbrev cX2_choose : ByteArray := prog_4_method_2_code
def yX2_choose : MethodName := ⟨RX2, "choose", "(III)I"⟩
abbrev cX2_actOf : ByteArray := prog_4_method_3_code
def yX2_actOf : MethodName := ⟨RX2, "actOf", "(I)I"⟩
abbrev cX2_stateAfter : ByteArray := prog_4_method_4_code
def yX2_stateAfter : MethodName := ⟨RX2, "stateAfter", "(II)I"⟩
abbrev cX2_rulesOf : ByteArray := prog_4_method_5_code
def yX2_rulesOf : MethodName := ⟨RX2, "rulesOf", "(I)I"⟩
def RX3 : String := "MachineBench$Play"
def TX3 : u_T := fun k => match k with
  | 0 => ("MachineBench$Play", "sight", "[I", true)
  | 1 => ("MachineBench$Play", "lot", "[I", true)
  | 2 => ("MachineBench$Play", "state", "[I", true)
  | 3 => ("MachineBench$Play", "chosen", "[I", true)
  | _ => ("MachineBench$Play", "act", "[I", true)
def tyX3 : Nat → FieldType := fun k => match k with
  | 0 => .array .int
  | 1 => .array .int
  | 2 => .array .int
  | 3 => .array .int
  | _ => .array .int
abbrev wsX30 : List Cond := u_ws RX3 TX3 5
theorem nmX3 : ∀ a, a < 5 → ∀ b, b < 5 → a ≠ b → (TX3 a).2.1 ≠ (TX3 b).2.1 := by decide +kernel
theorem tyX3_ok : ∀ k, k < 5 → parseFieldDescriptor (TX3 k).2.2.1 = some (tyX3 k) := by decide +kernel
abbrev cX3_init : ByteArray := prog_5_method_1_code
def yX3_init : MethodName := ⟨RX3, "<init>", "()V"⟩
abbrev cX3_look : ByteArray := prog_5_method_2_code
def yX3_look : MethodName := ⟨RX3, "look", "(LMachineBench$World;)V"⟩
abbrev cX3_hide : ByteArray := prog_5_method_3_code
def yX3_hide : MethodName := ⟨RX3, "hide", "(LMachineBench$World;)V"⟩
abbrev cX3_run : ByteArray := prog_5_method_4_code
def yX3_run : MethodName := ⟨RX3, "run", "(LMachineBench$Machine;II)V"⟩
def RX4 : String := "MachineBench$Reader"
def TX4 : u_T := fun k => match k with
  | 0 => ("MachineBench$Reader", "tape", "LMachineBench$Tape;", true)
  | 1 => ("MachineBench$Reader", "anyCase", "[[I", true)
  | 2 => ("MachineBench$Reader", "allClaims", "[[I", true)
  | 3 => ("MachineBench$Reader", "claim", "[I", true)
  | 4 => ("MachineBench$Reader", "actsToo", "Z", false)
  | 5 => ("MachineBench$Reader", "failed", "Z", false)
  | _ => ("MachineBench$Reader", "place", "I", false)
def tyX4 : Nat → FieldType := fun k => match k with
  | 0 => .object "MachineBench$Tape"
  | 1 => .array (.array .int)
  | 2 => .array (.array .int)
  | 3 => .array .int
  | 4 => .boolean
  | 5 => .boolean
  | _ => .int
abbrev wsX40 : List Cond := u_ws RX4 TX4 7
theorem nmX4 : ∀ a, a < 7 → ∀ b, b < 7 → a ≠ b → (TX4 a).2.1 ≠ (TX4 b).2.1 := by decide +kernel
theorem tyX4_ok : ∀ k, k < 7 → parseFieldDescriptor (TX4 k).2.2.1 = some (tyX4 k) := by decide +kernel
abbrev cX4_init : ByteArray := prog_6_method_1_code
def yX4_init : MethodName := ⟨RX4, "<init>", "(LMachineBench$Tape;)V"⟩
abbrev cX4_readRules : ByteArray := prog_6_method_2_code
def yX4_readRules : MethodName := ⟨RX4, "readRules", "(LMachineBench$Machine;)I"⟩
abbrev cX4_readDuty : ByteArray := prog_6_method_3_code
def yX4_readDuty : MethodName := ⟨RX4, "readDuty", "([I)I"⟩
abbrev cX4_start : ByteArray := prog_6_method_4_code
def yX4_start : MethodName := ⟨RX4, "start", "(Z)V"⟩
abbrev cX4_readClause : ByteArray := prog_6_method_5_code
def yX4_readClause : MethodName := ⟨RX4, "readClause", "(LMachineBench$Machine;I)V"⟩
abbrev cX4_readTest : ByteArray := prog_6_method_6_code
def yX4_readTest : MethodName := ⟨RX4, "readTest", "(I)V"⟩
abbrev cX4_readCase : ByteArray := prog_6_method_7_code
def yX4_readCase : MethodName := ⟨RX4, "readCase", "(I)V"⟩
abbrev cX4_readClaim : ByteArray := prog_6_method_8_code
def yX4_readClaim : MethodName := ⟨RX4, "readClaim", "(I)V"⟩
abbrev cX4_claimWords : ByteArray := prog_6_method_9_code
def yX4_claimWords : MethodName := ⟨RX4, "claimWords", "(IZ)V"⟩
abbrev cX4_takes : ByteArray := prog_6_method_10_code
def yX4_takes : MethodName := ⟨RX4, "takes", "(C)Z"⟩
abbrev cX4_need : ByteArray := prog_6_method_11_code
def yX4_need : MethodName := ⟨RX4, "need", "(C)V"⟩
abbrev cX4_needEnd : ByteArray := prog_6_method_12_code
def yX4_needEnd : MethodName := ⟨RX4, "needEnd", "()V"⟩
abbrev cX4_takeDigit : ByteArray := prog_6_method_13_code
def yX4_takeDigit : MethodName := ⟨RX4, "takeDigit", "()I"⟩
abbrev cX4_nextSign : ByteArray := prog_6_method_14_code
def yX4_nextSign : MethodName := ⟨RX4, "nextSign", "()I"⟩
def RX5 : String := "MachineBench$Sheet"
def TX5 : u_T := fun k => match k with
  | 0 => ("MachineBench$Sheet", "row", "[I", true)
  | 1 => ("MachineBench$Sheet", "lane", "I", false)
  | _ => ("MachineBench$Sheet", "size", "I", false)
def tyX5 : Nat → FieldType := fun k => match k with
  | 0 => .array .int
  | 1 => .int
  | _ => .int
abbrev wsX50 : List Cond := u_ws RX5 TX5 3
theorem nmX5 : ∀ a, a < 3 → ∀ b, b < 3 → a ≠ b → (TX5 a).2.1 ≠ (TX5 b).2.1 := by decide +kernel
theorem tyX5_ok : ∀ k, k < 3 → parseFieldDescriptor (TX5 k).2.2.1 = some (tyX5 k) := by decide +kernel
abbrev cX5_init : ByteArray := prog_7_method_1_code
def yX5_init : MethodName := ⟨RX5, "<init>", "()V"⟩
abbrev cX5_renew : ByteArray := prog_7_method_2_code
def yX5_renew : MethodName := ⟨RX5, "renew", "(II)V"⟩
abbrev cX5_lacks : ByteArray := prog_7_method_3_code
def yX5_lacks : MethodName := ⟨RX5, "lacks", "(II)Z"⟩
abbrev cX5_findFault : ByteArray := prog_7_method_4_code
def yX5_findFault : MethodName := ⟨RX5, "findFault", "(III)I"⟩
def RX6 : String := "MachineBench$Tape"
def TX6 : u_T := fun k => match k with
  | 0 => ("MachineBench$Tape", "sign", "[I", true)
  | _ => ("MachineBench$Tape", "size", "I", false)
def tyX6 : Nat → FieldType := fun k => match k with
  | 0 => .array .int
  | _ => .int
abbrev wsX60 : List Cond := u_ws RX6 TX6 2
theorem nmX6 : ∀ a, a < 2 → ∀ b, b < 2 → a ≠ b → (TX6 a).2.1 ≠ (TX6 b).2.1 := by decide +kernel
theorem tyX6_ok : ∀ k, k < 2 → parseFieldDescriptor (TX6 k).2.2.1 = some (tyX6 k) := by decide +kernel
abbrev cX6_init : ByteArray := prog_8_method_1_code
def yX6_init : MethodName := ⟨RX6, "<init>", "()V"⟩
abbrev cX6_add : ByteArray := prog_8_method_2_code
def yX6_add : MethodName := ⟨RX6, "add", "(I)V"⟩
def RX7 : String := "MachineBench$Things"
def TX7 : u_T := fun k => match k with
  | 0 => ("MachineBench$Things", "kind", "[I", true)
  | 1 => ("MachineBench$Things", "tick", "[I", true)
  | 2 => ("MachineBench$Things", "number", "[I", true)
  | _ => ("MachineBench$Things", "size", "I", false)
def tyX7 : Nat → FieldType := fun k => match k with
  | 0 => .array .int
  | 1 => .array .int
  | 2 => .array .int
  | _ => .int
abbrev wsX70 : List Cond := u_ws RX7 TX7 4
theorem nmX7 : ∀ a, a < 4 → ∀ b, b < 4 → a ≠ b → (TX7 a).2.1 ≠ (TX7 b).2.1 := by decide +kernel
theorem tyX7_ok : ∀ k, k < 4 → parseFieldDescriptor (TX7 k).2.2.1 = some (tyX7 k) := by decide +kernel
abbrev cX7_init : ByteArray := prog_9_method_1_code
def yX7_init : MethodName := ⟨RX7, "<init>", "()V"⟩
abbrev cX7_has : ByteArray := prog_9_method_2_code
def yX7_has : MethodName := ⟨RX7, "has", "(III)Z"⟩
abbrev cX7_add : ByteArray := prog_9_method_3_code
def yX7_add : MethodName := ⟨RX7, "add", "(III)V"⟩
abbrev cX7_allBits : ByteArray := prog_9_method_4_code
def yX7_allBits : MethodName := ⟨RX7, "allBits", "()I"⟩
abbrev cX7_undo : ByteArray := prog_9_method_5_code
def yX7_undo : MethodName := ⟨RX7, "undo", "(ILMachineBench$Play;)I"⟩
def RX8 : String := "MachineBench$World"
def TX8 : u_T := fun k => match k with
  | 0 => ("MachineBench$World", "row", "[[I", true)
  | _ => ("MachineBench$World", "size", "I", false)
def tyX8 : Nat → FieldType := fun k => match k with
  | 0 => .array (.array .int)
  | _ => .int
abbrev wsX80 : List Cond := u_ws RX8 TX8 2
theorem nmX8 : ∀ a, a < 2 → ∀ b, b < 2 → a ≠ b → (TX8 a).2.1 ≠ (TX8 b).2.1 := by decide +kernel
theorem tyX8_ok : ∀ k, k < 2 → parseFieldDescriptor (TX8 k).2.2.1 = some (tyX8 k) := by decide +kernel
abbrev cX8_init : ByteArray := prog_10_method_1_code
def yX8_init : MethodName := ⟨RX8, "<init>", "()V"⟩
abbrev cX8_resize : ByteArray := prog_10_method_2_code
def yX8_resize : MethodName := ⟨RX8, "resize", "(I)V"⟩
def RX9 : String := "MachineBench"
def TX9 : u_T := fun k => match k with
  | 0 => ("MachineBench", "tape", "LMachineBench$Tape;", true)
  | 1 => ("MachineBench", "reader", "LMachineBench$Reader;", true)
  | 2 => ("MachineBench", "machines", "[LMachineBench$Machine;", true)
  | 3 => ("MachineBench", "draft", "LMachineBench$Machine;", false)
  | 4 => ("MachineBench", "theWorld", "LMachineBench$World;", true)
  | 5 => ("MachineBench", "scene", "LMachineBench$Play;", true)
  | 6 => ("MachineBench", "book", "LMachineBench$Book;", true)
  | 7 => ("MachineBench", "keepers", "[LMachineBench$Keeper;", true)
  | 8 => ("MachineBench", "things", "LMachineBench$Things;", true)
  | 9 => ("MachineBench", "comes", "[Z", true)
  | 10 => ("MachineBench", "actAt", "[I", true)
  | 11 => ("MachineBench", "dutyHolds", "[I", true)
  | 12 => ("MachineBench", "sheets", "[LMachineBench$Sheet;", true)
  | 13 => ("MachineBench", "dutyTold", "Z", false)
  | 14 => ("MachineBench", "doingAct", "I", false)
  | _ => ("MachineBench", "doingTick", "I", false)
def tyX9 : Nat → FieldType := fun k => match k with
  | 0 => .object "MachineBench$Tape"
  | 1 => .object "MachineBench$Reader"
  | 2 => .array (.object "MachineBench$Machine")
  | 3 => .object "MachineBench$Machine"
  | 4 => .object "MachineBench$World"
  | 5 => .object "MachineBench$Play"
  | 6 => .object "MachineBench$Book"
  | 7 => .array (.object "MachineBench$Keeper")
  | 8 => .object "MachineBench$Things"
  | 9 => .array .boolean
  | 10 => .array .int
  | 11 => .array .int
  | 12 => .array (.object "MachineBench$Sheet")
  | 13 => .boolean
  | 14 => .int
  | _ => .int
abbrev wsX90 : List Cond := u_ws RX9 TX9 16
theorem nmX9 : ∀ a, a < 16 → ∀ b, b < 16 → a ≠ b → (TX9 a).2.1 ≠ (TX9 b).2.1 := by decide +kernel
theorem tyX9_ok : ∀ k, k < 16 → parseFieldDescriptor (TX9 k).2.2.1 = some (tyX9 k) := by decide +kernel
abbrev cX9_init : ByteArray := prog_1_method_1_code
def yX9_init : MethodName := ⟨RX9, "<init>", "()V"⟩
abbrev cX9_type : ByteArray := prog_1_method_2_code
def yX9_type : MethodName := ⟨RX9, "type", "(JI)I"⟩
abbrev cX9_rules : ByteArray := prog_1_method_3_code
def yX9_rules : MethodName := ⟨RX9, "rules", "(I)I"⟩
abbrev cX9_rule : ByteArray := prog_1_method_4_code
def yX9_rule : MethodName := ⟨RX9, "rule", "(III)I"⟩
abbrev cX9_ticks : ByteArray := prog_1_method_5_code
def yX9_ticks : MethodName := ⟨RX9, "ticks", "(I)I"⟩
abbrev cX9_world : ByteArray := prog_1_method_6_code
def yX9_world : MethodName := ⟨RX9, "world", "(III)I"⟩
abbrev cX9_sights : ByteArray := prog_1_method_7_code
def yX9_sights : MethodName := ⟨RX9, "sights", "(III)I"⟩
abbrev cX9_lots : ByteArray := prog_1_method_8_code
def yX9_lots : MethodName := ⟨RX9, "lots", "(II)I"⟩
abbrev cX9_play : ByteArray := prog_1_method_9_code
def yX9_play : MethodName := ⟨RX9, "play", "(III)I"⟩
abbrev cX9_chooses : ByteArray := prog_1_method_10_code
def yX9_chooses : MethodName := ⟨RX9, "chooses", "(IIII)I"⟩
abbrev cX9_write : ByteArray := prog_1_method_11_code
def yX9_write : MethodName := ⟨RX9, "write", "(I)I"⟩
abbrev cX9_tell : ByteArray := prog_1_method_12_code
def yX9_tell : MethodName := ⟨RX9, "tell", "(II)I"⟩
abbrev cX9_line : ByteArray := prog_1_method_13_code
def yX9_line : MethodName := ⟨RX9, "line", "(II)I"⟩
abbrev cX9_forge : ByteArray := prog_1_method_14_code
def yX9_forge : MethodName := ⟨RX9, "forge", "(II)I"⟩
abbrev cX9_swap : ByteArray := prog_1_method_15_code
def yX9_swap : MethodName := ⟨RX9, "swap", "(II)I"⟩
abbrev cX9_tear : ByteArray := prog_1_method_16_code
def yX9_tear : MethodName := ⟨RX9, "tear", "(I)I"⟩
abbrev cX9_give : ByteArray := prog_1_method_17_code
def yX9_give : MethodName := ⟨RX9, "give", "(I)I"⟩
abbrev cX9_kept : ByteArray := prog_1_method_18_code
def yX9_kept : MethodName := ⟨RX9, "kept", "(II)I"⟩
abbrev cX9_torn : ByteArray := prog_1_method_19_code
def yX9_torn : MethodName := ⟨RX9, "torn", "()I"⟩
abbrev cX9_differs : ByteArray := prog_1_method_20_code
def yX9_differs : MethodName := ⟨RX9, "differs", "()I"⟩
abbrev cX9_count : ByteArray := prog_1_method_21_code
def yX9_count : MethodName := ⟨RX9, "count", "(I)I"⟩
abbrev cX9_doing : ByteArray := prog_1_method_22_code
def yX9_doing : MethodName := ⟨RX9, "doing", "(II)I"⟩
abbrev cX9_thing : ByteArray := prog_1_method_23_code
def yX9_thing : MethodName := ⟨RX9, "thing", "(III)I"⟩
abbrev cX9_clear : ByteArray := prog_1_method_24_code
def yX9_clear : MethodName := ⟨RX9, "clear", "()I"⟩
abbrev cX9_otherwise : ByteArray := prog_1_method_25_code
def yX9_otherwise : MethodName := ⟨RX9, "otherwise", "(I)I"⟩
abbrev cX9_because : ByteArray := prog_1_method_26_code
def yX9_because : MethodName := ⟨RX9, "because", "()I"⟩
abbrev cX9_enough : ByteArray := prog_1_method_27_code
def yX9_enough : MethodName := ⟨RX9, "enough", "()I"⟩
abbrev cX9_sets : ByteArray := prog_1_method_28_code
def yX9_sets : MethodName := ⟨RX9, "sets", "(I)I"⟩
abbrev cX9_part : ByteArray := prog_1_method_29_code
def yX9_part : MethodName := ⟨RX9, "part", "(I)I"⟩
abbrev cX9_careful : ByteArray := prog_1_method_30_code
def yX9_careful : MethodName := ⟨RX9, "careful", "(II)I"⟩
abbrev cX9_saying : ByteArray := prog_1_method_31_code
def yX9_saying : MethodName := ⟨RX9, "saying", "(IZZ)I"⟩
abbrev cX9_duty : ByteArray := prog_1_method_32_code
def yX9_duty : MethodName := ⟨RX9, "duty", "()I"⟩
abbrev cX9_broken : ByteArray := prog_1_method_33_code
def yX9_broken : MethodName := ⟨RX9, "broken", "()I"⟩
abbrev cX9_sheet : ByteArray := prog_1_method_34_code
def yX9_sheet : MethodName := ⟨RX9, "sheet", "(III)I"⟩
abbrev cX9_drop : ByteArray := prog_1_method_35_code
def yX9_drop : MethodName := ⟨RX9, "drop", "(I)I"⟩
abbrev cX9_item : ByteArray := prog_1_method_36_code
def yX9_item : MethodName := ⟨RX9, "item", "(IIII)I"⟩
abbrev cX9_copy : ByteArray := prog_1_method_37_code
def yX9_copy : MethodName := ⟨RX9, "copy", "(IIIII)I"⟩
abbrev cX9_beyond : ByteArray := prog_1_method_38_code
def yX9_beyond : MethodName := ⟨RX9, "beyond", "(II)Z"⟩
abbrev cX9_byteOf : ByteArray := prog_1_method_39_code
def yX9_byteOf : MethodName := ⟨RX9, "byteOf", "(JI)I"⟩
abbrev cX9_noMachine : ByteArray := prog_1_method_40_code
def yX9_noMachine : MethodName := ⟨RX9, "noMachine", "(I)Z"⟩
abbrev cX9_noTick : ByteArray := prog_1_method_41_code
def yX9_noTick : MethodName := ⟨RX9, "noTick", "(I)Z"⟩
abbrev cX9_noSheet : ByteArray := prog_1_method_42_code
def yX9_noSheet : MethodName := ⟨RX9, "noSheet", "(I)Z"⟩
abbrev cX9_noLine : ByteArray := prog_1_method_43_code
def yX9_noLine : MethodName := ⟨RX9, "noLine", "(I)Z"⟩
abbrev cX9_noKeeper : ByteArray := prog_1_method_44_code
def yX9_noKeeper : MethodName := ⟨RX9, "noKeeper", "(I)Z"⟩
abbrev cX9_playAsIs : ByteArray := prog_1_method_45_code
def yX9_playAsIs : MethodName := ⟨RX9, "playAsIs", "(LMachineBench$Machine;)V"⟩
abbrev cX9_countHolders : ByteArray := prog_1_method_46_code
def yX9_countHolders : MethodName := ⟨RX9, "countHolders", "()I"⟩
abbrev cX9_isHeld : ByteArray := prog_1_method_47_code
def yX9_isHeld : MethodName := ⟨RX9, "isHeld", "(II)Z"⟩
abbrev cX9_seeByBook : ByteArray := prog_1_method_48_code
def yX9_seeByBook : MethodName := ⟨RX9, "seeByBook", "()V"⟩
abbrev cX9_isUnlikePlayed : ByteArray := prog_1_method_49_code
def yX9_isUnlikePlayed : MethodName := ⟨RX9, "isUnlikePlayed", "(III)Z"⟩
abbrev cX9_lastOfThing : ByteArray := prog_1_method_50_code
def yX9_lastOfThing : MethodName := ⟨RX9, "lastOfThing", "(I)I"⟩
abbrev cX9_noDoing : ByteArray := prog_1_method_51_code
def yX9_noDoing : MethodName := ⟨RX9, "noDoing", "()Z"⟩
abbrev cX9_comesOtherwise : ByteArray := prog_1_method_52_code
def yX9_comesOtherwise : MethodName := ⟨RX9, "comesOtherwise", "(I)Z"⟩
abbrev cX9_comesWithMakers : ByteArray := prog_1_method_53_code
def yX9_comesWithMakers : MethodName := ⟨RX9, "comesWithMakers", "(I)Z"⟩
abbrev cX9_comesWithRules : ByteArray := prog_1_method_54_code
def yX9_comesWithRules : MethodName := ⟨RX9, "comesWithRules", "(I)Z"⟩
abbrev cX9_tryAllSets : ByteArray := prog_1_method_55_code
def yX9_tryAllSets : MethodName := ⟨RX9, "tryAllSets", "()V"⟩
abbrev cX9_leastSet : ByteArray := prog_1_method_56_code
def yX9_leastSet : MethodName := ⟨RX9, "leastSet", "(Z)I"⟩
abbrev cX9_isBecause : ByteArray := prog_1_method_57_code
def yX9_isBecause : MethodName := ⟨RX9, "isBecause", "(I)Z"⟩
abbrev cX9_isEnough : ByteArray := prog_1_method_58_code
def yX9_isEnough : MethodName := ⟨RX9, "isEnough", "(I)Z"⟩
def RX10 : String := "MachineBenchModel"
def TX10 : u_T := fun k => match k with
  | 0 => ("MachineBenchModel", "tape", "[I", true)
  | 1 => ("MachineBenchModel", "taped", "I", false)
  | 2 => ("MachineBenchModel", "at", "I", false)
  | 3 => ("MachineBenchModel", "wrong", "Z", false)
  | 4 => ("MachineBenchModel", "ors", "[Z", true)
  | 5 => ("MachineBenchModel", "ands", "[Z", true)
  | 6 => ("MachineBenchModel", "nots", "[Z", true)
  | 7 => ("MachineBenchModel", "many", "[I", true)
  | 8 => ("MachineBenchModel", "makers", "[I", true)
  | 9 => ("MachineBenchModel", "acts", "[I", true)
  | 10 => ("MachineBenchModel", "comes", "[I", true)
  | 11 => ("MachineBenchModel", "holds", "[Z", true)
  | 12 => ("MachineBenchModel", "readMakers", "[I", true)
  | 13 => ("MachineBenchModel", "readActs", "[I", true)
  | 14 => ("MachineBenchModel", "readComes", "[I", true)
  | 15 => ("MachineBenchModel", "readHolds", "[Z", true)
  | 16 => ("MachineBenchModel", "tickMany", "I", false)
  | 17 => ("MachineBenchModel", "sightAt", "[I", true)
  | 18 => ("MachineBenchModel", "lotAt", "[I", true)
  | 19 => ("MachineBenchModel", "masks", "[I", true)
  | 20 => ("MachineBenchModel", "laidSights", "[I", true)
  | 21 => ("MachineBenchModel", "laidLots", "[I", true)
  | 22 => ("MachineBenchModel", "playedStates", "[I", true)
  | 23 => ("MachineBenchModel", "playedRules", "[I", true)
  | 24 => ("MachineBenchModel", "playedActs", "[I", true)
  | 25 => ("MachineBenchModel", "lines", "I", false)
  | 26 => ("MachineBenchModel", "kinds", "[I", true)
  | 27 => ("MachineBenchModel", "lineTicks", "[I", true)
  | 28 => ("MachineBenchModel", "numbers", "[I", true)
  | 29 => ("MachineBenchModel", "seals", "[I", true)
  | 30 => ("MachineBenchModel", "keptMany", "[I", true)
  | 31 => ("MachineBenchModel", "keptSeals", "[I", true)
  | 32 => ("MachineBenchModel", "doingAct", "I", false)
  | 33 => ("MachineBenchModel", "doingTick", "I", false)
  | 34 => ("MachineBenchModel", "things", "I", false)
  | 35 => ("MachineBenchModel", "thingKind", "[I", true)
  | 36 => ("MachineBenchModel", "thingTick", "[I", true)
  | 37 => ("MachineBenchModel", "thingNumber", "[I", true)
  | 38 => ("MachineBenchModel", "withSet", "[Z", true)
  | 39 => ("MachineBenchModel", "hasDuty", "Z", false)
  | 40 => ("MachineBenchModel", "dutyHolds", "[Z", true)
  | 41 => ("MachineBenchModel", "readDuty", "[Z", true)
  | 42 => ("MachineBenchModel", "lanes", "[I", true)
  | 43 => ("MachineBenchModel", "sizes", "[I", true)
  | 44 => ("MachineBenchModel", "items", "[I", true)
  | _ => ("MachineBenchModel", "moved", "[I", true)
def tyX10 : Nat → FieldType := fun k => match k with
  | 0 => .array .int
  | 1 => .int
  | 2 => .int
  | 3 => .boolean
  | 4 => .array .boolean
  | 5 => .array .boolean
  | 6 => .array .boolean
  | 7 => .array .int
  | 8 => .array .int
  | 9 => .array .int
  | 10 => .array .int
  | 11 => .array .boolean
  | 12 => .array .int
  | 13 => .array .int
  | 14 => .array .int
  | 15 => .array .boolean
  | 16 => .int
  | 17 => .array .int
  | 18 => .array .int
  | 19 => .array .int
  | 20 => .array .int
  | 21 => .array .int
  | 22 => .array .int
  | 23 => .array .int
  | 24 => .array .int
  | 25 => .int
  | 26 => .array .int
  | 27 => .array .int
  | 28 => .array .int
  | 29 => .array .int
  | 30 => .array .int
  | 31 => .array .int
  | 32 => .int
  | 33 => .int
  | 34 => .int
  | 35 => .array .int
  | 36 => .array .int
  | 37 => .array .int
  | 38 => .array .boolean
  | 39 => .boolean
  | 40 => .array .boolean
  | 41 => .array .boolean
  | 42 => .array .int
  | 43 => .array .int
  | 44 => .array .int
  | _ => .array .int
abbrev wsX100 : List Cond := u_ws RX10 TX10 46
theorem nmX10 : ∀ a, a < 46 → ∀ b, b < 46 → a ≠ b → (TX10 a).2.1 ≠ (TX10 b).2.1 := by decide +kernel
theorem tyX10_ok : ∀ k, k < 46 → parseFieldDescriptor (TX10 k).2.2.1 = some (tyX10 k) := by decide +kernel
abbrev cX10_in : ByteArray := prog_12_method_2_code
def yX10_in : MethodName := ⟨RX10, "in", "(JJJ)Z"⟩
abbrev cX10_init : ByteArray := prog_12_method_3_code
def yX10_init : MethodName := ⟨RX10, "<init>", "()V"⟩
abbrev cX10_type : ByteArray := prog_12_method_4_code
def yX10_type : MethodName := ⟨RX10, "type", "(JI)I"⟩
abbrev cX10_next : ByteArray := prog_12_method_5_code
def yX10_next : MethodName := ⟨RX10, "next", "()I"⟩
abbrev cX10_passes : ByteArray := prog_12_method_6_code
def yX10_passes : MethodName := ⟨RX10, "passes", "(I)Z"⟩
abbrev cX10_digit : ByteArray := prog_12_method_7_code
def yX10_digit : MethodName := ⟨RX10, "digit", "()I"⟩
abbrev cX10_claim : ByteArray := prog_12_method_8_code
def yX10_claim : MethodName := ⟨RX10, "claim", "(IIZ)Z"⟩
abbrev cX10_test : ByteArray := prog_12_method_9_code
def yX10_test : MethodName := ⟨RX10, "test", "(IIZ)Z"⟩
abbrev cX10_isMachine : ByteArray := prog_12_method_10_code
def yX10_isMachine : MethodName := ⟨RX10, "isMachine", "(I)Z"⟩
abbrev cX10_clause : ByteArray := prog_12_method_11_code
def yX10_clause : MethodName := ⟨RX10, "clause", "(I)V"⟩
abbrev cX10_rules : ByteArray := prog_12_method_12_code
def yX10_rules : MethodName := ⟨RX10, "rules", "(I)I"⟩
abbrev cX10_rule : ByteArray := prog_12_method_13_code
def yX10_rule : MethodName := ⟨RX10, "rule", "(III)I"⟩
abbrev cX10_ticks : ByteArray := prog_12_method_14_code
def yX10_ticks : MethodName := ⟨RX10, "ticks", "(I)I"⟩
abbrev cX10_isTick : ByteArray := prog_12_method_15_code
def yX10_isTick : MethodName := ⟨RX10, "isTick", "(I)Z"⟩
abbrev cX10_world : ByteArray := prog_12_method_16_code
def yX10_world : MethodName := ⟨RX10, "world", "(III)I"⟩
abbrev cX10_sights : ByteArray := prog_12_method_17_code
def yX10_sights : MethodName := ⟨RX10, "sights", "(III)I"⟩
abbrev cX10_lots : ByteArray := prog_12_method_18_code
def yX10_lots : MethodName := ⟨RX10, "lots", "(II)I"⟩
abbrev cX10_chosen : ByteArray := prog_12_method_19_code
def yX10_chosen : MethodName := ⟨RX10, "chosen", "(III)I"⟩
abbrev cX10_plays : ByteArray := prog_12_method_20_code
def yX10_plays : MethodName := ⟨RX10, "plays", "(II)V"⟩
abbrev cX10_lays : ByteArray := prog_12_method_21_code
def yX10_lays : MethodName := ⟨RX10, "lays", "()V"⟩
abbrev cX10_play : ByteArray := prog_12_method_22_code
def yX10_play : MethodName := ⟨RX10, "play", "(III)I"⟩
abbrev cX10_chooses : ByteArray := prog_12_method_23_code
def yX10_chooses : MethodName := ⟨RX10, "chooses", "(IIII)I"⟩
abbrev cX10_writes : ByteArray := prog_12_method_24_code
def yX10_writes : MethodName := ⟨RX10, "writes", "(III)V"⟩
abbrev cX10_loses : ByteArray := prog_12_method_25_code
def yX10_loses : MethodName := ⟨RX10, "loses", "(II)I"⟩
abbrev cX10_write : ByteArray := prog_12_method_26_code
def yX10_write : MethodName := ⟨RX10, "write", "(I)I"⟩
abbrev cX10_tell : ByteArray := prog_12_method_27_code
def yX10_tell : MethodName := ⟨RX10, "tell", "(II)I"⟩
abbrev cX10_isLine : ByteArray := prog_12_method_28_code
def yX10_isLine : MethodName := ⟨RX10, "isLine", "(I)Z"⟩
abbrev cX10_seal : ByteArray := prog_12_method_29_code
def yX10_seal : MethodName := ⟨RX10, "seal", "()V"⟩
abbrev cX10_isHeld : ByteArray := prog_12_method_30_code
def yX10_isHeld : MethodName := ⟨RX10, "isHeld", "(I)Z"⟩
abbrev cX10_line : ByteArray := prog_12_method_31_code
def yX10_line : MethodName := ⟨RX10, "line", "(II)I"⟩
abbrev cX10_mostOf : ByteArray := prog_12_method_32_code
def yX10_mostOf : MethodName := ⟨RX10, "mostOf", "(I)I"⟩
abbrev cX10_forge : ByteArray := prog_12_method_33_code
def yX10_forge : MethodName := ⟨RX10, "forge", "(II)I"⟩
abbrev cX10_moves : ByteArray := prog_12_method_34_code
def yX10_moves : MethodName := ⟨RX10, "moves", "(II)V"⟩
abbrev cX10_swap : ByteArray := prog_12_method_35_code
def yX10_swap : MethodName := ⟨RX10, "swap", "(II)I"⟩
abbrev cX10_tear : ByteArray := prog_12_method_36_code
def yX10_tear : MethodName := ⟨RX10, "tear", "(I)I"⟩
abbrev cX10_give : ByteArray := prog_12_method_37_code
def yX10_give : MethodName := ⟨RX10, "give", "(I)I"⟩
abbrev cX10_kept : ByteArray := prog_12_method_38_code
def yX10_kept : MethodName := ⟨RX10, "kept", "(II)I"⟩
abbrev cX10_torn : ByteArray := prog_12_method_39_code
def yX10_torn : MethodName := ⟨RX10, "torn", "()I"⟩
abbrev cX10_differs : ByteArray := prog_12_method_40_code
def yX10_differs : MethodName := ⟨RX10, "differs", "()I"⟩
abbrev cX10_count : ByteArray := prog_12_method_41_code
def yX10_count : MethodName := ⟨RX10, "count", "(I)I"⟩
abbrev cX10_comesBy : ByteArray := prog_12_method_42_code
def yX10_comesBy : MethodName := ⟨RX10, "comesBy", "(II)Z"⟩
abbrev cX10_doing : ByteArray := prog_12_method_43_code
def yX10_doing : MethodName := ⟨RX10, "doing", "(II)I"⟩
abbrev cX10_thing : ByteArray := prog_12_method_44_code
def yX10_thing : MethodName := ⟨RX10, "thing", "(III)I"⟩
abbrev cX10_clear : ByteArray := prog_12_method_45_code
def yX10_clear : MethodName := ⟨RX10, "clear", "()I"⟩
abbrev cX10_isTold : ByteArray := prog_12_method_46_code
def yX10_isTold : MethodName := ⟨RX10, "isTold", "()Z"⟩
abbrev cX10_otherwise : ByteArray := prog_12_method_47_code
def yX10_otherwise : MethodName := ⟨RX10, "otherwise", "(I)I"⟩
abbrev cX10_tries : ByteArray := prog_12_method_48_code
def yX10_tries : MethodName := ⟨RX10, "tries", "()V"⟩
abbrev cX10_isSuch : ByteArray := prog_12_method_49_code
def yX10_isSuch : MethodName := ⟨RX10, "isSuch", "(II)Z"⟩
abbrev cX10_size : ByteArray := prog_12_method_50_code
def yX10_size : MethodName := ⟨RX10, "size", "(I)I"⟩
abbrev cX10_leastOf : ByteArray := prog_12_method_51_code
def yX10_leastOf : MethodName := ⟨RX10, "leastOf", "(I)I"⟩
abbrev cX10_because : ByteArray := prog_12_method_52_code
def yX10_because : MethodName := ⟨RX10, "because", "()I"⟩
abbrev cX10_enough : ByteArray := prog_12_method_53_code
def yX10_enough : MethodName := ⟨RX10, "enough", "()I"⟩
abbrev cX10_sets : ByteArray := prog_12_method_54_code
def yX10_sets : MethodName := ⟨RX10, "sets", "(I)I"⟩
abbrev cX10_part : ByteArray := prog_12_method_55_code
def yX10_part : MethodName := ⟨RX10, "part", "(I)I"⟩
abbrev cX10_careful : ByteArray := prog_12_method_56_code
def yX10_careful : MethodName := ⟨RX10, "careful", "(II)I"⟩
abbrev cX10_actAt : ByteArray := prog_12_method_57_code
def yX10_actAt : MethodName := ⟨RX10, "actAt", "(I)I"⟩
abbrev cX10_saying : ByteArray := prog_12_method_58_code
def yX10_saying : MethodName := ⟨RX10, "saying", "(IZZ)I"⟩
abbrev cX10_duty : ByteArray := prog_12_method_59_code
def yX10_duty : MethodName := ⟨RX10, "duty", "()I"⟩
abbrev cX10_broken : ByteArray := prog_12_method_60_code
def yX10_broken : MethodName := ⟨RX10, "broken", "()I"⟩
abbrev cX10_isSheet : ByteArray := prog_12_method_61_code
def yX10_isSheet : MethodName := ⟨RX10, "isSheet", "(I)Z"⟩
abbrev cX10_isLane : ByteArray := prog_12_method_62_code
def yX10_isLane : MethodName := ⟨RX10, "isLane", "(I)Z"⟩
abbrev cX10_finds : ByteArray := prog_12_method_63_code
def yX10_finds : MethodName := ⟨RX10, "finds", "(IIII)I"⟩
abbrev cX10_sheet : ByteArray := prog_12_method_64_code
def yX10_sheet : MethodName := ⟨RX10, "sheet", "(III)I"⟩
abbrev cX10_drop : ByteArray := prog_12_method_65_code
def yX10_drop : MethodName := ⟨RX10, "drop", "(I)I"⟩
abbrev cX10_item : ByteArray := prog_12_method_66_code
def yX10_item : MethodName := ⟨RX10, "item", "(IIII)I"⟩
abbrev cX10_copy : ByteArray := prog_12_method_67_code
def yX10_copy : MethodName := ⟨RX10, "copy", "(IIIII)I"⟩
def RJ6 : String := "java/lang/Integer"
def TJ6 : u_T := fun k => match k with
  | _ => ("", "", "", false)
def tyJ6 : Nat → FieldType := fun k => match k with
  | _ => .int
abbrev wsJ60 : List Cond := u_ws RJ6 TJ6 0
theorem nmJ6 : ∀ a, a < 0 → ∀ b, b < 0 → a ≠ b → (TJ6 a).2.1 ≠ (TJ6 b).2.1 := by decide +kernel
theorem tyJ6_ok : ∀ k, k < 0 → parseFieldDescriptor (TJ6 k).2.2.1 = some (tyJ6 k) := by decide +kernel
abbrev cJ6_bitCount_0f7a4 : ByteArray := prog_13_method_49_code
def yJ6_bitCount_0f7a4 : MethodName := ⟨RJ6, "bitCount", "(I)I"⟩
def RJ9 : String := "java/lang/Math"
def TJ9 : u_T := fun k => match k with
  | _ => ("", "", "", false)
def tyJ9 : Nat → FieldType := fun k => match k with
  | _ => .int
abbrev wsJ90 : List Cond := u_ws RJ9 TJ9 0
theorem nmJ9 : ∀ a, a < 0 → ∀ b, b < 0 → a ≠ b → (TJ9 a).2.1 ≠ (TJ9 b).2.1 := by decide +kernel
theorem tyJ9_ok : ∀ k, k < 0 → parseFieldDescriptor (TJ9 k).2.2.1 = some (tyJ9 k) := by decide +kernel
abbrev cJ9_max_7cf53 : ByteArray := prog_14_method_65_code
def yJ9_max_7cf53 : MethodName := ⟨RJ9, "max", "(II)I"⟩
def RJ10 : String := "java/lang/System"
def TJ10 : u_T := fun k => match k with
  | _ => ("", "", "", false)
def tyJ10 : Nat → FieldType := fun k => match k with
  | _ => .int
abbrev wsJ100 : List Cond := u_ws RJ10 TJ10 0
theorem nmJ10 : ∀ a, a < 0 → ∀ b, b < 0 → a ≠ b → (TJ10 a).2.1 ≠ (TJ10 b).2.1 := by decide +kernel
theorem tyJ10_ok : ∀ k, k < 0 → parseFieldDescriptor (TJ10 k).2.2.1 = some (tyJ10 k) := by decide +kernel
def RJ7 : String := "java/util/Arrays"
def TJ7 : u_T := fun k => match k with
  | _ => ("", "", "", false)
def tyJ7 : Nat → FieldType := fun k => match k with
  | _ => .int
abbrev wsJ70 : List Cond := u_ws RJ7 TJ7 0
theorem nmJ7 : ∀ a, a < 0 → ∀ b, b < 0 → a ≠ b → (TJ7 a).2.1 ≠ (TJ7 b).2.1 := by decide +kernel
theorem tyJ7_ok : ∀ k, k < 0 → parseFieldDescriptor (TJ7 k).2.2.1 = some (tyJ7 k) := by decide +kernel
abbrev cJ7_fill_53178 : ByteArray := prog_16_method_103_code
def yJ7_fill_53178 : MethodName := ⟨RJ7, "fill", "([II)V"⟩
def RL : String := "MachineBenchLaw"
abbrev cL_law : ByteArray := code
def yL_law : MethodName := ⟨RL, "law", "([I)Z"⟩
abbrev vwCl : List vw_C := [(RX0, TX0, 2), (RX1, TX1, 2), (RX2, TX2, 5), (RX3, TX3, 5), (RX4, TX4, 7), (RX5, TX5, 3), (RX6, TX6, 2), (RX7, TX7, 4), (RX8, TX8, 2), (RX9, TX9, 16), (RX10, TX10, 46)]
theorem inX0 : ∀ w ∈ wsX00, w ∈ lw_tbl := by decide +kernel
theorem inX1 : ∀ w ∈ wsX10, w ∈ lw_tbl := by decide +kernel
theorem inX2 : ∀ w ∈ wsX20, w ∈ lw_tbl := by decide +kernel
theorem inX3 : ∀ w ∈ wsX30, w ∈ lw_tbl := by decide +kernel
theorem inX4 : ∀ w ∈ wsX40, w ∈ lw_tbl := by decide +kernel
theorem inX5 : ∀ w ∈ wsX50, w ∈ lw_tbl := by decide +kernel
theorem inX6 : ∀ w ∈ wsX60, w ∈ lw_tbl := by decide +kernel
theorem inX7 : ∀ w ∈ wsX70, w ∈ lw_tbl := by decide +kernel
theorem inX8 : ∀ w ∈ wsX80, w ∈ lw_tbl := by decide +kernel
theorem inX9 : ∀ w ∈ wsX90, w ∈ lw_tbl := by decide +kernel
theorem inX10 : ∀ w ∈ wsX100, w ∈ lw_tbl := by decide +kernel
