section
-- ===== PART A: goes FIRST, ahead of the names: the tables' words, and 'selects' of the private methods out of them =====
/-- a private method of a class that the tables say can be made, by its rows of tables_1 -/
def lw_okq (q : MethodName × Nat) : Prop := (q.1.cls ≠ "java/lang/invoke/MethodHandle" ∧ q.1.cls ≠ "java/lang/invoke/VarHandle") ∧ Cond.instantiable q.1.cls q.2 ∈ tables_1 ∧ Cond.privateMethod q.1 ∈ tables_1 ∧ Cond.instanceMethod q.1 ∈ tables_1
theorem lw_p0 : lw_okq (⟨"MachineBench", "noMachine", "(I)Z"⟩, 16) := ⟨⟨by decide +kernel, by decide +kernel⟩, List.mem_of_getElem? (i := 17) (by decide +kernel), List.mem_of_getElem? (i := 293) (by decide +kernel), List.mem_of_getElem? (i := 294) (by decide +kernel)⟩
theorem lw_p1 : lw_okq (⟨"MachineBench$Reader", "start", "(Z)V"⟩, 7) := ⟨⟨by decide +kernel, by decide +kernel⟩, List.mem_of_getElem? (i := 42) (by decide +kernel), List.mem_of_getElem? (i := 304) (by decide +kernel), List.mem_of_getElem? (i := 305) (by decide +kernel)⟩
theorem lw_p2 : lw_okq (⟨"MachineBench$Reader", "readClause", "(LMachineBench$Machine;I)V"⟩, 7) := ⟨⟨by decide +kernel, by decide +kernel⟩, List.mem_of_getElem? (i := 42) (by decide +kernel), List.mem_of_getElem? (i := 308) (by decide +kernel), List.mem_of_getElem? (i := 309) (by decide +kernel)⟩
theorem lw_p3 : lw_okq (⟨"MachineBench$Reader", "takeDigit", "()I"⟩, 7) := ⟨⟨by decide +kernel, by decide +kernel⟩, List.mem_of_getElem? (i := 42) (by decide +kernel), List.mem_of_getElem? (i := 312) (by decide +kernel), List.mem_of_getElem? (i := 313) (by decide +kernel)⟩
theorem lw_p4 : lw_okq (⟨"MachineBench$Reader", "nextSign", "()I"⟩, 7) := ⟨⟨by decide +kernel, by decide +kernel⟩, List.mem_of_getElem? (i := 42) (by decide +kernel), List.mem_of_getElem? (i := 316) (by decide +kernel), List.mem_of_getElem? (i := 317) (by decide +kernel)⟩
theorem lw_p5 : lw_okq (⟨"MachineBench$Reader", "readTest", "(I)V"⟩, 7) := ⟨⟨by decide +kernel, by decide +kernel⟩, List.mem_of_getElem? (i := 42) (by decide +kernel), List.mem_of_getElem? (i := 321) (by decide +kernel), List.mem_of_getElem? (i := 322) (by decide +kernel)⟩
theorem lw_p6 : lw_okq (⟨"MachineBench$Reader", "readCase", "(I)V"⟩, 7) := ⟨⟨by decide +kernel, by decide +kernel⟩, List.mem_of_getElem? (i := 42) (by decide +kernel), List.mem_of_getElem? (i := 326) (by decide +kernel), List.mem_of_getElem? (i := 327) (by decide +kernel)⟩
theorem lw_p7 : lw_okq (⟨"MachineBench$Reader", "readClaim", "(I)V"⟩, 7) := ⟨⟨by decide +kernel, by decide +kernel⟩, List.mem_of_getElem? (i := 42) (by decide +kernel), List.mem_of_getElem? (i := 330) (by decide +kernel), List.mem_of_getElem? (i := 331) (by decide +kernel)⟩
theorem lw_p8 : lw_okq (⟨"MachineBench$Reader", "takes", "(C)Z"⟩, 7) := ⟨⟨by decide +kernel, by decide +kernel⟩, List.mem_of_getElem? (i := 42) (by decide +kernel), List.mem_of_getElem? (i := 334) (by decide +kernel), List.mem_of_getElem? (i := 335) (by decide +kernel)⟩
theorem lw_p9 : lw_okq (⟨"MachineBench$Reader", "claimWords", "(IZ)V"⟩, 7) := ⟨⟨by decide +kernel, by decide +kernel⟩, List.mem_of_getElem? (i := 42) (by decide +kernel), List.mem_of_getElem? (i := 340) (by decide +kernel), List.mem_of_getElem? (i := 341) (by decide +kernel)⟩
theorem lw_p10 : lw_okq (⟨"MachineBench$Reader", "need", "(C)V"⟩, 7) := ⟨⟨by decide +kernel, by decide +kernel⟩, List.mem_of_getElem? (i := 42) (by decide +kernel), List.mem_of_getElem? (i := 345) (by decide +kernel), List.mem_of_getElem? (i := 346) (by decide +kernel)⟩
theorem lw_p11 : lw_okq (⟨"MachineBench$Reader", "needEnd", "()V"⟩, 7) := ⟨⟨by decide +kernel, by decide +kernel⟩, List.mem_of_getElem? (i := 42) (by decide +kernel), List.mem_of_getElem? (i := 352) (by decide +kernel), List.mem_of_getElem? (i := 353) (by decide +kernel)⟩
theorem lw_p12 : lw_okq (⟨"MachineBench", "noTick", "(I)Z"⟩, 16) := ⟨⟨by decide +kernel, by decide +kernel⟩, List.mem_of_getElem? (i := 17) (by decide +kernel), List.mem_of_getElem? (i := 372) (by decide +kernel), List.mem_of_getElem? (i := 373) (by decide +kernel)⟩
theorem lw_p13 : lw_okq (⟨"MachineBench", "noSheet", "(I)Z"⟩, 16) := ⟨⟨by decide +kernel, by decide +kernel⟩, List.mem_of_getElem? (i := 17) (by decide +kernel), List.mem_of_getElem? (i := 380) (by decide +kernel), List.mem_of_getElem? (i := 381) (by decide +kernel)⟩
theorem lw_p14 : lw_okq (⟨"MachineBench", "playAsIs", "(LMachineBench$Machine;)V"⟩, 16) := ⟨⟨by decide +kernel, by decide +kernel⟩, List.mem_of_getElem? (i := 17) (by decide +kernel), List.mem_of_getElem? (i := 401) (by decide +kernel), List.mem_of_getElem? (i := 402) (by decide +kernel)⟩
theorem lw_p15 : lw_okq (⟨"MachineBench", "noLine", "(I)Z"⟩, 16) := ⟨⟨by decide +kernel, by decide +kernel⟩, List.mem_of_getElem? (i := 17) (by decide +kernel), List.mem_of_getElem? (i := 460) (by decide +kernel), List.mem_of_getElem? (i := 461) (by decide +kernel)⟩
def lw_privs_1 : List (MethodName × Nat) := [(⟨"MachineBench", "noMachine", "(I)Z"⟩, 16), (⟨"MachineBench$Reader", "start", "(Z)V"⟩, 7), (⟨"MachineBench$Reader", "readClause", "(LMachineBench$Machine;I)V"⟩, 7), (⟨"MachineBench$Reader", "takeDigit", "()I"⟩, 7), (⟨"MachineBench$Reader", "nextSign", "()I"⟩, 7), (⟨"MachineBench$Reader", "readTest", "(I)V"⟩, 7), (⟨"MachineBench$Reader", "readCase", "(I)V"⟩, 7), (⟨"MachineBench$Reader", "readClaim", "(I)V"⟩, 7), (⟨"MachineBench$Reader", "takes", "(C)Z"⟩, 7), (⟨"MachineBench$Reader", "claimWords", "(IZ)V"⟩, 7), (⟨"MachineBench$Reader", "need", "(C)V"⟩, 7), (⟨"MachineBench$Reader", "needEnd", "()V"⟩, 7), (⟨"MachineBench", "noTick", "(I)Z"⟩, 16), (⟨"MachineBench", "noSheet", "(I)Z"⟩, 16), (⟨"MachineBench", "playAsIs", "(LMachineBench$Machine;)V"⟩, 16), (⟨"MachineBench", "noLine", "(I)Z"⟩, 16)]
theorem lw_r1 : ∀ q ∈ lw_privs_1, lw_okq q := List.forall_mem_cons.mpr ⟨lw_p0, List.forall_mem_cons.mpr ⟨lw_p1, List.forall_mem_cons.mpr ⟨lw_p2, List.forall_mem_cons.mpr ⟨lw_p3, List.forall_mem_cons.mpr ⟨lw_p4, List.forall_mem_cons.mpr ⟨lw_p5, List.forall_mem_cons.mpr ⟨lw_p6, List.forall_mem_cons.mpr ⟨lw_p7, List.forall_mem_cons.mpr ⟨lw_p8, List.forall_mem_cons.mpr ⟨lw_p9, List.forall_mem_cons.mpr ⟨lw_p10, List.forall_mem_cons.mpr ⟨lw_p11, List.forall_mem_cons.mpr ⟨lw_p12, List.forall_mem_cons.mpr ⟨lw_p13, List.forall_mem_cons.mpr ⟨lw_p14, List.forall_mem_cons.mpr ⟨lw_p15, fun _ h => absurd h List.not_mem_nil⟩⟩⟩⟩⟩⟩⟩⟩⟩⟩⟩⟩⟩⟩⟩⟩
theorem lw_p16 : lw_okq (⟨"MachineBench", "countHolders", "()I"⟩, 16) := ⟨⟨by decide +kernel, by decide +kernel⟩, List.mem_of_getElem? (i := 17) (by decide +kernel), List.mem_of_getElem? (i := 464) (by decide +kernel), List.mem_of_getElem? (i := 465) (by decide +kernel)⟩
theorem lw_p17 : lw_okq (⟨"MachineBench", "isHeld", "(II)Z"⟩, 16) := ⟨⟨by decide +kernel, by decide +kernel⟩, List.mem_of_getElem? (i := 17) (by decide +kernel), List.mem_of_getElem? (i := 468) (by decide +kernel), List.mem_of_getElem? (i := 469) (by decide +kernel)⟩
theorem lw_p18 : lw_okq (⟨"MachineBench", "noKeeper", "(I)Z"⟩, 16) := ⟨⟨by decide +kernel, by decide +kernel⟩, List.mem_of_getElem? (i := 17) (by decide +kernel), List.mem_of_getElem? (i := 499) (by decide +kernel), List.mem_of_getElem? (i := 500) (by decide +kernel)⟩
theorem lw_p19 : lw_okq (⟨"MachineBench", "seeByBook", "()V"⟩, 16) := ⟨⟨by decide +kernel, by decide +kernel⟩, List.mem_of_getElem? (i := 17) (by decide +kernel), List.mem_of_getElem? (i := 520) (by decide +kernel), List.mem_of_getElem? (i := 521) (by decide +kernel)⟩
theorem lw_p20 : lw_okq (⟨"MachineBench", "isUnlikePlayed", "(III)Z"⟩, 16) := ⟨⟨by decide +kernel, by decide +kernel⟩, List.mem_of_getElem? (i := 17) (by decide +kernel), List.mem_of_getElem? (i := 524) (by decide +kernel), List.mem_of_getElem? (i := 525) (by decide +kernel)⟩
theorem lw_p21 : lw_okq (⟨"MachineBench", "comesOtherwise", "(I)Z"⟩, 16) := ⟨⟨by decide +kernel, by decide +kernel⟩, List.mem_of_getElem? (i := 17) (by decide +kernel), List.mem_of_getElem? (i := 540) (by decide +kernel), List.mem_of_getElem? (i := 541) (by decide +kernel)⟩
theorem lw_p22 : lw_okq (⟨"MachineBench", "comesWithRules", "(I)Z"⟩, 16) := ⟨⟨by decide +kernel, by decide +kernel⟩, List.mem_of_getElem? (i := 17) (by decide +kernel), List.mem_of_getElem? (i := 548) (by decide +kernel), List.mem_of_getElem? (i := 549) (by decide +kernel)⟩
theorem lw_p23 : lw_okq (⟨"MachineBench", "noDoing", "()Z"⟩, 16) := ⟨⟨by decide +kernel, by decide +kernel⟩, List.mem_of_getElem? (i := 17) (by decide +kernel), List.mem_of_getElem? (i := 579) (by decide +kernel), List.mem_of_getElem? (i := 580) (by decide +kernel)⟩
theorem lw_p24 : lw_okq (⟨"MachineBench", "leastSet", "(Z)I"⟩, 16) := ⟨⟨by decide +kernel, by decide +kernel⟩, List.mem_of_getElem? (i := 17) (by decide +kernel), List.mem_of_getElem? (i := 587) (by decide +kernel), List.mem_of_getElem? (i := 588) (by decide +kernel)⟩
theorem lw_p25 : lw_okq (⟨"MachineBench", "tryAllSets", "()V"⟩, 16) := ⟨⟨by decide +kernel, by decide +kernel⟩, List.mem_of_getElem? (i := 17) (by decide +kernel), List.mem_of_getElem? (i := 591) (by decide +kernel), List.mem_of_getElem? (i := 592) (by decide +kernel)⟩
theorem lw_p26 : lw_okq (⟨"MachineBench", "isEnough", "(I)Z"⟩, 16) := ⟨⟨by decide +kernel, by decide +kernel⟩, List.mem_of_getElem? (i := 17) (by decide +kernel), List.mem_of_getElem? (i := 601) (by decide +kernel), List.mem_of_getElem? (i := 602) (by decide +kernel)⟩
theorem lw_p27 : lw_okq (⟨"MachineBench", "isBecause", "(I)Z"⟩, 16) := ⟨⟨by decide +kernel, by decide +kernel⟩, List.mem_of_getElem? (i := 17) (by decide +kernel), List.mem_of_getElem? (i := 605) (by decide +kernel), List.mem_of_getElem? (i := 606) (by decide +kernel)⟩
theorem lw_p28 : lw_okq (⟨"MachineBench", "comesWithMakers", "(I)Z"⟩, 16) := ⟨⟨by decide +kernel, by decide +kernel⟩, List.mem_of_getElem? (i := 17) (by decide +kernel), List.mem_of_getElem? (i := 621) (by decide +kernel), List.mem_of_getElem? (i := 622) (by decide +kernel)⟩
theorem lw_p29 : lw_okq (⟨"MachineBenchModel", "clause", "(I)V"⟩, 46) := ⟨⟨by decide +kernel, by decide +kernel⟩, List.mem_of_getElem? (i := 678) (by decide +kernel), List.mem_of_getElem? (i := 841) (by decide +kernel), List.mem_of_getElem? (i := 842) (by decide +kernel)⟩
theorem lw_p30 : lw_okq (⟨"MachineBenchModel", "digit", "()I"⟩, 46) := ⟨⟨by decide +kernel, by decide +kernel⟩, List.mem_of_getElem? (i := 678) (by decide +kernel), List.mem_of_getElem? (i := 845) (by decide +kernel), List.mem_of_getElem? (i := 846) (by decide +kernel)⟩
theorem lw_p31 : lw_okq (⟨"MachineBenchModel", "next", "()I"⟩, 46) := ⟨⟨by decide +kernel, by decide +kernel⟩, List.mem_of_getElem? (i := 678) (by decide +kernel), List.mem_of_getElem? (i := 849) (by decide +kernel), List.mem_of_getElem? (i := 850) (by decide +kernel)⟩
def lw_privs_2 : List (MethodName × Nat) := [(⟨"MachineBench", "countHolders", "()I"⟩, 16), (⟨"MachineBench", "isHeld", "(II)Z"⟩, 16), (⟨"MachineBench", "noKeeper", "(I)Z"⟩, 16), (⟨"MachineBench", "seeByBook", "()V"⟩, 16), (⟨"MachineBench", "isUnlikePlayed", "(III)Z"⟩, 16), (⟨"MachineBench", "comesOtherwise", "(I)Z"⟩, 16), (⟨"MachineBench", "comesWithRules", "(I)Z"⟩, 16), (⟨"MachineBench", "noDoing", "()Z"⟩, 16), (⟨"MachineBench", "leastSet", "(Z)I"⟩, 16), (⟨"MachineBench", "tryAllSets", "()V"⟩, 16), (⟨"MachineBench", "isEnough", "(I)Z"⟩, 16), (⟨"MachineBench", "isBecause", "(I)Z"⟩, 16), (⟨"MachineBench", "comesWithMakers", "(I)Z"⟩, 16), (⟨"MachineBenchModel", "clause", "(I)V"⟩, 46), (⟨"MachineBenchModel", "digit", "()I"⟩, 46), (⟨"MachineBenchModel", "next", "()I"⟩, 46)]
theorem lw_r2 : ∀ q ∈ lw_privs_2, lw_okq q := List.forall_mem_cons.mpr ⟨lw_p16, List.forall_mem_cons.mpr ⟨lw_p17, List.forall_mem_cons.mpr ⟨lw_p18, List.forall_mem_cons.mpr ⟨lw_p19, List.forall_mem_cons.mpr ⟨lw_p20, List.forall_mem_cons.mpr ⟨lw_p21, List.forall_mem_cons.mpr ⟨lw_p22, List.forall_mem_cons.mpr ⟨lw_p23, List.forall_mem_cons.mpr ⟨lw_p24, List.forall_mem_cons.mpr ⟨lw_p25, List.forall_mem_cons.mpr ⟨lw_p26, List.forall_mem_cons.mpr ⟨lw_p27, List.forall_mem_cons.mpr ⟨lw_p28, List.forall_mem_cons.mpr ⟨lw_p29, List.forall_mem_cons.mpr ⟨lw_p30, List.forall_mem_cons.mpr ⟨lw_p31, fun _ h => absurd h List.not_mem_nil⟩⟩⟩⟩⟩⟩⟩⟩⟩⟩⟩⟩⟩⟩⟩⟩
theorem lw_p32 : lw_okq (⟨"MachineBenchModel", "test", "(IIZ)Z"⟩, 46) := ⟨⟨by decide +kernel, by decide +kernel⟩, List.mem_of_getElem? (i := 678) (by decide +kernel), List.mem_of_getElem? (i := 855) (by decide +kernel), List.mem_of_getElem? (i := 856) (by decide +kernel)⟩
theorem lw_p33 : lw_okq (⟨"MachineBenchModel", "passes", "(I)Z"⟩, 46) := ⟨⟨by decide +kernel, by decide +kernel⟩, List.mem_of_getElem? (i := 678) (by decide +kernel), List.mem_of_getElem? (i := 859) (by decide +kernel), List.mem_of_getElem? (i := 860) (by decide +kernel)⟩
theorem lw_p34 : lw_okq (⟨"MachineBenchModel", "claim", "(IIZ)Z"⟩, 46) := ⟨⟨by decide +kernel, by decide +kernel⟩, List.mem_of_getElem? (i := 678) (by decide +kernel), List.mem_of_getElem? (i := 863) (by decide +kernel), List.mem_of_getElem? (i := 864) (by decide +kernel)⟩
theorem lw_p35 : lw_okq (⟨"MachineBenchModel", "isTick", "(I)Z"⟩, 46) := ⟨⟨by decide +kernel, by decide +kernel⟩, List.mem_of_getElem? (i := 678) (by decide +kernel), List.mem_of_getElem? (i := 881) (by decide +kernel), List.mem_of_getElem? (i := 882) (by decide +kernel)⟩
theorem lw_p36 : lw_okq (⟨"MachineBenchModel", "finds", "(IIII)I"⟩, 46) := ⟨⟨by decide +kernel, by decide +kernel⟩, List.mem_of_getElem? (i := 678) (by decide +kernel), List.mem_of_getElem? (i := 894) (by decide +kernel), List.mem_of_getElem? (i := 895) (by decide +kernel)⟩
theorem lw_p37 : lw_okq (⟨"MachineBenchModel", "lays", "()V"⟩, 46) := ⟨⟨by decide +kernel, by decide +kernel⟩, List.mem_of_getElem? (i := 678) (by decide +kernel), List.mem_of_getElem? (i := 906) (by decide +kernel), List.mem_of_getElem? (i := 907) (by decide +kernel)⟩
theorem lw_p38 : lw_okq (⟨"MachineBenchModel", "plays", "(II)V"⟩, 46) := ⟨⟨by decide +kernel, by decide +kernel⟩, List.mem_of_getElem? (i := 678) (by decide +kernel), List.mem_of_getElem? (i := 910) (by decide +kernel), List.mem_of_getElem? (i := 911) (by decide +kernel)⟩
theorem lw_p39 : lw_okq (⟨"MachineBenchModel", "chosen", "(III)I"⟩, 46) := ⟨⟨by decide +kernel, by decide +kernel⟩, List.mem_of_getElem? (i := 678) (by decide +kernel), List.mem_of_getElem? (i := 914) (by decide +kernel), List.mem_of_getElem? (i := 915) (by decide +kernel)⟩
theorem lw_p40 : lw_okq (⟨"MachineBenchModel", "writes", "(III)V"⟩, 46) := ⟨⟨by decide +kernel, by decide +kernel⟩, List.mem_of_getElem? (i := 678) (by decide +kernel), List.mem_of_getElem? (i := 926) (by decide +kernel), List.mem_of_getElem? (i := 927) (by decide +kernel)⟩
theorem lw_p41 : lw_okq (⟨"MachineBenchModel", "loses", "(II)I"⟩, 46) := ⟨⟨by decide +kernel, by decide +kernel⟩, List.mem_of_getElem? (i := 678) (by decide +kernel), List.mem_of_getElem? (i := 930) (by decide +kernel), List.mem_of_getElem? (i := 931) (by decide +kernel)⟩
theorem lw_p42 : lw_okq (⟨"MachineBenchModel", "isLine", "(I)Z"⟩, 46) := ⟨⟨by decide +kernel, by decide +kernel⟩, List.mem_of_getElem? (i := 678) (by decide +kernel), List.mem_of_getElem? (i := 944) (by decide +kernel), List.mem_of_getElem? (i := 945) (by decide +kernel)⟩
theorem lw_p43 : lw_okq (⟨"MachineBenchModel", "seal", "()V"⟩, 46) := ⟨⟨by decide +kernel, by decide +kernel⟩, List.mem_of_getElem? (i := 678) (by decide +kernel), List.mem_of_getElem? (i := 949) (by decide +kernel), List.mem_of_getElem? (i := 950) (by decide +kernel)⟩
theorem lw_p44 : lw_okq (⟨"MachineBenchModel", "isHeld", "(I)Z"⟩, 46) := ⟨⟨by decide +kernel, by decide +kernel⟩, List.mem_of_getElem? (i := 678) (by decide +kernel), List.mem_of_getElem? (i := 953) (by decide +kernel), List.mem_of_getElem? (i := 954) (by decide +kernel)⟩
theorem lw_p45 : lw_okq (⟨"MachineBenchModel", "moves", "(II)V"⟩, 46) := ⟨⟨by decide +kernel, by decide +kernel⟩, List.mem_of_getElem? (i := 678) (by decide +kernel), List.mem_of_getElem? (i := 968) (by decide +kernel), List.mem_of_getElem? (i := 969) (by decide +kernel)⟩
theorem lw_p46 : lw_okq (⟨"MachineBenchModel", "comesBy", "(II)Z"⟩, 46) := ⟨⟨by decide +kernel, by decide +kernel⟩, List.mem_of_getElem? (i := 678) (by decide +kernel), List.mem_of_getElem? (i := 1001) (by decide +kernel), List.mem_of_getElem? (i := 1002) (by decide +kernel)⟩
theorem lw_p47 : lw_okq (⟨"MachineBenchModel", "isTold", "()Z"⟩, 46) := ⟨⟨by decide +kernel, by decide +kernel⟩, List.mem_of_getElem? (i := 678) (by decide +kernel), List.mem_of_getElem? (i := 1018) (by decide +kernel), List.mem_of_getElem? (i := 1019) (by decide +kernel)⟩
def lw_privs_3 : List (MethodName × Nat) := [(⟨"MachineBenchModel", "test", "(IIZ)Z"⟩, 46), (⟨"MachineBenchModel", "passes", "(I)Z"⟩, 46), (⟨"MachineBenchModel", "claim", "(IIZ)Z"⟩, 46), (⟨"MachineBenchModel", "isTick", "(I)Z"⟩, 46), (⟨"MachineBenchModel", "finds", "(IIII)I"⟩, 46), (⟨"MachineBenchModel", "lays", "()V"⟩, 46), (⟨"MachineBenchModel", "plays", "(II)V"⟩, 46), (⟨"MachineBenchModel", "chosen", "(III)I"⟩, 46), (⟨"MachineBenchModel", "writes", "(III)V"⟩, 46), (⟨"MachineBenchModel", "loses", "(II)I"⟩, 46), (⟨"MachineBenchModel", "isLine", "(I)Z"⟩, 46), (⟨"MachineBenchModel", "seal", "()V"⟩, 46), (⟨"MachineBenchModel", "isHeld", "(I)Z"⟩, 46), (⟨"MachineBenchModel", "moves", "(II)V"⟩, 46), (⟨"MachineBenchModel", "comesBy", "(II)Z"⟩, 46), (⟨"MachineBenchModel", "isTold", "()Z"⟩, 46)]
theorem lw_r3 : ∀ q ∈ lw_privs_3, lw_okq q := List.forall_mem_cons.mpr ⟨lw_p32, List.forall_mem_cons.mpr ⟨lw_p33, List.forall_mem_cons.mpr ⟨lw_p34, List.forall_mem_cons.mpr ⟨lw_p35, List.forall_mem_cons.mpr ⟨lw_p36, List.forall_mem_cons.mpr ⟨lw_p37, List.forall_mem_cons.mpr ⟨lw_p38, List.forall_mem_cons.mpr ⟨lw_p39, List.forall_mem_cons.mpr ⟨lw_p40, List.forall_mem_cons.mpr ⟨lw_p41, List.forall_mem_cons.mpr ⟨lw_p42, List.forall_mem_cons.mpr ⟨lw_p43, List.forall_mem_cons.mpr ⟨lw_p44, List.forall_mem_cons.mpr ⟨lw_p45, List.forall_mem_cons.mpr ⟨lw_p46, List.forall_mem_cons.mpr ⟨lw_p47, fun _ h => absurd h List.not_mem_nil⟩⟩⟩⟩⟩⟩⟩⟩⟩⟩⟩⟩⟩⟩⟩⟩
theorem lw_p48 : lw_okq (⟨"MachineBenchModel", "leastOf", "(I)I"⟩, 46) := ⟨⟨by decide +kernel, by decide +kernel⟩, List.mem_of_getElem? (i := 678) (by decide +kernel), List.mem_of_getElem? (i := 1026) (by decide +kernel), List.mem_of_getElem? (i := 1027) (by decide +kernel)⟩
theorem lw_p49 : lw_okq (⟨"MachineBenchModel", "tries", "()V"⟩, 46) := ⟨⟨by decide +kernel, by decide +kernel⟩, List.mem_of_getElem? (i := 678) (by decide +kernel), List.mem_of_getElem? (i := 1030) (by decide +kernel), List.mem_of_getElem? (i := 1031) (by decide +kernel)⟩
theorem lw_p50 : lw_okq (⟨"MachineBenchModel", "isSuch", "(II)Z"⟩, 46) := ⟨⟨by decide +kernel, by decide +kernel⟩, List.mem_of_getElem? (i := 678) (by decide +kernel), List.mem_of_getElem? (i := 1034) (by decide +kernel), List.mem_of_getElem? (i := 1035) (by decide +kernel)⟩
theorem lw_p51 : lw_okq (⟨"MachineBenchModel", "actAt", "(I)I"⟩, 46) := ⟨⟨by decide +kernel, by decide +kernel⟩, List.mem_of_getElem? (i := 678) (by decide +kernel), List.mem_of_getElem? (i := 1061) (by decide +kernel), List.mem_of_getElem? (i := 1062) (by decide +kernel)⟩
def lw_privs_4 : List (MethodName × Nat) := [(⟨"MachineBenchModel", "leastOf", "(I)I"⟩, 46), (⟨"MachineBenchModel", "tries", "()V"⟩, 46), (⟨"MachineBenchModel", "isSuch", "(II)Z"⟩, 46), (⟨"MachineBenchModel", "actAt", "(I)I"⟩, 46)]
theorem lw_r4 : ∀ q ∈ lw_privs_4, lw_okq q := List.forall_mem_cons.mpr ⟨lw_p48, List.forall_mem_cons.mpr ⟨lw_p49, List.forall_mem_cons.mpr ⟨lw_p50, List.forall_mem_cons.mpr ⟨lw_p51, fun _ h => absurd h List.not_mem_nil⟩⟩⟩⟩
def lw_privs : List (MethodName × Nat) := lw_privs_1 ++ (lw_privs_2 ++ (lw_privs_3 ++ (lw_privs_4)))
def lw_tbl : List Cond := k2_sels lw_privs ++ tables_1
theorem lw_privs_ok : ∀ q ∈ lw_privs, lw_okq q := by
  show ∀ q ∈ lw_privs_1 ++ (lw_privs_2 ++ (lw_privs_3 ++ (lw_privs_4))), lw_okq q
  exact List.forall_mem_append.mpr ⟨lw_r1, List.forall_mem_append.mpr ⟨lw_r2, List.forall_mem_append.mpr ⟨lw_r3, lw_r4⟩⟩⟩
def RX0 : String := "MachineBench$Book"
def TX0 : u_T := fun k => match k with
  | 0 => ("MachineBench$Book", "column", "[[I", true)
  | _ => ("MachineBench$Book", "size", "I", false)
def tyX0 : Nat → FieldType := fun k => match k with
  | 0 => .array (.array .int)
  | _ => .int
abbrev wsX00 : List Cond := u_ws RX0 TX0 2
theorem nmX0 : ∀ a, a < 2 → ∀ b, b < 2 → a ≠ b → (TX0 a).2.1 ≠ (TX0 b).2.1 := by decide +kernel
theorem tyX0_ok : ∀ k, k < 2 → parseFieldDescriptor (TX0 k).2.2.1 = some (tyX0 k) := by decide +kernel
abbrev cX0_init : ByteArray := prog_2_method_1_code
def yX0_init : MethodName := ⟨RX0, "<init>", "()V"⟩
abbrev cX0_add : ByteArray := prog_2_method_2_code
def yX0_add : MethodName := ⟨RX0, "add", "(III)V"⟩
abbrev cX0_lose : ByteArray := prog_2_method_3_code
def yX0_lose : MethodName := ⟨RX0, "lose", "(I)V"⟩
abbrev cX0_sealAll : ByteArray := prog_2_method_4_code
def yX0_sealAll : MethodName := ⟨RX0, "sealAll", "()V"⟩
abbrev cX0_exchange : ByteArray := prog_2_method_5_code
def yX0_exchange : MethodName := ⟨RX0, "exchange", "(II)V"⟩
abbrev cX0_takeOut : ByteArray := prog_2_method_6_code
def yX0_takeOut : MethodName := ⟨RX0, "takeOut", "(I)V"⟩
abbrev cX0_countLost : ByteArray := prog_2_method_7_code
def yX0_countLost : MethodName := ⟨RX0, "countLost", "()I"⟩
def RX1 : String := "MachineBench$Keeper"
def TX1 : u_T := fun k => match k with
  | 0 => ("MachineBench$Keeper", "seal", "[I", true)
  | _ => ("MachineBench$Keeper", "size", "I", false)
def tyX1 : Nat → FieldType := fun k => match k with
  | 0 => .array .int
  | _ => .int
abbrev wsX10 : List Cond := u_ws RX1 TX1 2
theorem nmX1 : ∀ a, a < 2 → ∀ b, b < 2 → a ≠ b → (TX1 a).2.1 ≠ (TX1 b).2.1 := by decide +kernel
theorem tyX1_ok : ∀ k, k < 2 → parseFieldDescriptor (TX1 k).2.2.1 = some (tyX1 k) := by decide +kernel
abbrev cX1_init : ByteArray := prog_3_method_1_code
def yX1_init : MethodName := ⟨RX1, "<init>", "()V"⟩
abbrev cX1_hold : ByteArray := prog_3_method_2_code
def yX1_hold : MethodName := ⟨RX1, "hold", "(LMachineBench$Book;)V"⟩
def RX2 : String := "MachineBench$Machine"
def TX2 : u_T := fun k => match k with
  | 0 => ("MachineBench$Machine", "maker", "[I", true)
  | 1 => ("MachineBench$Machine", "act", "[I", true)
  | 2 => ("MachineBench$Machine", "next", "[I", true)
  | 3 => ("MachineBench$Machine", "holds", "[[I", true)
  | _ => ("MachineBench$Machine", "size", "I", false)
def tyX2 : Nat → FieldType := fun k => match k with
  | 0 => .array .int
  | 1 => .array .int
  | 2 => .array .int
  | 3 => .array (.array .int)
  | _ => .int
abbrev wsX20 : List Cond := u_ws RX2 TX2 5
theorem nmX2 : ∀ a, a < 5 → ∀ b, b < 5 → a ≠ b → (TX2 a).2.1 ≠ (TX2 b).2.1 := by decide +kernel
theorem tyX2_ok : ∀ k, k < 5 → parseFieldDescriptor (TX2 k).2.2.1 = some (tyX2 k) := by decide +kernel
abbrev cX2_init : ByteArray := prog_4_method_1_code
def yX2_init : MethodName := ⟨RX2, "<init>", "()V"⟩
abbrev cX2_choose : ByteArray := prog_4_method_2_code
def yX2_choose : MethodName := ⟨RX2, "choose", "(III)I"⟩
abbrev cX2_actOf : ByteArray := prog_4_method_3_code
def yX2_actOf : MethodName := ⟨RX2, "actOf", "(I)I"⟩
abbrev cX2_stateAfter : ByteArray := prog_4_method_4_code
def yX2_stateAfter : MethodName := ⟨RX2, "stateAfter", "(II)I"⟩
abbrev cX2_rulesOf : ByteArray := prog_4_method_5_code
def yX2_rulesOf : MethodName := ⟨RX2, "rulesOf", "(I)I"⟩
def RX3 : String := "MachineBench$Play"
def TX3 : u_T := fun k => match k with
  | 0 => ("MachineBench$Play", "sight", "[I", true)
  | 1 => ("MachineBench$Play", "lot", "[I", true)
  | 2 => ("MachineBench$Play", "state", "[I", true)
  | 3 => ("MachineBench$Play", "chosen", "[I", true)
  | _ => ("MachineBench$Play", "act", "[I", true)
def tyX3 : Nat → FieldType := fun k => match k with
  | 0 => .array .int
  | 1 => .array .int
  | 2 => .array .int
  | 3 => .array .int
  | _ => .array .int
abbrev wsX30 : List Cond := u_ws RX3 TX3 5
theorem nmX3 : ∀ a, a < 5 → ∀ b, b < 5 → a ≠ b → (TX3 a).2.1 ≠ (TX3 b).2.1 := by decide +kernel
theorem tyX3_ok : ∀ k, k < 5 → parseFieldDescriptor (TX3 k).2.2.1 = some (tyX3 k) := by decide +kernel
abbrev cX3_init : ByteArray := prog_5_method_1_code
def yX3_init : MethodName := ⟨RX3, "<init>", "()V"⟩
abbrev cX3_look : ByteArray := prog_5_method_2_code
def yX3_look : MethodName := ⟨RX3, "look", "(LMachineBench$World;)V"⟩
abbrev cX3_hide : ByteArray := prog_5_method_3_code
def yX3_hide : MethodName := ⟨RX3, "hide", "(LMachineBench$World;)V"⟩
abbrev cX3_run : ByteArray := prog_5_method_4_code
def yX3_run : MethodName := ⟨RX3, "run", "(LMachineBench$Machine;II)V"⟩
def RX4 : String := "MachineBench$Reader"
def TX4 : u_T := fun k => match k with
  | 0 => ("MachineBench$Reader", "tape", "LMachineBench$Tape;", true)
  | 1 => ("MachineBench$Reader", "anyCase", "[[I", true)
  | 2 => ("MachineBench$Reader", "allClaims", "[[I", true)
  | 3 => ("MachineBench$Reader", "claim", "[I", true)
  | 4 => ("MachineBench$Reader", "actsToo", "Z", false)
  | 5 => ("MachineBench$Reader", "failed", "Z", false)
  | _ => ("MachineBench$Reader", "place", "I", false)
def tyX4 : Nat → FieldType := fun k => match k with
  | 0 => .object "MachineBench$Tape"
  | 1 => .array (.array .int)
  | 2 => .array (.array .int)
  | 3 => .array .int
  | 4 => .boolean
  | 5 => .boolean
  | _ => .int
abbrev wsX40 : List Cond := u_ws RX4 TX4 7
theorem nmX4 : ∀ a, a < 7 → ∀ b, b < 7 → a ≠ b → (TX4 a).2.1 ≠ (TX4 b).2.1 := by decide +kernel
theorem tyX4_ok : ∀ k, k < 7 → parseFieldDescriptor (TX4 k).2.2.1 = some (tyX4 k) := by decide +kernel
abbrev cX4_init : ByteArray := prog_6_method_1_code
def yX4_init : MethodName := ⟨RX4, "<init>", "(LMachineBench$Tape;)V"⟩
abbrev cX4_readRules : ByteArray := prog_6_method_2_code
def yX4_readRules : MethodName := ⟨RX4, "readRules", "(LMachineBench$Machine;)I"⟩
abbrev cX4_readDuty : ByteArray := prog_6_method_3_code
def yX4_readDuty : MethodName := ⟨RX4, "readDuty", "([I)I"⟩
abbrev cX4_start : ByteArray := prog_6_method_4_code
def yX4_start : MethodName := ⟨RX4, "start", "(Z)V"⟩
abbrev cX4_readClause : ByteArray := prog_6_method_5_code
def yX4_readClause : MethodName := ⟨RX4, "readClause", "(LMachineBench$Machine;I)V"⟩
abbrev cX4_readTest : ByteArray := prog_6_method_6_code
def yX4_readTest : MethodName := ⟨RX4, "readTest", "(I)V"⟩
abbrev cX4_readCase : ByteArray := prog_6_method_7_code
def yX4_readCase : MethodName := ⟨RX4, "readCase", "(I)V"⟩
abbrev cX4_readClaim : ByteArray := prog_6_method_8_code
def yX4_readClaim : MethodName := ⟨RX4, "readClaim", "(I)V"⟩
abbrev cX4_claimWords : ByteArray := prog_6_method_9_code
def yX4_claimWords : MethodName := ⟨RX4, "claimWords", "(IZ)V"⟩
abbrev cX4_takes : ByteArray := prog_6_method_10_code
def yX4_takes : MethodName := ⟨RX4, "takes", "(C)Z"⟩
abbrev cX4_need : ByteArray := prog_6_method_11_code
def yX4_need : MethodName := ⟨RX4, "need", "(C)V"⟩
abbrev cX4_needEnd : ByteArray := prog_6_method_12_code
def yX4_needEnd : MethodName := ⟨RX4, "needEnd", "()V"⟩
abbrev cX4_takeDigit : ByteArray := prog_6_method_13_code
def yX4_takeDigit : MethodName := ⟨RX4, "takeDigit", "()I"⟩
abbrev cX4_nextSign : ByteArray := prog_6_method_14_code
def yX4_nextSign : MethodName := ⟨RX4, "nextSign", "()I"⟩
def RX5 : String := "MachineBench$Sheet"
def TX5 : u_T := fun k => match k with
  | 0 => ("MachineBench$Sheet", "row", "[I", true)
  | 1 => ("MachineBench$Sheet", "lane", "I", false)
  | _ => ("MachineBench$Sheet", "size", "I", false)
def tyX5 : Nat → FieldType := fun k => match k with
  | 0 => .array .int
  | 1 => .int
  | _ => .int
abbrev wsX50 : List Cond := u_ws RX5 TX5 3
theorem nmX5 : ∀ a, a < 3 → ∀ b, b < 3 → a ≠ b → (TX5 a).2.1 ≠ (TX5 b).2.1 := by decide +kernel
theorem tyX5_ok : ∀ k, k < 3 → parseFieldDescriptor (TX5 k).2.2.1 = some (tyX5 k) := by decide +kernel
abbrev cX5_init : ByteArray := prog_7_method_1_code
def yX5_init : MethodName := ⟨RX5, "<init>", "()V"⟩
abbrev cX5_renew : ByteArray := prog_7_method_2_code
def yX5_renew : MethodName := ⟨RX5, "renew", "(II)V"⟩
abbrev cX5_lacks : ByteArray := prog_7_method_3_code
def yX5_lacks : MethodName := ⟨RX5, "lacks", "(II)Z"⟩
abbrev cX5_findFault : ByteArray := prog_7_method_4_code
def yX5_findFault : MethodName := ⟨RX5, "findFault", "(III)I"⟩
def RX6 : String := "MachineBench$Tape"
def TX6 : u_T := fun k => match k with
  | 0 => ("MachineBench$Tape", "sign", "[I", true)
  | _ => ("MachineBench$Tape", "size", "I", false)
def tyX6 : Nat → FieldType := fun k => match k with
  | 0 => .array .int
  | _ => .int
abbrev wsX60 : List Cond := u_ws RX6 TX6 2
theorem nmX6 : ∀ a, a < 2 → ∀ b, b < 2 → a ≠ b → (TX6 a).2.1 ≠ (TX6 b).2.1 := by decide +kernel
theorem tyX6_ok : ∀ k, k < 2 → parseFieldDescriptor (TX6 k).2.2.1 = some (tyX6 k) := by decide +kernel
abbrev cX6_init : ByteArray := prog_8_method_1_code
def yX6_init : MethodName := ⟨RX6, "<init>", "()V"⟩
abbrev cX6_add : ByteArray := prog_8_method_2_code
def yX6_add : MethodName := ⟨RX6, "add", "(I)V"⟩
def RX7 : String := "MachineBench$Things"
def TX7 : u_T := fun k => match k with
  | 0 => ("MachineBench$Things", "kind", "[I", true)
  | 1 => ("MachineBench$Things", "tick", "[I", true)
  | 2 => ("MachineBench$Things", "number", "[I", true)
  | _ => ("MachineBench$Things", "size", "I", false)
def tyX7 : Nat → FieldType := fun k => match k with
  | 0 => .array .int
  | 1 => .array .int
  | 2 => .array .int
  | _ => .int
abbrev wsX70 : List Cond := u_ws RX7 TX7 4
theorem nmX7 : ∀ a, a < 4 → ∀ b, b < 4 → a ≠ b → (TX7 a).2.1 ≠ (TX7 b).2.1 := by decide +kernel
theorem tyX7_ok : ∀ k, k < 4 → parseFieldDescriptor (TX7 k).2.2.1 = some (tyX7 k) := by decide +kernel
abbrev cX7_init : ByteArray := prog_9_method_1_code
def yX7_init : MethodName := ⟨RX7, "<init>", "()V"⟩
abbrev cX7_has : ByteArray := prog_9_method_2_code
def yX7_has : MethodName := ⟨RX7, "has", "(III)Z"⟩
abbrev cX7_add : ByteArray := prog_9_method_3_code
def yX7_add : MethodName := ⟨RX7, "add", "(III)V"⟩
abbrev cX7_allBits : ByteArray := prog_9_method_4_code
def yX7_allBits : MethodName := ⟨RX7, "allBits", "()I"⟩
abbrev cX7_undo : ByteArray := prog_9_method_5_code
def yX7_undo : MethodName := ⟨RX7, "undo", "(ILMachineBench$Play;)I"⟩
def RX8 : String := "MachineBench$World"
def TX8 : u_T := fun k => match k with
  | 0 => ("MachineBench$World", "row", "[[I", true)
  | _ => ("MachineBench$World", "size", "I", false)
def tyX8 : Nat → FieldType := fun k => match k with
  | 0 => .array (.array .int)
  | _ => .int
abbrev wsX80 : List Cond := u_ws RX8 TX8 2
theorem nmX8 : ∀ a, a < 2 → ∀ b, b < 2 → a ≠ b → (TX8 a).2.1 ≠ (TX8 b).2.1 := by decide +kernel
theorem tyX8_ok : ∀ k, k < 2 → parseFieldDescriptor (TX8 k).2.2.1 = some (tyX8 k) := by decide +kernel
abbrev cX8_init : ByteArray := prog_10_method_1_code
def yX8_init : MethodName := ⟨RX8, "<init>", "()V"⟩
abbrev cX8_resize : ByteArray := prog_10_method_2_code
def yX8_resize : MethodName := ⟨RX8, "resize", "(I)V"⟩
def RX9 : String := "MachineBench"
def TX9 : u_T := fun k => match k with
  | 0 => ("MachineBench", "tape", "LMachineBench$Tape;", true)
  | 1 => ("MachineBench", "reader", "LMachineBench$Reader;", true)
  | 2 => ("MachineBench", "machines", "[LMachineBench$Machine;", true)
  | 3 => ("MachineBench", "draft", "LMachineBench$Machine;", false)
  | 4 => ("MachineBench", "theWorld", "LMachineBench$World;", true)
  | 5 => ("MachineBench", "scene", "LMachineBench$Play;", true)
  | 6 => ("MachineBench", "book", "LMachineBench$Book;", true)
  | 7 => ("MachineBench", "keepers", "[LMachineBench$Keeper;", true)
  | 8 => ("MachineBench", "things", "LMachineBench$Things;", true)
  | 9 => ("MachineBench", "comes", "[Z", true)
  | 10 => ("MachineBench", "actAt", "[I", true)
  | 11 => ("MachineBench", "dutyHolds", "[I", true)
  | 12 => ("MachineBench", "sheets", "[LMachineBench$Sheet;", true)
  | 13 => ("MachineBench", "dutyTold", "Z", false)
  | 14 => ("MachineBench", "doingAct", "I", false)
  | _ => ("MachineBench", "doingTick", "I", false)
def tyX9 : Nat → FieldType := fun k => match k with
  | 0 => .object "MachineBench$Tape"
  | 1 => .object "MachineBench$Reader"
  | 2 => .array (.object "MachineBench$Machine")
  | 3 => .object "MachineBench$Machine"
  | 4 => .object "MachineBench$World"
  | 5 => .object "MachineBench$Play"
  | 6 => .object "MachineBench$Book"
  | 7 => .array (.object "MachineBench$Keeper")
  | 8 => .object "MachineBench$Things"
  | 9 => .array .boolean
  | 10 => .array .int
  | 11 => .array .int
  | 12 => .array (.object "MachineBench$Sheet")
  | 13 => .boolean
  | 14 => .int
  | _ => .int
abbrev wsX90 : List Cond := u_ws RX9 TX9 16
theorem nmX9 : ∀ a, a < 16 → ∀ b, b < 16 → a ≠ b → (TX9 a).2.1 ≠ (TX9 b).2.1 := by decide +kernel
theorem tyX9_ok : ∀ k, k < 16 → parseFieldDescriptor (TX9 k).2.2.1 = some (tyX9 k) := by decide +kernel
abbrev cX9_init : ByteArray := prog_1_method_1_code
def yX9_init : MethodName := ⟨RX9, "<init>", "()V"⟩
abbrev cX9_type : ByteArray := prog_1_method_2_code
def yX9_type : MethodName := ⟨RX9, "type", "(JI)I"⟩
abbrev cX9_rules : ByteArray := prog_1_method_3_code
def yX9_rules : MethodName := ⟨RX9, "rules", "(I)I"⟩
abbrev cX9_rule : ByteArray := prog_1_method_4_code
def yX9_rule : MethodName := ⟨RX9, "rule", "(III)I"⟩
abbrev cX9_ticks : ByteArray := prog_1_method_5_code
def yX9_ticks : MethodName := ⟨RX9, "ticks", "(I)I"⟩
abbrev cX9_world : ByteArray := prog_1_method_6_code
def yX9_world : MethodName := ⟨RX9, "world", "(III)I"⟩
abbrev cX9_sights : ByteArray := prog_1_method_7_code
def yX9_sights : MethodName := ⟨RX9, "sights", "(III)I"⟩
abbrev cX9_lots : ByteArray := prog_1_method_8_code
def yX9_lots : MethodName := ⟨RX9, "lots", "(II)I"⟩
abbrev cX9_play : ByteArray := prog_1_method_9_code
def yX9_play : MethodName := ⟨RX9, "play", "(III)I"⟩
abbrev cX9_chooses : ByteArray := prog_1_method_10_code
def yX9_chooses : MethodName := ⟨RX9, "chooses", "(IIII)I"⟩
abbrev cX9_write : ByteArray := prog_1_method_11_code
def yX9_write : MethodName := ⟨RX9, "write", "(I)I"⟩
abbrev cX9_tell : ByteArray := prog_1_method_12_code
def yX9_tell : MethodName := ⟨RX9, "tell", "(II)I"⟩
abbrev cX9_line : ByteArray := prog_1_method_13_code
def yX9_line : MethodName := ⟨RX9, "line", "(II)I"⟩
abbrev cX9_forge : ByteArray := prog_1_method_14_code
def yX9_forge : MethodName := ⟨RX9, "forge", "(II)I"⟩
abbrev cX9_swap : ByteArray := prog_1_method_15_code
def yX9_swap : MethodName := ⟨RX9, "swap", "(II)I"⟩
abbrev cX9_tear : ByteArray := prog_1_method_16_code
def yX9_tear : MethodName := ⟨RX9, "tear", "(I)I"⟩
abbrev cX9_give : ByteArray := prog_1_method_17_code
def yX9_give : MethodName := ⟨RX9, "give", "(I)I"⟩
abbrev cX9_kept : ByteArray := prog_1_method_18_code
def yX9_kept : MethodName := ⟨RX9, "kept", "(II)I"⟩
abbrev cX9_torn : ByteArray := prog_1_method_19_code
def yX9_torn : MethodName := ⟨RX9, "torn", "()I"⟩
abbrev cX9_differs : ByteArray := prog_1_method_20_code
def yX9_differs : MethodName := ⟨RX9, "differs", "()I"⟩
abbrev cX9_count : ByteArray := prog_1_method_21_code
def yX9_count : MethodName := ⟨RX9, "count", "(I)I"⟩
abbrev cX9_doing : ByteArray := prog_1_method_22_code
def yX9_doing : MethodName := ⟨RX9, "doing", "(II)I"⟩
abbrev cX9_thing : ByteArray := prog_1_method_23_code
def yX9_thing : MethodName := ⟨RX9, "thing", "(III)I"⟩
abbrev cX9_clear : ByteArray := prog_1_method_24_code
def yX9_clear : MethodName := ⟨RX9, "clear", "()I"⟩
abbrev cX9_otherwise : ByteArray := prog_1_method_25_code
def yX9_otherwise : MethodName := ⟨RX9, "otherwise", "(I)I"⟩
abbrev cX9_because : ByteArray := prog_1_method_26_code
def yX9_because : MethodName := ⟨RX9, "because", "()I"⟩
abbrev cX9_enough : ByteArray := prog_1_method_27_code
def yX9_enough : MethodName := ⟨RX9, "enough", "()I"⟩
abbrev cX9_sets : ByteArray := prog_1_method_28_code
def yX9_sets : MethodName := ⟨RX9, "sets", "(I)I"⟩
abbrev cX9_part : ByteArray := prog_1_method_29_code
def yX9_part : MethodName := ⟨RX9, "part", "(I)I"⟩
abbrev cX9_careful : ByteArray := prog_1_method_30_code
def yX9_careful : MethodName := ⟨RX9, "careful", "(II)I"⟩
abbrev cX9_saying : ByteArray := prog_1_method_31_code
def yX9_saying : MethodName := ⟨RX9, "saying", "(IZZ)I"⟩
abbrev cX9_duty : ByteArray := prog_1_method_32_code
def yX9_duty : MethodName := ⟨RX9, "duty", "()I"⟩
abbrev cX9_broken : ByteArray := prog_1_method_33_code
def yX9_broken : MethodName := ⟨RX9, "broken", "()I"⟩
abbrev cX9_sheet : ByteArray := prog_1_method_34_code
def yX9_sheet : MethodName := ⟨RX9, "sheet", "(III)I"⟩
abbrev cX9_drop : ByteArray := prog_1_method_35_code
def yX9_drop : MethodName := ⟨RX9, "drop", "(I)I"⟩
abbrev cX9_item : ByteArray := prog_1_method_36_code
def yX9_item : MethodName := ⟨RX9, "item", "(IIII)I"⟩
abbrev cX9_copy : ByteArray := prog_1_method_37_code
def yX9_copy : MethodName := ⟨RX9, "copy", "(IIIII)I"⟩
abbrev cX9_beyond : ByteArray := prog_1_method_38_code
def yX9_beyond : MethodName := ⟨RX9, "beyond", "(II)Z"⟩
abbrev cX9_byteOf : ByteArray := prog_1_method_39_code
def yX9_byteOf : MethodName := ⟨RX9, "byteOf", "(JI)I"⟩
abbrev cX9_noMachine : ByteArray := prog_1_method_40_code
def yX9_noMachine : MethodName := ⟨RX9, "noMachine", "(I)Z"⟩
abbrev cX9_noTick : ByteArray := prog_1_method_41_code
def yX9_noTick : MethodName := ⟨RX9, "noTick", "(I)Z"⟩
abbrev cX9_noSheet : ByteArray := prog_1_method_42_code
def yX9_noSheet : MethodName := ⟨RX9, "noSheet", "(I)Z"⟩
abbrev cX9_noLine : ByteArray := prog_1_method_43_code
def yX9_noLine : MethodName := ⟨RX9, "noLine", "(I)Z"⟩
abbrev cX9_noKeeper : ByteArray := prog_1_method_44_code
def yX9_noKeeper : MethodName := ⟨RX9, "noKeeper", "(I)Z"⟩
abbrev cX9_playAsIs : ByteArray := prog_1_method_45_code
def yX9_playAsIs : MethodName := ⟨RX9, "playAsIs", "(LMachineBench$Machine;)V"⟩
abbrev cX9_countHolders : ByteArray := prog_1_method_46_code
def yX9_countHolders : MethodName := ⟨RX9, "countHolders", "()I"⟩
abbrev cX9_isHeld : ByteArray := prog_1_method_47_code
def yX9_isHeld : MethodName := ⟨RX9, "isHeld", "(II)Z"⟩
abbrev cX9_seeByBook : ByteArray := prog_1_method_48_code
def yX9_seeByBook : MethodName := ⟨RX9, "seeByBook", "()V"⟩
abbrev cX9_isUnlikePlayed : ByteArray := prog_1_method_49_code
def yX9_isUnlikePlayed : MethodName := ⟨RX9, "isUnlikePlayed", "(III)Z"⟩
abbrev cX9_lastOfThing : ByteArray := prog_1_method_50_code
def yX9_lastOfThing : MethodName := ⟨RX9, "lastOfThing", "(I)I"⟩
abbrev cX9_noDoing : ByteArray := prog_1_method_51_code
def yX9_noDoing : MethodName := ⟨RX9, "noDoing", "()Z"⟩
abbrev cX9_comesOtherwise : ByteArray := prog_1_method_52_code
def yX9_comesOtherwise : MethodName := ⟨RX9, "comesOtherwise", "(I)Z"⟩
abbrev cX9_comesWithMakers : ByteArray := prog_1_method_53_code
def yX9_comesWithMakers : MethodName := ⟨RX9, "comesWithMakers", "(I)Z"⟩
abbrev cX9_comesWithRules : ByteArray := prog_1_method_54_code
def yX9_comesWithRules : MethodName := ⟨RX9, "comesWithRules", "(I)Z"⟩
abbrev cX9_tryAllSets : ByteArray := prog_1_method_55_code
def yX9_tryAllSets : MethodName := ⟨RX9, "tryAllSets", "()V"⟩
abbrev cX9_leastSet : ByteArray := prog_1_method_56_code
def yX9_leastSet : MethodName := ⟨RX9, "leastSet", "(Z)I"⟩
abbrev cX9_isBecause : ByteArray := prog_1_method_57_code
def yX9_isBecause : MethodName := ⟨RX9, "isBecause", "(I)Z"⟩
abbrev cX9_isEnough : ByteArray := prog_1_method_58_code
def yX9_isEnough : MethodName := ⟨RX9, "isEnough", "(I)Z"⟩
def RX10 : String := "MachineBenchModel"
def TX10 : u_T := fun k => match k with
  | 0 => ("MachineBenchModel", "tape", "[I", true)
  | 1 => ("MachineBenchModel", "taped", "I", false)
  | 2 => ("MachineBenchModel", "at", "I", false)
  | 3 => ("MachineBenchModel", "wrong", "Z", false)
  | 4 => ("MachineBenchModel", "ors", "[Z", true)
  | 5 => ("MachineBenchModel", "ands", "[Z", true)
  | 6 => ("MachineBenchModel", "nots", "[Z", true)
  | 7 => ("MachineBenchModel", "many", "[I", true)
  | 8 => ("MachineBenchModel", "makers", "[I", true)
  | 9 => ("MachineBenchModel", "acts", "[I", true)
  | 10 => ("MachineBenchModel", "comes", "[I", true)
  | 11 => ("MachineBenchModel", "holds", "[Z", true)
  | 12 => ("MachineBenchModel", "readMakers", "[I", true)
  | 13 => ("MachineBenchModel", "readActs", "[I", true)
  | 14 => ("MachineBenchModel", "readComes", "[I", true)
  | 15 => ("MachineBenchModel", "readHolds", "[Z", true)
  | 16 => ("MachineBenchModel", "tickMany", "I", false)
  | 17 => ("MachineBenchModel", "sightAt", "[I", true)
  | 18 => ("MachineBenchModel", "lotAt", "[I", true)
  | 19 => ("MachineBenchModel", "masks", "[I", true)
  | 20 => ("MachineBenchModel", "laidSights", "[I", true)
  | 21 => ("MachineBenchModel", "laidLots", "[I", true)
  | 22 => ("MachineBenchModel", "playedStates", "[I", true)
  | 23 => ("MachineBenchModel", "playedRules", "[I", true)
  | 24 => ("MachineBenchModel", "playedActs", "[I", true)
  | 25 => ("MachineBenchModel", "lines", "I", false)
  | 26 => ("MachineBenchModel", "kinds", "[I", true)
  | 27 => ("MachineBenchModel", "lineTicks", "[I", true)
  | 28 => ("MachineBenchModel", "numbers", "[I", true)
  | 29 => ("MachineBenchModel", "seals", "[I", true)
  | 30 => ("MachineBenchModel", "keptMany", "[I", true)
  | 31 => ("MachineBenchModel", "keptSeals", "[I", true)
  | 32 => ("MachineBenchModel", "doingAct", "I", false)
  | 33 => ("MachineBenchModel", "doingTick", "I", false)
  | 34 => ("MachineBenchModel", "things", "I", false)
  | 35 => ("MachineBenchModel", "thingKind", "[I", true)
  | 36 => ("MachineBenchModel", "thingTick", "[I", true)
  | 37 => ("MachineBenchModel", "thingNumber", "[I", true)
  | 38 => ("MachineBenchModel", "withSet", "[Z", true)
  | 39 => ("MachineBenchModel", "hasDuty", "Z", false)
  | 40 => ("MachineBenchModel", "dutyHolds", "[Z", true)
  | 41 => ("MachineBenchModel", "readDuty", "[Z", true)
  | 42 => ("MachineBenchModel", "lanes", "[I", true)
  | 43 => ("MachineBenchModel", "sizes", "[I", true)
  | 44 => ("MachineBenchModel", "items", "[I", true)
  | _ => ("MachineBenchModel", "moved", "[I", true)
def tyX10 : Nat → FieldType := fun k => match k with
  | 0 => .array .int
  | 1 => .int
  | 2 => .int
  | 3 => .boolean
  | 4 => .array .boolean
  | 5 => .array .boolean
  | 6 => .array .boolean
  | 7 => .array .int
  | 8 => .array .int
  | 9 => .array .int
  | 10 => .array .int
  | 11 => .array .boolean
  | 12 => .array .int
  | 13 => .array .int
  | 14 => .array .int
  | 15 => .array .boolean
  | 16 => .int
  | 17 => .array .int
  | 18 => .array .int
  | 19 => .array .int
  | 20 => .array .int
  | 21 => .array .int
  | 22 => .array .int
  | 23 => .array .int
  | 24 => .array .int
  | 25 => .int
  | 26 => .array .int
  | 27 => .array .int
  | 28 => .array .int
  | 29 => .array .int
  | 30 => .array .int
  | 31 => .array .int
  | 32 => .int
  | 33 => .int
  | 34 => .int
  | 35 => .array .int
  | 36 => .array .int
  | 37 => .array .int
  | 38 => .array .boolean
  | 39 => .boolean
  | 40 => .array .boolean
  | 41 => .array .boolean
  | 42 => .array .int
  | 43 => .array .int
  | 44 => .array .int
  | _ => .array .int
abbrev wsX100 : List Cond := u_ws RX10 TX10 46
theorem nmX10 : ∀ a, a < 46 → ∀ b, b < 46 → a ≠ b → (TX10 a).2.1 ≠ (TX10 b).2.1 := by decide +kernel
theorem tyX10_ok : ∀ k, k < 46 → parseFieldDescriptor (TX10 k).2.2.1 = some (tyX10 k) := by decide +kernel
abbrev cX10_in : ByteArray := prog_12_method_2_code
def yX10_in : MethodName := ⟨RX10, "in", "(JJJ)Z"⟩
abbrev cX10_init : ByteArray := prog_12_method_3_code
def yX10_init : MethodName := ⟨RX10, "<init>", "()V"⟩
abbrev cX10_type : ByteArray := prog_12_method_4_code
def yX10_type : MethodName := ⟨RX10, "type", "(JI)I"⟩
abbrev cX10_next : ByteArray := prog_12_method_5_code
def yX10_next : MethodName := ⟨RX10, "next", "()I"⟩
abbrev cX10_passes : ByteArray := prog_12_method_6_code
def yX10_passes : MethodName := ⟨RX10, "passes", "(I)Z"⟩
abbrev cX10_digit : ByteArray := prog_12_method_7_code
def yX10_digit : MethodName := ⟨RX10, "digit", "()I"⟩
abbrev cX10_claim : ByteArray := prog_12_method_8_code
def yX10_claim : MethodName := ⟨RX10, "claim", "(IIZ)Z"⟩
abbrev cX10_test : ByteArray := prog_12_method_9_code
def yX10_test : MethodName := ⟨RX10, "test", "(IIZ)Z"⟩
abbrev cX10_isMachine : ByteArray := prog_12_method_10_code
def yX10_isMachine : MethodName := ⟨RX10, "isMachine", "(I)Z"⟩
abbrev cX10_clause : ByteArray := prog_12_method_11_code
def yX10_clause : MethodName := ⟨RX10, "clause", "(I)V"⟩
abbrev cX10_rules : ByteArray := prog_12_method_12_code
def yX10_rules : MethodName := ⟨RX10, "rules", "(I)I"⟩
abbrev cX10_rule : ByteArray := prog_12_method_13_code
def yX10_rule : MethodName := ⟨RX10, "rule", "(III)I"⟩
abbrev cX10_ticks : ByteArray := prog_12_method_14_code
def yX10_ticks : MethodName := ⟨RX10, "ticks", "(I)I"⟩
abbrev cX10_isTick : ByteArray := prog_12_method_15_code
def yX10_isTick : MethodName := ⟨RX10, "isTick", "(I)Z"⟩
abbrev cX10_world : ByteArray := prog_12_method_16_code
def yX10_world : MethodName := ⟨RX10, "world", "(III)I"⟩
abbrev cX10_sights : ByteArray := prog_12_method_17_code
def yX10_sights : MethodName := ⟨RX10, "sights", "(III)I"⟩
abbrev cX10_lots : ByteArray := prog_12_method_18_code
def yX10_lots : MethodName := ⟨RX10, "lots", "(II)I"⟩
abbrev cX10_chosen : ByteArray := prog_12_method_19_code
def yX10_chosen : MethodName := ⟨RX10, "chosen", "(III)I"⟩
abbrev cX10_plays : ByteArray := prog_12_method_20_code
def yX10_plays : MethodName := ⟨RX10, "plays", "(II)V"⟩
abbrev cX10_lays : ByteArray := prog_12_method_21_code
def yX10_lays : MethodName := ⟨RX10, "lays", "()V"⟩
abbrev cX10_play : ByteArray := prog_12_method_22_code
def yX10_play : MethodName := ⟨RX10, "play", "(III)I"⟩
abbrev cX10_chooses : ByteArray := prog_12_method_23_code
def yX10_chooses : MethodName := ⟨RX10, "chooses", "(IIII)I"⟩
abbrev cX10_writes : ByteArray := prog_12_method_24_code
def yX10_writes : MethodName := ⟨RX10, "writes", "(III)V"⟩
abbrev cX10_loses : ByteArray := prog_12_method_25_code
def yX10_loses : MethodName := ⟨RX10, "loses", "(II)I"⟩
abbrev cX10_write : ByteArray := prog_12_method_26_code
def yX10_write : MethodName := ⟨RX10, "write", "(I)I"⟩
abbrev cX10_tell : ByteArray := prog_12_method_27_code
def yX10_tell : MethodName := ⟨RX10, "tell", "(II)I"⟩
abbrev cX10_isLine : ByteArray := prog_12_method_28_code
def yX10_isLine : MethodName := ⟨RX10, "isLine", "(I)Z"⟩
abbrev cX10_seal : ByteArray := prog_12_method_29_code
def yX10_seal : MethodName := ⟨RX10, "seal", "()V"⟩
abbrev cX10_isHeld : ByteArray := prog_12_method_30_code
def yX10_isHeld : MethodName := ⟨RX10, "isHeld", "(I)Z"⟩
abbrev cX10_line : ByteArray := prog_12_method_31_code
def yX10_line : MethodName := ⟨RX10, "line", "(II)I"⟩
abbrev cX10_mostOf : ByteArray := prog_12_method_32_code
def yX10_mostOf : MethodName := ⟨RX10, "mostOf", "(I)I"⟩
abbrev cX10_forge : ByteArray := prog_12_method_33_code
def yX10_forge : MethodName := ⟨RX10, "forge", "(II)I"⟩
abbrev cX10_moves : ByteArray := prog_12_method_34_code
def yX10_moves : MethodName := ⟨RX10, "moves", "(II)V"⟩
abbrev cX10_swap : ByteArray := prog_12_method_35_code
def yX10_swap : MethodName := ⟨RX10, "swap", "(II)I"⟩
abbrev cX10_tear : ByteArray := prog_12_method_36_code
def yX10_tear : MethodName := ⟨RX10, "tear", "(I)I"⟩
abbrev cX10_give : ByteArray := prog_12_method_37_code
def yX10_give : MethodName := ⟨RX10, "give", "(I)I"⟩
abbrev cX10_kept : ByteArray := prog_12_method_38_code
def yX10_kept : MethodName := ⟨RX10, "kept", "(II)I"⟩
abbrev cX10_torn : ByteArray := prog_12_method_39_code
def yX10_torn : MethodName := ⟨RX10, "torn", "()I"⟩
abbrev cX10_differs : ByteArray := prog_12_method_40_code
def yX10_differs : MethodName := ⟨RX10, "differs", "()I"⟩
abbrev cX10_count : ByteArray := prog_12_method_41_code
def yX10_count : MethodName := ⟨RX10, "count", "(I)I"⟩
abbrev cX10_comesBy : ByteArray := prog_12_method_42_code
def yX10_comesBy : MethodName := ⟨RX10, "comesBy", "(II)Z"⟩
abbrev cX10_doing : ByteArray := prog_12_method_43_code
def yX10_doing : MethodName := ⟨RX10, "doing", "(II)I"⟩
abbrev cX10_thing : ByteArray := prog_12_method_44_code
def yX10_thing : MethodName := ⟨RX10, "thing", "(III)I"⟩
abbrev cX10_clear : ByteArray := prog_12_method_45_code
def yX10_clear : MethodName := ⟨RX10, "clear", "()I"⟩
abbrev cX10_isTold : ByteArray := prog_12_method_46_code
def yX10_isTold : MethodName := ⟨RX10, "isTold", "()Z"⟩
abbrev cX10_otherwise : ByteArray := prog_12_method_47_code
def yX10_otherwise : MethodName := ⟨RX10, "otherwise", "(I)I"⟩
abbrev cX10_tries : ByteArray := prog_12_method_48_code
def yX10_tries : MethodName := ⟨RX10, "tries", "()V"⟩
abbrev cX10_isSuch : ByteArray := prog_12_method_49_code
def yX10_isSuch : MethodName := ⟨RX10, "isSuch", "(II)Z"⟩
abbrev cX10_size : ByteArray := prog_12_method_50_code
def yX10_size : MethodName := ⟨RX10, "size", "(I)I"⟩
abbrev cX10_leastOf : ByteArray := prog_12_method_51_code
def yX10_leastOf : MethodName := ⟨RX10, "leastOf", "(I)I"⟩
abbrev cX10_because : ByteArray := prog_12_method_52_code
def yX10_because : MethodName := ⟨RX10, "because", "()I"⟩
abbrev cX10_enough : ByteArray := prog_12_method_53_code
def yX10_enough : MethodName := ⟨RX10, "enough", "()I"⟩
abbrev cX10_sets : ByteArray := prog_12_method_54_code
def yX10_sets : MethodName := ⟨RX10, "sets", "(I)I"⟩
abbrev cX10_part : ByteArray := prog_12_method_55_code
def yX10_part : MethodName := ⟨RX10, "part", "(I)I"⟩
abbrev cX10_careful : ByteArray := prog_12_method_56_code
def yX10_careful : MethodName := ⟨RX10, "careful", "(II)I"⟩
abbrev cX10_actAt : ByteArray := prog_12_method_57_code
def yX10_actAt : MethodName := ⟨RX10, "actAt", "(I)I"⟩
abbrev cX10_saying : ByteArray := prog_12_method_58_code
def yX10_saying : MethodName := ⟨RX10, "saying", "(IZZ)I"⟩
abbrev cX10_duty : ByteArray := prog_12_method_59_code
def yX10_duty : MethodName := ⟨RX10, "duty", "()I"⟩
abbrev cX10_broken : ByteArray := prog_12_method_60_code
def yX10_broken : MethodName := ⟨RX10, "broken", "()I"⟩
abbrev cX10_isSheet : ByteArray := prog_12_method_61_code
def yX10_isSheet : MethodName := ⟨RX10, "isSheet", "(I)Z"⟩
abbrev cX10_isLane : ByteArray := prog_12_method_62_code
def yX10_isLane : MethodName := ⟨RX10, "isLane", "(I)Z"⟩
abbrev cX10_finds : ByteArray := prog_12_method_63_code
def yX10_finds : MethodName := ⟨RX10, "finds", "(IIII)I"⟩
abbrev cX10_sheet : ByteArray := prog_12_method_64_code
def yX10_sheet : MethodName := ⟨RX10, "sheet", "(III)I"⟩
abbrev cX10_drop : ByteArray := prog_12_method_65_code
def yX10_drop : MethodName := ⟨RX10, "drop", "(I)I"⟩
abbrev cX10_item : ByteArray := prog_12_method_66_code
def yX10_item : MethodName := ⟨RX10, "item", "(IIII)I"⟩
abbrev cX10_copy : ByteArray := prog_12_method_67_code
def yX10_copy : MethodName := ⟨RX10, "copy", "(IIIII)I"⟩
def RJ6 : String := "java/lang/Integer"
def TJ6 : u_T := fun k => match k with
  | _ => ("", "", "", false)
def tyJ6 : Nat → FieldType := fun k => match k with
  | _ => .int
abbrev wsJ60 : List Cond := u_ws RJ6 TJ6 0
theorem nmJ6 : ∀ a, a < 0 → ∀ b, b < 0 → a ≠ b → (TJ6 a).2.1 ≠ (TJ6 b).2.1 := by decide +kernel
theorem tyJ6_ok : ∀ k, k < 0 → parseFieldDescriptor (TJ6 k).2.2.1 = some (tyJ6 k) := by decide +kernel
abbrev cJ6_bitCount_0f7a4 : ByteArray := prog_13_method_49_code
def yJ6_bitCount_0f7a4 : MethodName := ⟨RJ6, "bitCount", "(I)I"⟩
def RJ9 : String := "java/lang/Math"
def TJ9 : u_T := fun k => match k with
  | _ => ("", "", "", false)
def tyJ9 : Nat → FieldType := fun k => match k with
  | _ => .int
abbrev wsJ90 : List Cond := u_ws RJ9 TJ9 0
theorem nmJ9 : ∀ a, a < 0 → ∀ b, b < 0 → a ≠ b → (TJ9 a).2.1 ≠ (TJ9 b).2.1 := by decide +kernel
theorem tyJ9_ok : ∀ k, k < 0 → parseFieldDescriptor (TJ9 k).2.2.1 = some (tyJ9 k) := by decide +kernel
abbrev cJ9_max_7cf53 : ByteArray := prog_14_method_65_code
def yJ9_max_7cf53 : MethodName := ⟨RJ9, "max", "(II)I"⟩
def RJ10 : String := "java/lang/System"
def TJ10 : u_T := fun k => match k with
  | _ => ("", "", "", false)
def tyJ10 : Nat → FieldType := fun k => match k with
  | _ => .int
abbrev wsJ100 : List Cond := u_ws RJ10 TJ10 0
theorem nmJ10 : ∀ a, a < 0 → ∀ b, b < 0 → a ≠ b → (TJ10 a).2.1 ≠ (TJ10 b).2.1 := by decide +kernel
theorem tyJ10_ok : ∀ k, k < 0 → parseFieldDescriptor (TJ10 k).2.2.1 = some (tyJ10 k) := by decide +kernel
def RJ7 : String := "java/util/Arrays"
def TJ7 : u_T := fun k => match k with
  | _ => ("", "", "", false)
def tyJ7 : Nat → FieldType := fun k => match k with
  | _ => .int
abbrev wsJ70 : List Cond := u_ws RJ7 TJ7 0
theorem nmJ7 : ∀ a, a < 0 → ∀ b, b < 0 → a ≠ b → (TJ7 a).2.1 ≠ (TJ7 b).2.1 := by decide +kernel
theorem tyJ7_ok : ∀ k, k < 0 → parseFieldDescriptor (TJ7 k).2.2.1 = some (tyJ7 k) := by decide +kernel
abbrev cJ7_fill_53178 : ByteArray := prog_16_method_103_code
def yJ7_fill_53178 : MethodName := ⟨RJ7, "fill", "([II)V"⟩
def RL : String := "MachineBenchLaw"
abbrev cL_law : ByteArray := code
def yL_law : MethodName := ⟨RL, "law", "([I)Z"⟩
abbrev vwCl : List vw_C := [(RX0, TX0, 2), (RX1, TX1, 2), (RX2, TX2, 5), (RX3, TX3, 5), (RX4, TX4, 7), (RX5, TX5, 3), (RX6, TX6, 2), (RX7, TX7, 4), (RX8, TX8, 2), (RX9, TX9, 16), (RX10, TX10, 46)]
theorem inX0 : ∀ w ∈ wsX00, w ∈ lw_tbl := by decide +kernel
theorem inX1 : ∀ w ∈ wsX10, w ∈ lw_tbl := by decide +kernel
theorem inX2 : ∀ w ∈ wsX20, w ∈ lw_tbl := by decide +kernel
theorem inX3 : ∀ w ∈ wsX30, w ∈ lw_tbl := by decide +kernel
theorem inX4 : ∀ w ∈ wsX40, w ∈ lw_tbl := by decide +kernel
theorem inX5 : ∀ w ∈ wsX50, w ∈ lw_tbl := by decide +kernel
theorem inX6 : ∀ w ∈ wsX60, w ∈ lw_tbl := by decide +kernel
theorem inX7 : ∀ w ∈ wsX70, w ∈ lw_tbl := by decide +kernel
theorem inX8 : ∀ w ∈ wsX80, w ∈ lw_tbl := by decide +kernel
theorem inX9 : ∀ w ∈ wsX90, w ∈ lw_tbl := by decide +kernel
theorem inX10 : ∀ w ∈ wsX100, w ∈ lw_tbl := by decide +kernel
end
section
theorem dX0_init_0 : decode cX0_init 0 = .ok (.aload_n 0, 1) := by decide +kernel
theorem dX0_init_1 : decode cX0_init 1 = .ok (.invokespecial 3, 3) := by decide +kernel
theorem dX0_init_4 : decode cX0_init 4 = .ok (.aload_n 0, 1) := by decide +kernel
theorem dX0_init_5 : decode cX0_init 5 = .ok (.iconst 4, 1) := by decide +kernel
theorem dX0_init_6 : decode cX0_init 6 = .ok (.bipush 48, 2) := by decide +kernel
theorem dX0_init_8 : decode cX0_init 8 = .ok (.multianewarray 9 2, 4) := by decide +kernel
theorem dX0_init_12 : decode cX0_init 12 = .ok (.putfield 11, 3) := by decide +kernel
theorem dX0_init_15 : decode cX0_init 15 = .ok (.aload_n 0, 1) := by decide +kernel
theorem dX0_init_16 : decode cX0_init 16 = .ok (.iconst 0, 1) := by decide +kernel
theorem dX0_init_17 : decode cX0_init 17 = .ok (.putfield 16, 3) := by decide +kernel
theorem dX0_init_20 : decode cX0_init 20 = .ok (.return_, 1) := by decide +kernel
theorem dX0_add_0 : decode cX0_add 0 = .ok (.aload_n 0, 1) := by decide +kernel
theorem dX0_add_1 : decode cX0_add 1 = .ok (.getfield 16, 3) := by decide +kernel
theorem dX0_add_4 : decode cX0_add 4 = .ok (.bipush 48, 2) := by decide +kernel
theorem dX0_add_6 : decode cX0_add 6 = .ok (.if_icmp .ge 49, 3) := by decide +kernel
theorem dX0_add_9 : decode cX0_add 9 = .ok (.aload_n 0, 1) := by decide +kernel
theorem dX0_add_10 : decode cX0_add 10 = .ok (.getfield 11, 3) := by decide +kernel
theorem dX0_add_13 : decode cX0_add 13 = .ok (.iconst 0, 1) := by decide +kernel
theorem dX0_add_14 : decode cX0_add 14 = .ok (.aaload, 1) := by decide +kernel
theorem dX0_add_15 : decode cX0_add 15 = .ok (.aload_n 0, 1) := by decide +kernel
theorem dX0_add_16 : decode cX0_add 16 = .ok (.getfield 16, 3) := by decide +kernel
theorem dX0_add_19 : decode cX0_add 19 = .ok (.iload_n 1, 1) := by decide +kernel
theorem dX0_add_20 : decode cX0_add 20 = .ok (.iastore, 1) := by decide +kernel
theorem dX0_add_21 : decode cX0_add 21 = .ok (.aload_n 0, 1) := by decide +kernel
theorem dX0_add_22 : decode cX0_add 22 = .ok (.getfield 11, 3) := by decide +kernel
theorem dX0_add_25 : decode cX0_add 25 = .ok (.iconst 1, 1) := by decide +kernel
theorem dX0_add_26 : decode cX0_add 26 = .ok (.aaload, 1) := by decide +kernel
theorem dX0_add_27 : decode cX0_add 27 = .ok (.aload_n 0, 1) := by decide +kernel
theorem dX0_add_28 : decode cX0_add 28 = .ok (.getfield 16, 3) := by decide +kernel
theorem dX0_add_31 : decode cX0_add 31 = .ok (.iload_n 2, 1) := by decide +kernel
theorem dX0_add_32 : decode cX0_add 32 = .ok (.iastore, 1) := by decide +kernel
theorem dX0_add_33 : decode cX0_add 33 = .ok (.aload_n 0, 1) := by decide +kernel
theorem dX0_add_34 : decode cX0_add 34 = .ok (.getfield 11, 3) := by decide +kernel
theorem dX0_add_37 : decode cX0_add 37 = .ok (.iconst 2, 1) := by decide +kernel
theorem dX0_add_38 : decode cX0_add 38 = .ok (.aaload, 1) := by decide +kernel
theorem dX0_add_39 : decode cX0_add 39 = .ok (.aload_n 0, 1) := by decide +kernel
theorem dX0_add_40 : decode cX0_add 40 = .ok (.getfield 16, 3) := by decide +kernel
theorem dX0_add_43 : decode cX0_add 43 = .ok (.iload_n 3, 1) := by decide +kernel
theorem dX0_add_44 : decode cX0_add 44 = .ok (.iastore, 1) := by decide +kernel
theorem dX0_add_45 : decode cX0_add 45 = .ok (.aload_n 0, 1) := by decide +kernel
theorem dX0_add_46 : decode cX0_add 46 = .ok (.dup, 1) := by decide +kernel
theorem dX0_add_47 : decode cX0_add 47 = .ok (.getfield 16, 3) := by decide +kernel
theorem dX0_add_50 : decode cX0_add 50 = .ok (.iconst 1, 1) := by decide +kernel
theorem dX0_add_51 : decode cX0_add 51 = .ok (.iadd, 1) := by decide +kernel
theorem dX0_add_52 : decode cX0_add 52 = .ok (.putfield 16, 3) := by decide +kernel
theorem dX0_add_55 : decode cX0_add 55 = .ok (.return_, 1) := by decide +kernel
theorem dX0_lose_0 : decode cX0_lose 0 = .ok (.iload_n 1, 1) := by decide +kernel
theorem dX0_lose_1 : decode cX0_lose 1 = .ok (.istore_n 2, 1) := by decide +kernel
theorem dX0_lose_2 : decode cX0_lose 2 = .ok (.iconst 0, 1) := by decide +kernel
theorem dX0_lose_3 : decode cX0_lose 3 = .ok (.istore_n 3, 1) := by decide +kernel
theorem dX0_lose_4 : decode cX0_lose 4 = .ok (.iload_n 3, 1) := by decide +kernel
theorem dX0_lose_5 : decode cX0_lose 5 = .ok (.getstatic 20, 3) := by decide +kernel
theorem dX0_lose_8 : decode cX0_lose 8 = .ok (.arraylength, 1) := by decide +kernel
theorem dX0_lose_9 : decode cX0_lose 9 = .ok (.if_icmp .ge 61, 3) := by decide +kernel
theorem dX0_lose_12 : decode cX0_lose 12 = .ok (.aload_n 0, 1) := by decide +kernel
theorem dX0_lose_13 : decode cX0_lose 13 = .ok (.getfield 16, 3) := by decide +kernel
theorem dX0_lose_16 : decode cX0_lose 16 = .ok (.iconst 4, 1) := by decide +kernel
theorem dX0_lose_17 : decode cX0_lose 17 = .ok (.isub, 1) := by decide +kernel
theorem dX0_lose_18 : decode cX0_lose 18 = .ok (.getstatic 20, 3) := by decide +kernel
theorem dX0_lose_21 : decode cX0_lose 21 = .ok (.iload_n 3, 1) := by decide +kernel
theorem dX0_lose_22 : decode cX0_lose 22 = .ok (.iaload, 1) := by decide +kernel
theorem dX0_lose_23 : decode cX0_lose 23 = .ok (.iadd, 1) := by decide +kernel
theorem dX0_lose_24 : decode cX0_lose 24 = .ok (.istore 4, 2) := by decide +kernel
theorem dX0_lose_26 : decode cX0_lose 26 = .ok (.iload 4, 2) := by decide +kernel
theorem dX0_lose_28 : decode cX0_lose 28 = .ok (.ifCond .lt 36, 3) := by decide +kernel
theorem dX0_lose_31 : decode cX0_lose 31 = .ok (.iload_n 2, 1) := by decide +kernel
theorem dX0_lose_32 : decode cX0_lose 32 = .ok (.ifCond .le 32, 3) := by decide +kernel
theorem dX0_lose_35 : decode cX0_lose 35 = .ok (.aload_n 0, 1) := by decide +kernel
theorem dX0_lose_36 : decode cX0_lose 36 = .ok (.getfield 11, 3) := by decide +kernel
theorem dX0_lose_39 : decode cX0_lose 39 = .ok (.iconst 0, 1) := by decide +kernel
theorem dX0_lose_40 : decode cX0_lose 40 = .ok (.aaload, 1) := by decide +kernel
theorem dX0_lose_41 : decode cX0_lose 41 = .ok (.iload 4, 2) := by decide +kernel
theorem dX0_lose_43 : decode cX0_lose 43 = .ok (.iconst 5, 1) := by decide +kernel
theorem dX0_lose_44 : decode cX0_lose 44 = .ok (.iastore, 1) := by decide +kernel
theorem dX0_lose_45 : decode cX0_lose 45 = .ok (.aload_n 0, 1) := by decide +kernel
theorem dX0_lose_46 : decode cX0_lose 46 = .ok (.getfield 11, 3) := by decide +kernel
theorem dX0_lose_49 : decode cX0_lose 49 = .ok (.iconst 2, 1) := by decide +kernel
theorem dX0_lose_50 : decode cX0_lose 50 = .ok (.aaload, 1) := by decide +kernel
theorem dX0_lose_51 : decode cX0_lose 51 = .ok (.iload 4, 2) := by decide +kernel
theorem dX0_lose_53 : decode cX0_lose 53 = .ok (.iconst 0, 1) := by decide +kernel
theorem dX0_lose_54 : decode cX0_lose 54 = .ok (.iastore, 1) := by decide +kernel
theorem dX0_lose_55 : decode cX0_lose 55 = .ok (.iinc 2 (-1), 3) := by decide +kernel
theorem dX0_lose_58 : decode cX0_lose 58 = .ok (.iinc 4 (-4), 3) := by decide +kernel
theorem dX0_lose_61 : decode cX0_lose 61 = .ok (.goto (-35), 3) := by decide +kernel
theorem dX0_lose_64 : decode cX0_lose 64 = .ok (.iinc 3 1, 3) := by decide +kernel
theorem dX0_lose_67 : decode cX0_lose 67 = .ok (.goto (-63), 3) := by decide +kernel
theorem dX0_lose_70 : decode cX0_lose 70 = .ok (.return_, 1) := by decide +kernel
theorem dX0_sealAll_0 : decode cX0_sealAll 0 = .ok (.iconst 1, 1) := by decide +kernel
theorem dX0_sealAll_1 : decode cX0_sealAll 1 = .ok (.istore_n 1, 1) := by decide +kernel
theorem dX0_sealAll_2 : decode cX0_sealAll 2 = .ok (.iconst 0, 1) := by decide +kernel
theorem dX0_sealAll_3 : decode cX0_sealAll 3 = .ok (.istore_n 2, 1) := by decide +kernel
theorem dX0_sealAll_4 : decode cX0_sealAll 4 = .ok (.iload_n 2, 1) := by decide +kernel
theorem dX0_sealAll_5 : decode cX0_sealAll 5 = .ok (.aload_n 0, 1) := by decide +kernel
theorem dX0_sealAll_6 : decode cX0_sealAll 6 = .ok (.getfield 16, 3) := by decide +kernel
theorem dX0_sealAll_9 : decode cX0_sealAll 9 = .ok (.if_icmp .ge 68, 3) := by decide +kernel
theorem dX0_sealAll_12 : decode cX0_sealAll 12 = .ok (.sipush 131, 3) := by decide +kernel
theorem dX0_sealAll_15 : decode cX0_sealAll 15 = .ok (.aload_n 0, 1) := by decide +kernel
theorem dX0_sealAll_16 : decode cX0_sealAll 16 = .ok (.getfield 11, 3) := by decide +kernel
theorem dX0_sealAll_19 : decode cX0_sealAll 19 = .ok (.iconst 0, 1) := by decide +kernel
theorem dX0_sealAll_20 : decode cX0_sealAll 20 = .ok (.aaload, 1) := by decide +kernel
theorem dX0_sealAll_21 : decode cX0_sealAll 21 = .ok (.iload_n 2, 1) := by decide +kernel
theorem dX0_sealAll_22 : decode cX0_sealAll 22 = .ok (.iaload, 1) := by decide +kernel
theorem dX0_sealAll_23 : decode cX0_sealAll 23 = .ok (.imul, 1) := by decide +kernel
theorem dX0_sealAll_24 : decode cX0_sealAll 24 = .ok (.bipush 17, 2) := by decide +kernel
theorem dX0_sealAll_26 : decode cX0_sealAll 26 = .ok (.aload_n 0, 1) := by decide +kernel
theorem dX0_sealAll_27 : decode cX0_sealAll 27 = .ok (.getfield 11, 3) := by decide +kernel
theorem dX0_sealAll_30 : decode cX0_sealAll 30 = .ok (.iconst 1, 1) := by decide +kernel
theorem dX0_sealAll_31 : decode cX0_sealAll 31 = .ok (.aaload, 1) := by decide +kernel
theorem dX0_sealAll_32 : decode cX0_sealAll 32 = .ok (.iload_n 2, 1) := by decide +kernel
theorem dX0_sealAll_33 : decode cX0_sealAll 33 = .ok (.iaload, 1) := by decide +kernel
theorem dX0_sealAll_34 : decode cX0_sealAll 34 = .ok (.imul, 1) := by decide +kernel
theorem dX0_sealAll_35 : decode cX0_sealAll 35 = .ok (.iadd, 1) := by decide +kernel
theorem dX0_sealAll_36 : decode cX0_sealAll 36 = .ok (.bipush 7, 2) := by decide +kernel
theorem dX0_sealAll_38 : decode cX0_sealAll 38 = .ok (.aload_n 0, 1) := by decide +kernel
theorem dX0_sealAll_39 : decode cX0_sealAll 39 = .ok (.getfield 11, 3) := by decide +kernel
theorem dX0_sealAll_42 : decode cX0_sealAll 42 = .ok (.iconst 2, 1) := by decide +kernel
theorem dX0_sealAll_43 : decode cX0_sealAll 43 = .ok (.aaload, 1) := by decide +kernel
theorem dX0_sealAll_44 : decode cX0_sealAll 44 = .ok (.iload_n 2, 1) := by decide +kernel
theorem dX0_sealAll_45 : decode cX0_sealAll 45 = .ok (.iaload, 1) := by decide +kernel
theorem dX0_sealAll_46 : decode cX0_sealAll 46 = .ok (.imul, 1) := by decide +kernel
theorem dX0_sealAll_47 : decode cX0_sealAll 47 = .ok (.iadd, 1) := by decide +kernel
theorem dX0_sealAll_48 : decode cX0_sealAll 48 = .ok (.iconst 1, 1) := by decide +kernel
theorem dX0_sealAll_49 : decode cX0_sealAll 49 = .ok (.iadd, 1) := by decide +kernel
theorem dX0_sealAll_50 : decode cX0_sealAll 50 = .ok (.istore_n 3, 1) := by decide +kernel
theorem dX0_sealAll_51 : decode cX0_sealAll 51 = .ok (.bipush 31, 2) := by decide +kernel
theorem dX0_sealAll_53 : decode cX0_sealAll 53 = .ok (.iload_n 1, 1) := by decide +kernel
theorem dX0_sealAll_54 : decode cX0_sealAll 54 = .ok (.imul, 1) := by decide +kernel
theorem dX0_sealAll_55 : decode cX0_sealAll 55 = .ok (.iload_n 3, 1) := by decide +kernel
theorem dX0_sealAll_56 : decode cX0_sealAll 56 = .ok (.iadd, 1) := by decide +kernel
theorem dX0_sealAll_57 : decode cX0_sealAll 57 = .ok (.sipush 9973, 3) := by decide +kernel
theorem dX0_sealAll_60 : decode cX0_sealAll 60 = .ok (.irem, 1) := by decide +kernel
theorem dX0_sealAll_61 : decode cX0_sealAll 61 = .ok (.istore_n 1, 1) := by decide +kernel
theorem dX0_sealAll_62 : decode cX0_sealAll 62 = .ok (.aload_n 0, 1) := by decide +kernel
theorem dX0_sealAll_63 : decode cX0_sealAll 63 = .ok (.getfield 11, 3) := by decide +kernel
theorem dX0_sealAll_66 : decode cX0_sealAll 66 = .ok (.iconst 3, 1) := by decide +kernel
theorem dX0_sealAll_67 : decode cX0_sealAll 67 = .ok (.aaload, 1) := by decide +kernel
theorem dX0_sealAll_68 : decode cX0_sealAll 68 = .ok (.iload_n 2, 1) := by decide +kernel
theorem dX0_sealAll_69 : decode cX0_sealAll 69 = .ok (.iload_n 1, 1) := by decide +kernel
theorem dX0_sealAll_70 : decode cX0_sealAll 70 = .ok (.iastore, 1) := by decide +kernel
theorem dX0_sealAll_71 : decode cX0_sealAll 71 = .ok (.iinc 2 1, 3) := by decide +kernel
theorem dX0_sealAll_74 : decode cX0_sealAll 74 = .ok (.goto (-70), 3) := by decide +kernel
theorem dX0_sealAll_77 : decode cX0_sealAll 77 = .ok (.return_, 1) := by decide +kernel
theorem dX0_exchange_0 : decode cX0_exchange 0 = .ok (.iconst 0, 1) := by decide +kernel
theorem dX0_exchange_1 : decode cX0_exchange 1 = .ok (.istore_n 3, 1) := by decide +kernel
theorem dX0_exchange_2 : decode cX0_exchange 2 = .ok (.iload_n 3, 1) := by decide +kernel
theorem dX0_exchange_3 : decode cX0_exchange 3 = .ok (.iconst 2, 1) := by decide +kernel
theorem dX0_exchange_4 : decode cX0_exchange 4 = .ok (.if_icmp .gt 45, 3) := by decide +kernel
theorem dX0_exchange_7 : decode cX0_exchange 7 = .ok (.aload_n 0, 1) := by decide +kernel
theorem dX0_exchange_8 : decode cX0_exchange 8 = .ok (.getfield 11, 3) := by decide +kernel
theorem dX0_exchange_11 : decode cX0_exchange 11 = .ok (.iload_n 3, 1) := by decide +kernel
theorem dX0_exchange_12 : decode cX0_exchange 12 = .ok (.aaload, 1) := by decide +kernel
theorem dX0_exchange_13 : decode cX0_exchange 13 = .ok (.iload_n 1, 1) := by decide +kernel
theorem dX0_exchange_14 : decode cX0_exchange 14 = .ok (.iaload, 1) := by decide +kernel
theorem dX0_exchange_15 : decode cX0_exchange 15 = .ok (.istore 4, 2) := by decide +kernel
theorem dX0_exchange_17 : decode cX0_exchange 17 = .ok (.aload_n 0, 1) := by decide +kernel
theorem dX0_exchange_18 : decode cX0_exchange 18 = .ok (.getfield 11, 3) := by decide +kernel
theorem dX0_exchange_21 : decode cX0_exchange 21 = .ok (.iload_n 3, 1) := by decide +kernel
theorem dX0_exchange_22 : decode cX0_exchange 22 = .ok (.aaload, 1) := by decide +kernel
theorem dX0_exchange_23 : decode cX0_exchange 23 = .ok (.iload_n 1, 1) := by decide +kernel
theorem dX0_exchange_24 : decode cX0_exchange 24 = .ok (.aload_n 0, 1) := by decide +kernel
theorem dX0_exchange_25 : decode cX0_exchange 25 = .ok (.getfield 11, 3) := by decide +kernel
theorem dX0_exchange_28 : decode cX0_exchange 28 = .ok (.iload_n 3, 1) := by decide +kernel
theorem dX0_exchange_29 : decode cX0_exchange 29 = .ok (.aaload, 1) := by decide +kernel
theorem dX0_exchange_30 : decode cX0_exchange 30 = .ok (.iload_n 2, 1) := by decide +kernel
theorem dX0_exchange_31 : decode cX0_exchange 31 = .ok (.iaload, 1) := by decide +kernel
theorem dX0_exchange_32 : decode cX0_exchange 32 = .ok (.iastore, 1) := by decide +kernel
theorem dX0_exchange_33 : decode cX0_exchange 33 = .ok (.aload_n 0, 1) := by decide +kernel
theorem dX0_exchange_34 : decode cX0_exchange 34 = .ok (.getfield 11, 3) := by decide +kernel
theorem dX0_exchange_37 : decode cX0_exchange 37 = .ok (.iload_n 3, 1) := by decide +kernel
theorem dX0_exchange_38 : decode cX0_exchange 38 = .ok (.aaload, 1) := by decide +kernel
theorem dX0_exchange_39 : decode cX0_exchange 39 = .ok (.iload_n 2, 1) := by decide +kernel
theorem dX0_exchange_40 : decode cX0_exchange 40 = .ok (.iload 4, 2) := by decide +kernel
theorem dX0_exchange_42 : decode cX0_exchange 42 = .ok (.iastore, 1) := by decide +kernel
theorem dX0_exchange_43 : decode cX0_exchange 43 = .ok (.iinc 3 1, 3) := by decide +kernel
theorem dX0_exchange_46 : decode cX0_exchange 46 = .ok (.goto (-44), 3) := by decide +kernel
theorem dX0_exchange_49 : decode cX0_exchange 49 = .ok (.return_, 1) := by decide +kernel
theorem dX0_takeOut_0 : decode cX0_takeOut 0 = .ok (.iconst 0, 1) := by decide +kernel
theorem dX0_takeOut_1 : decode cX0_takeOut 1 = .ok (.istore_n 2, 1) := by decide +kernel
theorem dX0_takeOut_2 : decode cX0_takeOut 2 = .ok (.iload_n 2, 1) := by decide +kernel
theorem dX0_takeOut_3 : decode cX0_takeOut 3 = .ok (.iconst 2, 1) := by decide +kernel
theorem dX0_takeOut_4 : decode cX0_takeOut 4 = .ok (.if_icmp .gt 36, 3) := by decide +kernel
theorem dX0_takeOut_7 : decode cX0_takeOut 7 = .ok (.aload_n 0, 1) := by decide +kernel
theorem dX0_takeOut_8 : decode cX0_takeOut 8 = .ok (.getfield 11, 3) := by decide +kernel
theorem dX0_takeOut_11 : decode cX0_takeOut 11 = .ok (.iload_n 2, 1) := by decide +kernel
theorem dX0_takeOut_12 : decode cX0_takeOut 12 = .ok (.aaload, 1) := by decide +kernel
theorem dX0_takeOut_13 : decode cX0_takeOut 13 = .ok (.iload_n 1, 1) := by decide +kernel
theorem dX0_takeOut_14 : decode cX0_takeOut 14 = .ok (.iconst 1, 1) := by decide +kernel
theorem dX0_takeOut_15 : decode cX0_takeOut 15 = .ok (.iadd, 1) := by decide +kernel
theorem dX0_takeOut_16 : decode cX0_takeOut 16 = .ok (.aload_n 0, 1) := by decide +kernel
theorem dX0_takeOut_17 : decode cX0_takeOut 17 = .ok (.getfield 11, 3) := by decide +kernel
theorem dX0_takeOut_20 : decode cX0_takeOut 20 = .ok (.iload_n 2, 1) := by decide +kernel
theorem dX0_takeOut_21 : decode cX0_takeOut 21 = .ok (.aaload, 1) := by decide +kernel
theorem dX0_takeOut_22 : decode cX0_takeOut 22 = .ok (.iload_n 1, 1) := by decide +kernel
theorem dX0_takeOut_23 : decode cX0_takeOut 23 = .ok (.aload_n 0, 1) := by decide +kernel
theorem dX0_takeOut_24 : decode cX0_takeOut 24 = .ok (.getfield 16, 3) := by decide +kernel
theorem dX0_takeOut_27 : decode cX0_takeOut 27 = .ok (.iload_n 1, 1) := by decide +kernel
theorem dX0_takeOut_28 : decode cX0_takeOut 28 = .ok (.isub, 1) := by decide +kernel
theorem dX0_takeOut_29 : decode cX0_takeOut 29 = .ok (.iconst 1, 1) := by decide +kernel
theorem dX0_takeOut_30 : decode cX0_takeOut 30 = .ok (.isub, 1) := by decide +kernel
theorem dX0_takeOut_31 : decode cX0_takeOut 31 = .ok (.invokestatic 24, 3) := by decide +kernel
theorem dX0_takeOut_34 : decode cX0_takeOut 34 = .ok (.iinc 2 1, 3) := by decide +kernel
theorem dX0_takeOut_37 : decode cX0_takeOut 37 = .ok (.goto (-35), 3) := by decide +kernel
theorem dX0_takeOut_40 : decode cX0_takeOut 40 = .ok (.aload_n 0, 1) := by decide +kernel
theorem dX0_takeOut_41 : decode cX0_takeOut 41 = .ok (.dup, 1) := by decide +kernel
theorem dX0_takeOut_42 : decode cX0_takeOut 42 = .ok (.getfield 16, 3) := by decide +kernel
theorem dX0_takeOut_45 : decode cX0_takeOut 45 = .ok (.iconst 1, 1) := by decide +kernel
theorem dX0_takeOut_46 : decode cX0_takeOut 46 = .ok (.isub, 1) := by decide +kernel
theorem dX0_takeOut_47 : decode cX0_takeOut 47 = .ok (.putfield 16, 3) := by decide +kernel
theorem dX0_takeOut_50 : decode cX0_takeOut 50 = .ok (.return_, 1) := by decide +kernel
theorem dX0_countLost_0 : decode cX0_countLost 0 = .ok (.iconst 0, 1) := by decide +kernel
theorem dX0_countLost_1 : decode cX0_countLost 1 = .ok (.istore_n 1, 1) := by decide +kernel
theorem dX0_countLost_2 : decode cX0_countLost 2 = .ok (.iconst 0, 1) := by decide +kernel
theorem dX0_countLost_3 : decode cX0_countLost 3 = .ok (.istore_n 2, 1) := by decide +kernel
theorem dX0_countLost_4 : decode cX0_countLost 4 = .ok (.iload_n 2, 1) := by decide +kernel
theorem dX0_countLost_5 : decode cX0_countLost 5 = .ok (.aload_n 0, 1) := by decide +kernel
theorem dX0_countLost_6 : decode cX0_countLost 6 = .ok (.getfield 16, 3) := by decide +kernel
theorem dX0_countLost_9 : decode cX0_countLost 9 = .ok (.if_icmp .ge 24, 3) := by decide +kernel
theorem dX0_countLost_12 : decode cX0_countLost 12 = .ok (.aload_n 0, 1) := by decide +kernel
theorem dX0_countLost_13 : decode cX0_countLost 13 = .ok (.getfield 11, 3) := by decide +kernel
theorem dX0_countLost_16 : decode cX0_countLost 16 = .ok (.iconst 0, 1) := by decide +kernel
theorem dX0_countLost_17 : decode cX0_countLost 17 = .ok (.aaload, 1) := by decide +kernel
theorem dX0_countLost_18 : decode cX0_countLost 18 = .ok (.iload_n 2, 1) := by decide +kernel
theorem dX0_countLost_19 : decode cX0_countLost 19 = .ok (.iaload, 1) := by decide +kernel
theorem dX0_countLost_20 : decode cX0_countLost 20 = .ok (.iconst 5, 1) := by decide +kernel
theorem dX0_countLost_21 : decode cX0_countLost 21 = .ok (.if_icmp .ne 6, 3) := by decide +kernel
theorem dX0_countLost_24 : decode cX0_countLost 24 = .ok (.iinc 1 1, 3) := by decide +kernel
theorem dX0_countLost_27 : decode cX0_countLost 27 = .ok (.iinc 2 1, 3) := by decide +kernel
theorem dX0_countLost_30 : decode cX0_countLost 30 = .ok (.goto (-26), 3) := by decide +kernel
theorem dX0_countLost_33 : decode cX0_countLost 33 = .ok (.iload_n 1, 1) := by decide +kernel
theorem dX0_countLost_34 : decode cX0_countLost 34 = .ok (.ireturn, 1) := by decide +kernel
theorem dX1_init_0 : decode cX1_init 0 = .ok (.aload_n 0, 1) := by decide +kernel
theorem dX1_init_1 : decode cX1_init 1 = .ok (.invokespecial 3, 3) := by decide +kernel
theorem dX1_init_4 : decode cX1_init 4 = .ok (.aload_n 0, 1) := by decide +kernel
theorem dX1_init_5 : decode cX1_init 5 = .ok (.bipush 48, 2) := by decide +kernel
theorem dX1_init_7 : decode cX1_init 7 = .ok (.newarray .int, 2) := by decide +kernel
theorem dX1_init_9 : decode cX1_init 9 = .ok (.putfield 9, 3) := by decide +kernel
theorem dX1_init_12 : decode cX1_init 12 = .ok (.aload_n 0, 1) := by decide +kernel
theorem dX1_init_13 : decode cX1_init 13 = .ok (.iconst 0, 1) := by decide +kernel
theorem dX1_init_14 : decode cX1_init 14 = .ok (.putfield 15, 3) := by decide +kernel
theorem dX1_init_17 : decode cX1_init 17 = .ok (.return_, 1) := by decide +kernel
theorem dX1_hold_0 : decode cX1_hold 0 = .ok (.aload_n 0, 1) := by decide +kernel
theorem dX1_hold_1 : decode cX1_hold 1 = .ok (.aload_n 1, 1) := by decide +kernel
theorem dX1_hold_2 : decode cX1_hold 2 = .ok (.getfield 19, 3) := by decide +kernel
theorem dX1_hold_5 : decode cX1_hold 5 = .ok (.putfield 15, 3) := by decide +kernel
theorem dX1_hold_8 : decode cX1_hold 8 = .ok (.aload_n 1, 1) := by decide +kernel
theorem dX1_hold_9 : decode cX1_hold 9 = .ok (.getfield 22, 3) := by decide +kernel
theorem dX1_hold_12 : decode cX1_hold 12 = .ok (.iconst 3, 1) := by decide +kernel
theorem dX1_hold_13 : decode cX1_hold 13 = .ok (.aaload, 1) := by decide +kernel
theorem dX1_hold_14 : decode cX1_hold 14 = .ok (.iconst 0, 1) := by decide +kernel
theorem dX1_hold_15 : decode cX1_hold 15 = .ok (.aload_n 0, 1) := by decide +kernel
theorem dX1_hold_16 : decode cX1_hold 16 = .ok (.getfield 9, 3) := by decide +kernel
theorem dX1_hold_19 : decode cX1_hold 19 = .ok (.iconst 0, 1) := by decide +kernel
theorem dX1_hold_20 : decode cX1_hold 20 = .ok (.aload_n 0, 1) := by decide +kernel
theorem dX1_hold_21 : decode cX1_hold 21 = .ok (.getfield 15, 3) := by decide +kernel
theorem dX1_hold_24 : decode cX1_hold 24 = .ok (.invokestatic 26, 3) := by decide +kernel
theorem dX1_hold_27 : decode cX1_hold 27 = .ok (.return_, 1) := by decide +kernel
theorem dX2_init_0 : decode cX2_init 0 = .ok (.aload_n 0, 1) := by decide +kernel
theorem dX2_init_1 : decode cX2_init 1 = .ok (.invokespecial 3, 3) := by decide +kernel
theorem dX2_init_4 : decode cX2_init 4 = .ok (.aload_n 0, 1) := by decide +kernel
theorem dX2_init_5 : decode cX2_init 5 = .ok (.bipush 8, 2) := by decide +kernel
theorem dX2_init_7 : decode cX2_init 7 = .ok (.newarray .int, 2) := by decide +kernel
theorem dX2_init_9 : decode cX2_init 9 = .ok (.putfield 9, 3) := by decide +kernel
theorem dX2_init_12 : decode cX2_init 12 = .ok (.aload_n 0, 1) := by decide +kernel
theorem dX2_init_13 : decode cX2_init 13 = .ok (.bipush 8, 2) := by decide +kernel
theorem dX2_init_15 : decode cX2_init 15 = .ok (.newarray .int, 2) := by decide +kernel
theorem dX2_init_17 : decode cX2_init 17 = .ok (.putfield 15, 3) := by decide +kernel
theorem dX2_init_20 : decode cX2_init 20 = .ok (.aload_n 0, 1) := by decide +kernel
theorem dX2_init_21 : decode cX2_init 21 = .ok (.bipush 8, 2) := by decide +kernel
theorem dX2_init_23 : decode cX2_init 23 = .ok (.newarray .int, 2) := by decide +kernel
theorem dX2_init_25 : decode cX2_init 25 = .ok (.putfield 18, 3) := by decide +kernel
theorem dX2_init_28 : decode cX2_init 28 = .ok (.aload_n 0, 1) := by decide +kernel
theorem dX2_init_29 : decode cX2_init 29 = .ok (.bipush 8, 2) := by decide +kernel
theorem dX2_init_31 : decode cX2_init 31 = .ok (.iconst 4, 1) := by decide +kernel
theorem dX2_init_32 : decode cX2_init 32 = .ok (.multianewarray 21 2, 4) := by decide +kernel
theorem dX2_init_36 : decode cX2_init 36 = .ok (.putfield 23, 3) := by decide +kernel
theorem dX2_init_39 : decode cX2_init 39 = .ok (.aload_n 0, 1) := by decide +kernel
theorem dX2_init_40 : decode cX2_init 40 = .ok (.iconst 0, 1) := by decide +kernel
theorem dX2_init_41 : decode cX2_init 41 = .ok (.putfield 26, 3) := by decide +kernel
theorem dX2_init_44 : decode cX2_init 44 = .ok (.return_, 1) := by decide +kernel
theorem dX2_choose_0 : decode cX2_choose 0 = .ok (.iconst 0, 1) := by decide +kernel
theorem dX2_choose_1 : decode cX2_choose 1 = .ok (.istore 4, 2) := by decide +kernel
theorem dX2_choose_3 : decode cX2_choose 3 = .ok (.iload 4, 2) := by decide +kernel
theorem dX2_choose_5 : decode cX2_choose 5 = .ok (.aload_n 0, 1) := by decide +kernel
theorem dX2_choose_6 : decode cX2_choose 6 = .ok (.getfield 26, 3) := by decide +kernel
theorem dX2_choose_9 : decode cX2_choose 9 = .ok (.if_icmp .ge 39, 3) := by decide +kernel
theorem dX2_choose_12 : decode cX2_choose 12 = .ok (.iload_n 1, 1) := by decide +kernel
theorem dX2_choose_13 : decode cX2_choose 13 = .ok (.iload 4, 2) := by decide +kernel
theorem dX2_choose_15 : decode cX2_choose 15 = .ok (.ishr, 1) := by decide +kernel
theorem dX2_choose_16 : decode cX2_choose 16 = .ok (.iconst 1, 1) := by decide +kernel
theorem dX2_choose_17 : decode cX2_choose 17 = .ok (.iand, 1) := by decide +kernel
theorem dX2_choose_18 : decode cX2_choose 18 = .ok (.iconst 1, 1) := by decide +kernel
theorem dX2_choose_19 : decode cX2_choose 19 = .ok (.if_icmp .ne 23, 3) := by decide +kernel
theorem dX2_choose_22 : decode cX2_choose 22 = .ok (.aload_n 0, 1) := by decide +kernel
theorem dX2_choose_23 : decode cX2_choose 23 = .ok (.getfield 23, 3) := by decide +kernel
theorem dX2_choose_26 : decode cX2_choose 26 = .ok (.iload 4, 2) := by decide +kernel
theorem dX2_choose_28 : decode cX2_choose 28 = .ok (.aaload, 1) := by decide +kernel
theorem dX2_choose_29 : decode cX2_choose 29 = .ok (.iload_n 2, 1) := by decide +kernel
theorem dX2_choose_30 : decode cX2_choose 30 = .ok (.iaload, 1) := by decide +kernel
theorem dX2_choose_31 : decode cX2_choose 31 = .ok (.iload_n 3, 1) := by decide +kernel
theorem dX2_choose_32 : decode cX2_choose 32 = .ok (.iushr, 1) := by decide +kernel
theorem dX2_choose_33 : decode cX2_choose 33 = .ok (.iconst 1, 1) := by decide +kernel
theorem dX2_choose_34 : decode cX2_choose 34 = .ok (.iand, 1) := by decide +kernel
theorem dX2_choose_35 : decode cX2_choose 35 = .ok (.iconst 1, 1) := by decide +kernel
theorem dX2_choose_36 : decode cX2_choose 36 = .ok (.if_icmp .ne 6, 3) := by decide +kernel
theorem dX2_choose_39 : decode cX2_choose 39 = .ok (.iload 4, 2) := by decide +kernel
theorem dX2_choose_41 : decode cX2_choose 41 = .ok (.ireturn, 1) := by decide +kernel
theorem dX2_choose_42 : decode cX2_choose 42 = .ok (.iinc 4 1, 3) := by decide +kernel
theorem dX2_choose_45 : decode cX2_choose 45 = .ok (.goto (-42), 3) := by decide +kernel
theorem dX2_choose_48 : decode cX2_choose 48 = .ok (.bipush 8, 2) := by decide +kernel
theorem dX2_choose_50 : decode cX2_choose 50 = .ok (.ireturn, 1) := by decide +kernel
theorem dX2_actOf_0 : decode cX2_actOf 0 = .ok (.iload_n 1, 1) := by decide +kernel
theorem dX2_actOf_1 : decode cX2_actOf 1 = .ok (.aload_n 0, 1) := by decide +kernel
theorem dX2_actOf_2 : decode cX2_actOf 2 = .ok (.getfield 26, 3) := by decide +kernel
theorem dX2_actOf_5 : decode cX2_actOf 5 = .ok (.if_icmp .ge 12, 3) := by decide +kernel
theorem dX2_actOf_8 : decode cX2_actOf 8 = .ok (.aload_n 0, 1) := by decide +kernel
theorem dX2_actOf_9 : decode cX2_actOf 9 = .ok (.getfield 15, 3) := by decide +kernel
theorem dX2_actOf_12 : decode cX2_actOf 12 = .ok (.iload_n 1, 1) := by decide +kernel
theorem dX2_actOf_13 : decode cX2_actOf 13 = .ok (.iaload, 1) := by decide +kernel
theorem dX2_actOf_14 : decode cX2_actOf 14 = .ok (.goto 4, 3) := by decide +kernel
theorem dX2_actOf_17 : decode cX2_actOf 17 = .ok (.iconst 0, 1) := by decide +kernel
theorem dX2_actOf_18 : decode cX2_actOf 18 = .ok (.ireturn, 1) := by decide +kernel
theorem dX2_stateAfter_0 : decode cX2_stateAfter 0 = .ok (.iload_n 1, 1) := by decide +kernel
theorem dX2_stateAfter_1 : decode cX2_stateAfter 1 = .ok (.aload_n 0, 1) := by decide +kernel
theorem dX2_stateAfter_2 : decode cX2_stateAfter 2 = .ok (.getfield 26, 3) := by decide +kernel
theorem dX2_stateAfter_5 : decode cX2_stateAfter 5 = .ok (.if_icmp .ge 23, 3) := by decide +kernel
theorem dX2_stateAfter_8 : decode cX2_stateAfter 8 = .ok (.aload_n 0, 1) := by decide +kernel
theorem dX2_stateAfter_9 : decode cX2_stateAfter 9 = .ok (.getfield 18, 3) := by decide +kernel
theorem dX2_stateAfter_12 : decode cX2_stateAfter 12 = .ok (.iload_n 1, 1) := by decide +kernel
theorem dX2_stateAfter_13 : decode cX2_stateAfter 13 = .ok (.iaload, 1) := by decide +kernel
theorem dX2_stateAfter_14 : decode cX2_stateAfter 14 = .ok (.bipush (-4), 2) := by decide +kernel
theorem dX2_stateAfter_16 : decode cX2_stateAfter 16 = .ok (.if_icmp .eq 12, 3) := by decide +kernel
theorem dX2_stateAfter_19 : decode cX2_stateAfter 19 = .ok (.aload_n 0, 1) := by decide +kernel
theorem dX2_stateAfter_20 : decode cX2_stateAfter 20 = .ok (.getfield 18, 3) := by decide +kernel
theorem dX2_stateAfter_23 : decode cX2_stateAfter 23 = .ok (.iload_n 1, 1) := by decide +kernel
theorem dX2_stateAfter_24 : decode cX2_stateAfter 24 = .ok (.iaload, 1) := by decide +kernel
theorem dX2_stateAfter_25 : decode cX2_stateAfter 25 = .ok (.goto 4, 3) := by decide +kernel
theorem dX2_stateAfter_28 : decode cX2_stateAfter 28 = .ok (.iload_n 2, 1) := by decide +kernel
theorem dX2_stateAfter_29 : decode cX2_stateAfter 29 = .ok (.ireturn, 1) := by decide +kernel
theorem dX2_rulesOf_0 : decode cX2_rulesOf 0 = .ok (.iconst 0, 1) := by decide +kernel
theorem dX2_rulesOf_1 : decode cX2_rulesOf 1 = .ok (.istore_n 2, 1) := by decide +kernel
theorem dX2_rulesOf_2 : decode cX2_rulesOf 2 = .ok (.iconst 0, 1) := by decide +kernel
theorem dX2_rulesOf_3 : decode cX2_rulesOf 3 = .ok (.istore_n 3, 1) := by decide +kernel
theorem dX2_rulesOf_4 : decode cX2_rulesOf 4 = .ok (.iload_n 3, 1) := by decide +kernel
theorem dX2_rulesOf_5 : decode cX2_rulesOf 5 = .ok (.aload_n 0, 1) := by decide +kernel
theorem dX2_rulesOf_6 : decode cX2_rulesOf 6 = .ok (.getfield 26, 3) := by decide +kernel
theorem dX2_rulesOf_9 : decode cX2_rulesOf 9 = .ok (.if_icmp .ge 24, 3) := by decide +kernel
theorem dX2_rulesOf_12 : decode cX2_rulesOf 12 = .ok (.iload_n 2, 1) := by decide +kernel
theorem dX2_rulesOf_13 : decode cX2_rulesOf 13 = .ok (.iload_n 1, 1) := by decide +kernel
theorem dX2_rulesOf_14 : decode cX2_rulesOf 14 = .ok (.aload_n 0, 1) := by decide +kernel
theorem dX2_rulesOf_15 : decode cX2_rulesOf 15 = .ok (.getfield 9, 3) := by decide +kernel
theorem dX2_rulesOf_18 : decode cX2_rulesOf 18 = .ok (.iload_n 3, 1) := by decide +kernel
theorem dX2_rulesOf_19 : decode cX2_rulesOf 19 = .ok (.iaload, 1) := by decide +kernel
theorem dX2_rulesOf_20 : decode cX2_rulesOf 20 = .ok (.ishr, 1) := by decide +kernel
theorem dX2_rulesOf_21 : decode cX2_rulesOf 21 = .ok (.iconst 1, 1) := by decide +kernel
theorem dX2_rulesOf_22 : decode cX2_rulesOf 22 = .ok (.iand, 1) := by decide +kernel
theorem dX2_rulesOf_23 : decode cX2_rulesOf 23 = .ok (.iload_n 3, 1) := by decide +kernel
theorem dX2_rulesOf_24 : decode cX2_rulesOf 24 = .ok (.ishl, 1) := by decide +kernel
theorem dX2_rulesOf_25 : decode cX2_rulesOf 25 = .ok (.ior, 1) := by decide +kernel
theorem dX2_rulesOf_26 : decode cX2_rulesOf 26 = .ok (.istore_n 2, 1) := by decide +kernel
theorem dX2_rulesOf_27 : decode cX2_rulesOf 27 = .ok (.iinc 3 1, 3) := by decide +kernel
theorem dX2_rulesOf_30 : decode cX2_rulesOf 30 = .ok (.goto (-26), 3) := by decide +kernel
theorem dX2_rulesOf_33 : decode cX2_rulesOf 33 = .ok (.iload_n 2, 1) := by decide +kernel
theorem dX2_rulesOf_34 : decode cX2_rulesOf 34 = .ok (.ireturn, 1) := by decide +kernel
theorem dX3_init_0 : decode cX3_init 0 = .ok (.aload_n 0, 1) := by decide +kernel
theorem dX3_init_1 : decode cX3_init 1 = .ok (.invokespecial 3, 3) := by decide +kernel
theorem dX3_init_4 : decode cX3_init 4 = .ok (.aload_n 0, 1) := by decide +kernel
theorem dX3_init_5 : decode cX3_init 5 = .ok (.bipush 12, 2) := by decide +kernel
theorem dX3_init_7 : decode cX3_init 7 = .ok (.newarray .int, 2) := by decide +kernel
theorem dX3_init_9 : decode cX3_init 9 = .ok (.putfield 9, 3) := by decide +kernel
theorem dX3_init_12 : decode cX3_init 12 = .ok (.aload_n 0, 1) := by decide +kernel
theorem dX3_init_13 : decode cX3_init 13 = .ok (.bipush 12, 2) := by decide +kernel
theorem dX3_init_15 : decode cX3_init 15 = .ok (.newarray .int, 2) := by decide +kernel
theorem dX3_init_17 : decode cX3_init 17 = .ok (.putfield 15, 3) := by decide +kernel
theorem dX3_init_20 : decode cX3_init 20 = .ok (.aload_n 0, 1) := by decide +kernel
theorem dX3_init_21 : decode cX3_init 21 = .ok (.bipush 12, 2) := by decide +kernel
theorem dX3_init_23 : decode cX3_init 23 = .ok (.newarray .int, 2) := by decide +kernel
theorem dX3_init_25 : decode cX3_init 25 = .ok (.putfield 18, 3) := by decide +kernel
theorem dX3_init_28 : decode cX3_init 28 = .ok (.aload_n 0, 1) := by decide +kernel
theorem dX3_init_29 : decode cX3_init 29 = .ok (.bipush 12, 2) := by decide +kernel
theorem dX3_init_31 : decode cX3_init 31 = .ok (.newarray .int, 2) := by decide +kernel
theorem dX3_init_33 : decode cX3_init 33 = .ok (.putfield 21, 3) := by decide +kernel
theorem dX3_init_36 : decode cX3_init 36 = .ok (.aload_n 0, 1) := by decide +kernel
theorem dX3_init_37 : decode cX3_init 37 = .ok (.bipush 12, 2) := by decide +kernel
theorem dX3_init_39 : decode cX3_init 39 = .ok (.newarray .int, 2) := by decide +kernel
theorem dX3_init_41 : decode cX3_init 41 = .ok (.putfield 24, 3) := by decide +kernel
theorem dX3_init_44 : decode cX3_init 44 = .ok (.return_, 1) := by decide +kernel
theorem dX3_look_0 : decode cX3_look 0 = .ok (.aload_n 1, 1) := by decide +kernel
theorem dX3_look_1 : decode cX3_look 1 = .ok (.getfield 27, 3) := by decide +kernel
theorem dX3_look_4 : decode cX3_look 4 = .ok (.iconst 0, 1) := by decide +kernel
theorem dX3_look_5 : decode cX3_look 5 = .ok (.aaload, 1) := by decide +kernel
theorem dX3_look_6 : decode cX3_look 6 = .ok (.iconst 0, 1) := by decide +kernel
theorem dX3_look_7 : decode cX3_look 7 = .ok (.aload_n 0, 1) := by decide +kernel
theorem dX3_look_8 : decode cX3_look 8 = .ok (.getfield 9, 3) := by decide +kernel
theorem dX3_look_11 : decode cX3_look 11 = .ok (.iconst 0, 1) := by decide +kernel
theorem dX3_look_12 : decode cX3_look 12 = .ok (.bipush 12, 2) := by decide +kernel
theorem dX3_look_14 : decode cX3_look 14 = .ok (.invokestatic 33, 3) := by decide +kernel
theorem dX3_look_17 : decode cX3_look 17 = .ok (.aload_n 1, 1) := by decide +kernel
theorem dX3_look_18 : decode cX3_look 18 = .ok (.getfield 27, 3) := by decide +kernel
theorem dX3_look_21 : decode cX3_look 21 = .ok (.iconst 1, 1) := by decide +kernel
theorem dX3_look_22 : decode cX3_look 22 = .ok (.aaload, 1) := by decide +kernel
theorem dX3_look_23 : decode cX3_look 23 = .ok (.iconst 0, 1) := by decide +kernel
theorem dX3_look_24 : decode cX3_look 24 = .ok (.aload_n 0, 1) := by decide +kernel
theorem dX3_look_25 : decode cX3_look 25 = .ok (.getfield 15, 3) := by decide +kernel
theorem dX3_look_28 : decode cX3_look 28 = .ok (.iconst 0, 1) := by decide +kernel
theorem dX3_look_29 : decode cX3_look 29 = .ok (.bipush 12, 2) := by decide +kernel
theorem dX3_look_31 : decode cX3_look 31 = .ok (.invokestatic 33, 3) := by decide +kernel
theorem dX3_look_34 : decode cX3_look 34 = .ok (.return_, 1) := by decide +kernel
theorem dX3_hide_0 : decode cX3_hide 0 = .ok (.iconst 0, 1) := by decide +kernel
theorem dX3_hide_1 : decode cX3_hide 1 = .ok (.istore_n 2, 1) := by decide +kernel
theorem dX3_hide_2 : decode cX3_hide 2 = .ok (.iload_n 2, 1) := by decide +kernel
theorem dX3_hide_3 : decode cX3_hide 3 = .ok (.bipush 12, 2) := by decide +kernel
theorem dX3_hide_5 : decode cX3_hide 5 = .ok (.if_icmp .ge 26, 3) := by decide +kernel
theorem dX3_hide_8 : decode cX3_hide 8 = .ok (.aload_n 0, 1) := by decide +kernel
theorem dX3_hide_9 : decode cX3_hide 9 = .ok (.getfield 9, 3) := by decide +kernel
theorem dX3_hide_12 : decode cX3_hide 12 = .ok (.iload_n 2, 1) := by decide +kernel
theorem dX3_hide_13 : decode cX3_hide 13 = .ok (.dup2, 1) := by decide +kernel
theorem dX3_hide_14 : decode cX3_hide 14 = .ok (.iaload, 1) := by decide +kernel
theorem dX3_hide_15 : decode cX3_hide 15 = .ok (.aload_n 1, 1) := by decide +kernel
theorem dX3_hide_16 : decode cX3_hide 16 = .ok (.getfield 27, 3) := by decide +kernel
theorem dX3_hide_19 : decode cX3_hide 19 = .ok (.iconst 2, 1) := by decide +kernel
theorem dX3_hide_20 : decode cX3_hide 20 = .ok (.aaload, 1) := by decide +kernel
theorem dX3_hide_21 : decode cX3_hide 21 = .ok (.iload_n 2, 1) := by decide +kernel
theorem dX3_hide_22 : decode cX3_hide 22 = .ok (.iaload, 1) := by decide +kernel
theorem dX3_hide_23 : decode cX3_hide 23 = .ok (.iand, 1) := by decide +kernel
theorem dX3_hide_24 : decode cX3_hide 24 = .ok (.iastore, 1) := by decide +kernel
theorem dX3_hide_25 : decode cX3_hide 25 = .ok (.iinc 2 1, 3) := by decide +kernel
theorem dX3_hide_28 : decode cX3_hide 28 = .ok (.goto (-26), 3) := by decide +kernel
theorem dX3_hide_31 : decode cX3_hide 31 = .ok (.return_, 1) := by decide +kernel
theorem dX3_run_0 : decode cX3_run 0 = .ok (.iconst 0, 1) := by decide +kernel
theorem dX3_run_1 : decode cX3_run 1 = .ok (.istore 4, 2) := by decide +kernel
theorem dX3_run_3 : decode cX3_run 3 = .ok (.iconst 0, 1) := by decide +kernel
theorem dX3_run_4 : decode cX3_run 4 = .ok (.istore 5, 2) := by decide +kernel
theorem dX3_run_6 : decode cX3_run 6 = .ok (.iload 5, 2) := by decide +kernel
theorem dX3_run_8 : decode cX3_run 8 = .ok (.iload_n 3, 1) := by decide +kernel
theorem dX3_run_9 : decode cX3_run 9 = .ok (.if_icmp .ge 76, 3) := by decide +kernel
theorem dX3_run_12 : decode cX3_run 12 = .ok (.aload_n 1, 1) := by decide +kernel
theorem dX3_run_13 : decode cX3_run 13 = .ok (.iload_n 2, 1) := by decide +kernel
theorem dX3_run_14 : decode cX3_run 14 = .ok (.iload 4, 2) := by decide +kernel
theorem dX3_run_16 : decode cX3_run 16 = .ok (.iconst 2, 1) := by decide +kernel
theorem dX3_run_17 : decode cX3_run 17 = .ok (.aload_n 0, 1) := by decide +kernel
theorem dX3_run_18 : decode cX3_run 18 = .ok (.getfield 9, 3) := by decide +kernel
theorem dX3_run_21 : decode cX3_run 21 = .ok (.iload 5, 2) := by decide +kernel
theorem dX3_run_23 : decode cX3_run 23 = .ok (.iaload, 1) := by decide +kernel
theorem dX3_run_24 : decode cX3_run 24 = .ok (.imul, 1) := by decide +kernel
theorem dX3_run_25 : decode cX3_run 25 = .ok (.aload_n 0, 1) := by decide +kernel
theorem dX3_run_26 : decode cX3_run 26 = .ok (.getfield 15, 3) := by decide +kernel
theorem dX3_run_29 : decode cX3_run 29 = .ok (.iload 5, 2) := by decide +kernel
theorem dX3_run_31 : decode cX3_run 31 = .ok (.iaload, 1) := by decide +kernel
theorem dX3_run_32 : decode cX3_run 32 = .ok (.iadd, 1) := by decide +kernel
theorem dX3_run_33 : decode cX3_run 33 = .ok (.invokevirtual 39, 3) := by decide +kernel
theorem dX3_run_36 : decode cX3_run 36 = .ok (.istore 6, 2) := by decide +kernel
theorem dX3_run_38 : decode cX3_run 38 = .ok (.aload_n 0, 1) := by decide +kernel
theorem dX3_run_39 : decode cX3_run 39 = .ok (.getfield 18, 3) := by decide +kernel
theorem dX3_run_42 : decode cX3_run 42 = .ok (.iload 5, 2) := by decide +kernel
theorem dX3_run_44 : decode cX3_run 44 = .ok (.iload 4, 2) := by decide +kernel
theorem dX3_run_46 : decode cX3_run 46 = .ok (.iastore, 1) := by decide +kernel
theorem dX3_run_47 : decode cX3_run 47 = .ok (.aload_n 0, 1) := by decide +kernel
theorem dX3_run_48 : decode cX3_run 48 = .ok (.getfield 21, 3) := by decide +kernel
theorem dX3_run_51 : decode cX3_run 51 = .ok (.iload 5, 2) := by decide +kernel
theorem dX3_run_53 : decode cX3_run 53 = .ok (.iload 6, 2) := by decide +kernel
theorem dX3_run_55 : decode cX3_run 55 = .ok (.iastore, 1) := by decide +kernel
theorem dX3_run_56 : decode cX3_run 56 = .ok (.aload_n 0, 1) := by decide +kernel
theorem dX3_run_57 : decode cX3_run 57 = .ok (.getfield 24, 3) := by decide +kernel
theorem dX3_run_60 : decode cX3_run 60 = .ok (.iload 5, 2) := by decide +kernel
theorem dX3_run_62 : decode cX3_run 62 = .ok (.aload_n 1, 1) := by decide +kernel
theorem dX3_run_63 : decode cX3_run 63 = .ok (.iload 6, 2) := by decide +kernel
theorem dX3_run_65 : decode cX3_run 65 = .ok (.invokevirtual 45, 3) := by decide +kernel
theorem dX3_run_68 : decode cX3_run 68 = .ok (.iastore, 1) := by decide +kernel
theorem dX3_run_69 : decode cX3_run 69 = .ok (.aload_n 1, 1) := by decide +kernel
theorem dX3_run_70 : decode cX3_run 70 = .ok (.iload 6, 2) := by decide +kernel
theorem dX3_run_72 : decode cX3_run 72 = .ok (.iload 4, 2) := by decide +kernel
theorem dX3_run_74 : decode cX3_run 74 = .ok (.invokevirtual 49, 3) := by decide +kernel
theorem dX3_run_77 : decode cX3_run 77 = .ok (.istore 4, 2) := by decide +kernel
theorem dX3_run_79 : decode cX3_run 79 = .ok (.iinc 5 1, 3) := by decide +kernel
theorem dX3_run_82 : decode cX3_run 82 = .ok (.goto (-76), 3) := by decide +kernel
theorem dX3_run_85 : decode cX3_run 85 = .ok (.return_, 1) := by decide +kernel
theorem dX4_init_0 : decode cX4_init 0 = .ok (.aload_n 0, 1) := by decide +kernel
theorem dX4_init_1 : decode cX4_init 1 = .ok (.invokespecial 3, 3) := by decide +kernel
theorem dX4_init_4 : decode cX4_init 4 = .ok (.aload_n 0, 1) := by decide +kernel
theorem dX4_init_5 : decode cX4_init 5 = .ok (.bipush 6, 2) := by decide +kernel
theorem dX4_init_7 : decode cX4_init 7 = .ok (.bipush 16, 2) := by decide +kernel
theorem dX4_init_9 : decode cX4_init 9 = .ok (.multianewarray 9 2, 4) := by decide +kernel
theorem dX4_init_13 : decode cX4_init 13 = .ok (.putfield 11, 3) := by decide +kernel
theorem dX4_init_16 : decode cX4_init 16 = .ok (.aload_n 0, 1) := by decide +kernel
theorem dX4_init_17 : decode cX4_init 17 = .ok (.bipush 6, 2) := by decide +kernel
theorem dX4_init_19 : decode cX4_init 19 = .ok (.bipush 16, 2) := by decide +kernel
theorem dX4_init_21 : decode cX4_init 21 = .ok (.multianewarray 9 2, 4) := by decide +kernel
theorem dX4_init_25 : decode cX4_init 25 = .ok (.putfield 16, 3) := by decide +kernel
theorem dX4_init_28 : decode cX4_init 28 = .ok (.aload_n 0, 1) := by decide +kernel
theorem dX4_init_29 : decode cX4_init 29 = .ok (.bipush 16, 2) := by decide +kernel
theorem dX4_init_31 : decode cX4_init 31 = .ok (.newarray .int, 2) := by decide +kernel
theorem dX4_init_33 : decode cX4_init 33 = .ok (.putfield 19, 3) := by decide +kernel
theorem dX4_init_36 : decode cX4_init 36 = .ok (.aload_n 0, 1) := by decide +kernel
theorem dX4_init_37 : decode cX4_init 37 = .ok (.iconst 0, 1) := by decide +kernel
theorem dX4_init_38 : decode cX4_init 38 = .ok (.putfield 23, 3) := by decide +kernel
theorem dX4_init_41 : decode cX4_init 41 = .ok (.aload_n 0, 1) := by decide +kernel
theorem dX4_init_42 : decode cX4_init 42 = .ok (.iconst 0, 1) := by decide +kernel
theorem dX4_init_43 : decode cX4_init 43 = .ok (.putfield 27, 3) := by decide +kernel
theorem dX4_init_46 : decode cX4_init 46 = .ok (.aload_n 0, 1) := by decide +kernel
theorem dX4_init_47 : decode cX4_init 47 = .ok (.iconst 0, 1) := by decide +kernel
theorem dX4_init_48 : decode cX4_init 48 = .ok (.putfield 30, 3) := by decide +kernel
theorem dX4_init_51 : decode cX4_init 51 = .ok (.aload_n 0, 1) := by decide +kernel
theorem dX4_init_52 : decode cX4_init 52 = .ok (.aload_n 1, 1) := by decide +kernel
theorem dX4_init_53 : decode cX4_init 53 = .ok (.putfield 34, 3) := by decide +kernel
theorem dX4_init_56 : decode cX4_init 56 = .ok (.return_, 1) := by decide +kernel
theorem dX4_readRules_0 : decode cX4_readRules 0 = .ok (.aload_n 0, 1) := by decide +kernel
theorem dX4_readRules_1 : decode cX4_readRules 1 = .ok (.iconst 0, 1) := by decide +kernel
theorem dX4_readRules_2 : decode cX4_readRules 2 = .ok (.invokevirtual 38, 3) := by decide +kernel
theorem dX4_readRules_5 : decode cX4_readRules 5 = .ok (.aload_n 1, 1) := by decide +kernel
theorem dX4_readRules_6 : decode cX4_readRules 6 = .ok (.iconst 0, 1) := by decide +kernel
theorem dX4_readRules_7 : decode cX4_readRules 7 = .ok (.putfield 42, 3) := by decide +kernel
theorem dX4_readRules_10 : decode cX4_readRules 10 = .ok (.iconst 0, 1) := by decide +kernel
theorem dX4_readRules_11 : decode cX4_readRules 11 = .ok (.istore_n 2, 1) := by decide +kernel
theorem dX4_readRules_12 : decode cX4_readRules 12 = .ok (.iload_n 2, 1) := by decide +kernel
theorem dX4_readRules_13 : decode cX4_readRules 13 = .ok (.bipush 8, 2) := by decide +kernel
theorem dX4_readRules_15 : decode cX4_readRules 15 = .ok (.if_icmp .ge 33, 3) := by decide +kernel
theorem dX4_readRules_18 : decode cX4_readRules 18 = .ok (.aload_n 0, 1) := by decide +kernel
theorem dX4_readRules_19 : decode cX4_readRules 19 = .ok (.aload_n 1, 1) := by decide +kernel
theorem dX4_readRules_20 : decode cX4_readRules 20 = .ok (.iload_n 2, 1) := by decide +kernel
theorem dX4_readRules_21 : decode cX4_readRules 21 = .ok (.invokevirtual 47, 3) := by decide +kernel
theorem dX4_readRules_24 : decode cX4_readRules 24 = .ok (.iload_n 2, 1) := by decide +kernel
theorem dX4_readRules_25 : decode cX4_readRules 25 = .ok (.bipush 7, 2) := by decide +kernel
theorem dX4_readRules_27 : decode cX4_readRules 27 = .ok (.if_icmp .eq 21, 3) := by decide +kernel
theorem dX4_readRules_30 : decode cX4_readRules 30 = .ok (.aload_n 0, 1) := by decide +kernel
theorem dX4_readRules_31 : decode cX4_readRules 31 = .ok (.bipush 59, 2) := by decide +kernel
theorem dX4_readRules_33 : decode cX4_readRules 33 = .ok (.invokevirtual 51, 3) := by decide +kernel
theorem dX4_readRules_36 : decode cX4_readRules 36 = .ok (.ifCond .ne 6, 3) := by decide +kernel
theorem dX4_readRules_39 : decode cX4_readRules 39 = .ok (.goto 9, 3) := by decide +kernel
theorem dX4_readRules_42 : decode cX4_readRules 42 = .ok (.iinc 2 1, 3) := by decide +kernel
theorem dX4_readRules_45 : decode cX4_readRules 45 = .ok (.goto (-33), 3) := by decide +kernel
theorem dX4_readRules_48 : decode cX4_readRules 48 = .ok (.aload_n 0, 1) := by decide +kernel
theorem dX4_readRules_49 : decode cX4_readRules 49 = .ok (.invokevirtual 55, 3) := by decide +kernel
theorem dX4_readRules_52 : decode cX4_readRules 52 = .ok (.aload_n 0, 1) := by decide +kernel
theorem dX4_readRules_53 : decode cX4_readRules 53 = .ok (.getfield 27, 3) := by decide +kernel
theorem dX4_readRules_56 : decode cX4_readRules 56 = .ok (.ifCond .eq 13, 3) := by decide +kernel
theorem dX4_readRules_59 : decode cX4_readRules 59 = .ok (.bipush (-20), 2) := by decide +kernel
theorem dX4_readRules_61 : decode cX4_readRules 61 = .ok (.aload_n 0, 1) := by decide +kernel
theorem dX4_readRules_62 : decode cX4_readRules 62 = .ok (.getfield 30, 3) := by decide +kernel
theorem dX4_readRules_65 : decode cX4_readRules 65 = .ok (.isub, 1) := by decide +kernel
theorem dX4_readRules_66 : decode cX4_readRules 66 = .ok (.goto 7, 3) := by decide +kernel
theorem dX4_readRules_69 : decode cX4_readRules 69 = .ok (.aload_n 1, 1) := by decide +kernel
theorem dX4_readRules_70 : decode cX4_readRules 70 = .ok (.getfield 42, 3) := by decide +kernel
theorem dX4_readRules_73 : decode cX4_readRules 73 = .ok (.ireturn, 1) := by decide +kernel
theorem dX4_readDuty_0 : decode cX4_readDuty 0 = .ok (.aload_n 0, 1) := by decide +kernel
theorem dX4_readDuty_1 : decode cX4_readDuty 1 = .ok (.iconst 1, 1) := by decide +kernel
theorem dX4_readDuty_2 : decode cX4_readDuty 2 = .ok (.invokevirtual 38, 3) := by decide +kernel
theorem dX4_readDuty_5 : decode cX4_readDuty 5 = .ok (.aload_n 0, 1) := by decide +kernel
theorem dX4_readDuty_6 : decode cX4_readDuty 6 = .ok (.iconst 0, 1) := by decide +kernel
theorem dX4_readDuty_7 : decode cX4_readDuty 7 = .ok (.invokevirtual 58, 3) := by decide +kernel
theorem dX4_readDuty_10 : decode cX4_readDuty 10 = .ok (.aload_n 0, 1) := by decide +kernel
theorem dX4_readDuty_11 : decode cX4_readDuty 11 = .ok (.invokevirtual 55, 3) := by decide +kernel
theorem dX4_readDuty_14 : decode cX4_readDuty 14 = .ok (.aload_n 0, 1) := by decide +kernel
theorem dX4_readDuty_15 : decode cX4_readDuty 15 = .ok (.getfield 27, 3) := by decide +kernel
theorem dX4_readDuty_18 : decode cX4_readDuty 18 = .ok (.ifCond .eq 11, 3) := by decide +kernel
theorem dX4_readDuty_21 : decode cX4_readDuty 21 = .ok (.bipush (-20), 2) := by decide +kernel
theorem dX4_readDuty_23 : decode cX4_readDuty 23 = .ok (.aload_n 0, 1) := by decide +kernel
theorem dX4_readDuty_24 : decode cX4_readDuty 24 = .ok (.getfield 30, 3) := by decide +kernel
theorem dX4_readDuty_27 : decode cX4_readDuty 27 = .ok (.isub, 1) := by decide +kernel
theorem dX4_readDuty_28 : decode cX4_readDuty 28 = .ok (.ireturn, 1) := by decide +kernel
theorem dX4_readDuty_29 : decode cX4_readDuty 29 = .ok (.aload_n 0, 1) := by decide +kernel
theorem dX4_readDuty_30 : decode cX4_readDuty 30 = .ok (.getfield 11, 3) := by decide +kernel
theorem dX4_readDuty_33 : decode cX4_readDuty 33 = .ok (.iconst 0, 1) := by decide +kernel
theorem dX4_readDuty_34 : decode cX4_readDuty 34 = .ok (.aaload, 1) := by decide +kernel
theorem dX4_readDuty_35 : decode cX4_readDuty 35 = .ok (.iconst 0, 1) := by decide +kernel
theorem dX4_readDuty_36 : decode cX4_readDuty 36 = .ok (.aload_n 1, 1) := by decide +kernel
theorem dX4_readDuty_37 : decode cX4_readDuty 37 = .ok (.iconst 0, 1) := by decide +kernel
theorem dX4_readDuty_38 : decode cX4_readDuty 38 = .ok (.bipush 16, 2) := by decide +kernel
theorem dX4_readDuty_40 : decode cX4_readDuty 40 = .ok (.invokestatic 62, 3) := by decide +kernel
theorem dX4_readDuty_43 : decode cX4_readDuty 43 = .ok (.iconst 1, 1) := by decide +kernel
theorem dX4_readDuty_44 : decode cX4_readDuty 44 = .ok (.ireturn, 1) := by decide +kernel
theorem dX4_start_0 : decode cX4_start 0 = .ok (.aload_n 0, 1) := by decide +kernel
theorem dX4_start_1 : decode cX4_start 1 = .ok (.iload_n 1, 1) := by decide +kernel
theorem dX4_start_2 : decode cX4_start 2 = .ok (.putfield 23, 3) := by decide +kernel
theorem dX4_start_5 : decode cX4_start 5 = .ok (.aload_n 0, 1) := by decide +kernel
theorem dX4_start_6 : decode cX4_start 6 = .ok (.iconst 0, 1) := by decide +kernel
theorem dX4_start_7 : decode cX4_start 7 = .ok (.putfield 27, 3) := by decide +kernel
theorem dX4_start_10 : decode cX4_start 10 = .ok (.aload_n 0, 1) := by decide +kernel
theorem dX4_start_11 : decode cX4_start 11 = .ok (.iconst 0, 1) := by decide +kernel
theorem dX4_start_12 : decode cX4_start 12 = .ok (.putfield 30, 3) := by decide +kernel
theorem dX4_start_15 : decode cX4_start 15 = .ok (.return_, 1) := by decide +kernel
theorem dX4_readClause_0 : decode cX4_readClause 0 = .ok (.aload_n 1, 1) := by decide +kernel
theorem dX4_readClause_1 : decode cX4_readClause 1 = .ok (.getfield 68, 3) := by decide +kernel
theorem dX4_readClause_4 : decode cX4_readClause 4 = .ok (.iload_n 2, 1) := by decide +kernel
theorem dX4_readClause_5 : decode cX4_readClause 5 = .ok (.aload_n 0, 1) := by decide +kernel
theorem dX4_readClause_6 : decode cX4_readClause 6 = .ok (.invokevirtual 71, 3) := by decide +kernel
theorem dX4_readClause_9 : decode cX4_readClause 9 = .ok (.iastore, 1) := by decide +kernel
theorem dX4_readClause_10 : decode cX4_readClause 10 = .ok (.aload_n 0, 1) := by decide +kernel
theorem dX4_readClause_11 : decode cX4_readClause 11 = .ok (.iconst 0, 1) := by decide +kernel
theorem dX4_readClause_12 : decode cX4_readClause 12 = .ok (.invokevirtual 58, 3) := by decide +kernel
theorem dX4_readClause_15 : decode cX4_readClause 15 = .ok (.aload_n 0, 1) := by decide +kernel
theorem dX4_readClause_16 : decode cX4_readClause 16 = .ok (.getfield 11, 3) := by decide +kernel
theorem dX4_readClause_19 : decode cX4_readClause 19 = .ok (.iconst 0, 1) := by decide +kernel
theorem dX4_readClause_20 : decode cX4_readClause 20 = .ok (.aaload, 1) := by decide +kernel
theorem dX4_readClause_21 : decode cX4_readClause 21 = .ok (.iconst 0, 1) := by decide +kernel
theorem dX4_readClause_22 : decode cX4_readClause 22 = .ok (.aload_n 1, 1) := by decide +kernel
theorem dX4_readClause_23 : decode cX4_readClause 23 = .ok (.getfield 75, 3) := by decide +kernel
theorem dX4_readClause_26 : decode cX4_readClause 26 = .ok (.iload_n 2, 1) := by decide +kernel
theorem dX4_readClause_27 : decode cX4_readClause 27 = .ok (.aaload, 1) := by decide +kernel
theorem dX4_readClause_28 : decode cX4_readClause 28 = .ok (.iconst 0, 1) := by decide +kernel
theorem dX4_readClause_29 : decode cX4_readClause 29 = .ok (.iconst 4, 1) := by decide +kernel
theorem dX4_readClause_30 : decode cX4_readClause 30 = .ok (.invokestatic 62, 3) := by decide +kernel
theorem dX4_readClause_33 : decode cX4_readClause 33 = .ok (.aload_n 0, 1) := by decide +kernel
theorem dX4_readClause_34 : decode cX4_readClause 34 = .ok (.bipush 58, 2) := by decide +kernel
theorem dX4_readClause_36 : decode cX4_readClause 36 = .ok (.invokevirtual 78, 3) := by decide +kernel
theorem dX4_readClause_39 : decode cX4_readClause 39 = .ok (.aload_n 1, 1) := by decide +kernel
theorem dX4_readClause_40 : decode cX4_readClause 40 = .ok (.getfield 82, 3) := by decide +kernel
theorem dX4_readClause_43 : decode cX4_readClause 43 = .ok (.iload_n 2, 1) := by decide +kernel
theorem dX4_readClause_44 : decode cX4_readClause 44 = .ok (.aload_n 0, 1) := by decide +kernel
theorem dX4_readClause_45 : decode cX4_readClause 45 = .ok (.invokevirtual 71, 3) := by decide +kernel
theorem dX4_readClause_48 : decode cX4_readClause 48 = .ok (.iastore, 1) := by decide +kernel
theorem dX4_readClause_49 : decode cX4_readClause 49 = .ok (.aload_n 1, 1) := by decide +kernel
theorem dX4_readClause_50 : decode cX4_readClause 50 = .ok (.getfield 85, 3) := by decide +kernel
theorem dX4_readClause_53 : decode cX4_readClause 53 = .ok (.iload_n 2, 1) := by decide +kernel
theorem dX4_readClause_54 : decode cX4_readClause 54 = .ok (.aload_n 0, 1) := by decide +kernel
theorem dX4_readClause_55 : decode cX4_readClause 55 = .ok (.bipush 62, 2) := by decide +kernel
theorem dX4_readClause_57 : decode cX4_readClause 57 = .ok (.invokevirtual 51, 3) := by decide +kernel
theorem dX4_readClause_60 : decode cX4_readClause 60 = .ok (.ifCond .eq 10, 3) := by decide +kernel
theorem dX4_readClause_63 : decode cX4_readClause 63 = .ok (.aload_n 0, 1) := by decide +kernel
theorem dX4_readClause_64 : decode cX4_readClause 64 = .ok (.invokevirtual 71, 3) := by decide +kernel
theorem dX4_readClause_67 : decode cX4_readClause 67 = .ok (.goto 5, 3) := by decide +kernel
theorem dX4_readClause_70 : decode cX4_readClause 70 = .ok (.bipush (-4), 2) := by decide +kernel
theorem dX4_readClause_72 : decode cX4_readClause 72 = .ok (.iastore, 1) := by decide +kernel
theorem dX4_readClause_73 : decode cX4_readClause 73 = .ok (.aload_n 1, 1) := by decide +kernel
theorem dX4_readClause_74 : decode cX4_readClause 74 = .ok (.iload_n 2, 1) := by decide +kernel
theorem dX4_readClause_75 : decode cX4_readClause 75 = .ok (.iconst 1, 1) := by decide +kernel
theorem dX4_readClause_76 : decode cX4_readClause 76 = .ok (.iadd, 1) := by decide +kernel
theorem dX4_readClause_77 : decode cX4_readClause 77 = .ok (.putfield 42, 3) := by decide +kernel
theorem dX4_readClause_80 : decode cX4_readClause 80 = .ok (.return_, 1) := by decide +kernel
theorem dX4_readTest_0 : decode cX4_readTest 0 = .ok (.aload_n 0, 1) := by decide +kernel
theorem dX4_readTest_1 : decode cX4_readTest 1 = .ok (.getfield 11, 3) := by decide +kernel
theorem dX4_readTest_4 : decode cX4_readTest 4 = .ok (.iload_n 1, 1) := by decide +kernel
theorem dX4_readTest_5 : decode cX4_readTest 5 = .ok (.aaload, 1) := by decide +kernel
theorem dX4_readTest_6 : decode cX4_readTest 6 = .ok (.astore_n 2, 1) := by decide +kernel
theorem dX4_readTest_7 : decode cX4_readTest 7 = .ok (.aload_n 2, 1) := by decide +kernel
theorem dX4_readTest_8 : decode cX4_readTest 8 = .ok (.iconst 0, 1) := by decide +kernel
theorem dX4_readTest_9 : decode cX4_readTest 9 = .ok (.invokestatic 88, 3) := by decide +kernel
theorem dX4_readTest_12 : decode cX4_readTest 12 = .ok (.iconst 0, 1) := by decide +kernel
theorem dX4_readTest_13 : decode cX4_readTest 13 = .ok (.istore_n 3, 1) := by decide +kernel
theorem dX4_readTest_14 : decode cX4_readTest 14 = .ok (.iload_n 3, 1) := by decide +kernel
theorem dX4_readTest_15 : decode cX4_readTest 15 = .ok (.bipush 120, 2) := by decide +kernel
theorem dX4_readTest_17 : decode cX4_readTest 17 = .ok (.if_icmp .ge 56, 3) := by decide +kernel
theorem dX4_readTest_20 : decode cX4_readTest 20 = .ok (.aload_n 0, 1) := by decide +kernel
theorem dX4_readTest_21 : decode cX4_readTest 21 = .ok (.iload_n 1, 1) := by decide +kernel
theorem dX4_readTest_22 : decode cX4_readTest 22 = .ok (.invokevirtual 94, 3) := by decide +kernel
theorem dX4_readTest_25 : decode cX4_readTest 25 = .ok (.iconst 0, 1) := by decide +kernel
theorem dX4_readTest_26 : decode cX4_readTest 26 = .ok (.istore 4, 2) := by decide +kernel
theorem dX4_readTest_28 : decode cX4_readTest 28 = .ok (.iload 4, 2) := by decide +kernel
theorem dX4_readTest_30 : decode cX4_readTest 30 = .ok (.aload_n 2, 1) := by decide +kernel
theorem dX4_readTest_31 : decode cX4_readTest 31 = .ok (.arraylength, 1) := by decide +kernel
theorem dX4_readTest_32 : decode cX4_readTest 32 = .ok (.if_icmp .ge 25, 3) := by decide +kernel
theorem dX4_readTest_35 : decode cX4_readTest 35 = .ok (.aload_n 2, 1) := by decide +kernel
theorem dX4_readTest_36 : decode cX4_readTest 36 = .ok (.iload 4, 2) := by decide +kernel
theorem dX4_readTest_38 : decode cX4_readTest 38 = .ok (.dup2, 1) := by decide +kernel
theorem dX4_readTest_39 : decode cX4_readTest 39 = .ok (.iaload, 1) := by decide +kernel
theorem dX4_readTest_40 : decode cX4_readTest 40 = .ok (.aload_n 0, 1) := by decide +kernel
theorem dX4_readTest_41 : decode cX4_readTest 41 = .ok (.getfield 16, 3) := by decide +kernel
theorem dX4_readTest_44 : decode cX4_readTest 44 = .ok (.iload_n 1, 1) := by decide +kernel
theorem dX4_readTest_45 : decode cX4_readTest 45 = .ok (.aaload, 1) := by decide +kernel
theorem dX4_readTest_46 : decode cX4_readTest 46 = .ok (.iload 4, 2) := by decide +kernel
theorem dX4_readTest_48 : decode cX4_readTest 48 = .ok (.iaload, 1) := by decide +kernel
theorem dX4_readTest_49 : decode cX4_readTest 49 = .ok (.ior, 1) := by decide +kernel
theorem dX4_readTest_50 : decode cX4_readTest 50 = .ok (.iastore, 1) := by decide +kernel
theorem dX4_readTest_51 : decode cX4_readTest 51 = .ok (.iinc 4 1, 3) := by decide +kernel
theorem dX4_readTest_54 : decode cX4_readTest 54 = .ok (.goto (-26), 3) := by decide +kernel
theorem dX4_readTest_57 : decode cX4_readTest 57 = .ok (.aload_n 0, 1) := by decide +kernel
theorem dX4_readTest_58 : decode cX4_readTest 58 = .ok (.bipush 124, 2) := by decide +kernel
theorem dX4_readTest_60 : decode cX4_readTest 60 = .ok (.invokevirtual 51, 3) := by decide +kernel
theorem dX4_readTest_63 : decode cX4_readTest 63 = .ok (.ifCond .ne 4, 3) := by decide +kernel
theorem dX4_readTest_66 : decode cX4_readTest 66 = .ok (.return_, 1) := by decide +kernel
theorem dX4_readTest_67 : decode cX4_readTest 67 = .ok (.iinc 3 1, 3) := by decide +kernel
theorem dX4_readTest_70 : decode cX4_readTest 70 = .ok (.goto (-56), 3) := by decide +kernel
theorem dX4_readTest_73 : decode cX4_readTest 73 = .ok (.return_, 1) := by decide +kernel
theorem dX4_readCase_0 : decode cX4_readCase 0 = .ok (.aload_n 0, 1) := by decide +kernel
theorem dX4_readCase_1 : decode cX4_readCase 1 = .ok (.getfield 16, 3) := by decide +kernel
theorem dX4_readCase_4 : decode cX4_readCase 4 = .ok (.iload_n 1, 1) := by decide +kernel
theorem dX4_readCase_5 : decode cX4_readCase 5 = .ok (.aaload, 1) := by decide +kernel
theorem dX4_readCase_6 : decode cX4_readCase 6 = .ok (.astore_n 2, 1) := by decide +kernel
theorem dX4_readCase_7 : decode cX4_readCase 7 = .ok (.aload_n 2, 1) := by decide +kernel
theorem dX4_readCase_8 : decode cX4_readCase 8 = .ok (.iconst (-1), 1) := by decide +kernel
theorem dX4_readCase_9 : decode cX4_readCase 9 = .ok (.invokestatic 88, 3) := by decide +kernel
theorem dX4_readCase_12 : decode cX4_readCase 12 = .ok (.iconst 0, 1) := by decide +kernel
theorem dX4_readCase_13 : decode cX4_readCase 13 = .ok (.istore_n 3, 1) := by decide +kernel
theorem dX4_readCase_14 : decode cX4_readCase 14 = .ok (.iload_n 3, 1) := by decide +kernel
theorem dX4_readCase_15 : decode cX4_readCase 15 = .ok (.bipush 120, 2) := by decide +kernel
theorem dX4_readCase_17 : decode cX4_readCase 17 = .ok (.if_icmp .ge 54, 3) := by decide +kernel
theorem dX4_readCase_20 : decode cX4_readCase 20 = .ok (.aload_n 0, 1) := by decide +kernel
theorem dX4_readCase_21 : decode cX4_readCase 21 = .ok (.iload_n 1, 1) := by decide +kernel
theorem dX4_readCase_22 : decode cX4_readCase 22 = .ok (.invokevirtual 97, 3) := by decide +kernel
theorem dX4_readCase_25 : decode cX4_readCase 25 = .ok (.iconst 0, 1) := by decide +kernel
theorem dX4_readCase_26 : decode cX4_readCase 26 = .ok (.istore 4, 2) := by decide +kernel
theorem dX4_readCase_28 : decode cX4_readCase 28 = .ok (.iload 4, 2) := by decide +kernel
theorem dX4_readCase_30 : decode cX4_readCase 30 = .ok (.aload_n 2, 1) := by decide +kernel
theorem dX4_readCase_31 : decode cX4_readCase 31 = .ok (.arraylength, 1) := by decide +kernel
theorem dX4_readCase_32 : decode cX4_readCase 32 = .ok (.if_icmp .ge 23, 3) := by decide +kernel
theorem dX4_readCase_35 : decode cX4_readCase 35 = .ok (.aload_n 2, 1) := by decide +kernel
theorem dX4_readCase_36 : decode cX4_readCase 36 = .ok (.iload 4, 2) := by decide +kernel
theorem dX4_readCase_38 : decode cX4_readCase 38 = .ok (.dup2, 1) := by decide +kernel
theorem dX4_readCase_39 : decode cX4_readCase 39 = .ok (.iaload, 1) := by decide +kernel
theorem dX4_readCase_40 : decode cX4_readCase 40 = .ok (.aload_n 0, 1) := by decide +kernel
theorem dX4_readCase_41 : decode cX4_readCase 41 = .ok (.getfield 19, 3) := by decide +kernel
theorem dX4_readCase_44 : decode cX4_readCase 44 = .ok (.iload 4, 2) := by decide +kernel
theorem dX4_readCase_46 : decode cX4_readCase 46 = .ok (.iaload, 1) := by decide +kernel
theorem dX4_readCase_47 : decode cX4_readCase 47 = .ok (.iand, 1) := by decide +kernel
theorem dX4_readCase_48 : decode cX4_readCase 48 = .ok (.iastore, 1) := by decide +kernel
theorem dX4_readCase_49 : decode cX4_readCase 49 = .ok (.iinc 4 1, 3) := by decide +kernel
theorem dX4_readCase_52 : decode cX4_readCase 52 = .ok (.goto (-24), 3) := by decide +kernel
theorem dX4_readCase_55 : decode cX4_readCase 55 = .ok (.aload_n 0, 1) := by decide +kernel
theorem dX4_readCase_56 : decode cX4_readCase 56 = .ok (.bipush 38, 2) := by decide +kernel
theorem dX4_readCase_58 : decode cX4_readCase 58 = .ok (.invokevirtual 51, 3) := by decide +kernel
theorem dX4_readCase_61 : decode cX4_readCase 61 = .ok (.ifCond .ne 4, 3) := by decide +kernel
theorem dX4_readCase_64 : decode cX4_readCase 64 = .ok (.return_, 1) := by decide +kernel
theorem dX4_readCase_65 : decode cX4_readCase 65 = .ok (.iinc 3 1, 3) := by decide +kernel
theorem dX4_readCase_68 : decode cX4_readCase 68 = .ok (.goto (-54), 3) := by decide +kernel
theorem dX4_readCase_71 : decode cX4_readCase 71 = .ok (.return_, 1) := by decide +kernel
theorem dX4_readClaim_0 : decode cX4_readClaim 0 = .ok (.aload_n 0, 1) := by decide +kernel
theorem dX4_readClaim_1 : decode cX4_readClaim 1 = .ok (.bipush 33, 2) := by decide +kernel
theorem dX4_readClaim_3 : decode cX4_readClaim 3 = .ok (.invokevirtual 51, 3) := by decide +kernel
theorem dX4_readClaim_6 : decode cX4_readClaim 6 = .ok (.ifCond .eq 7, 3) := by decide +kernel
theorem dX4_readClaim_9 : decode cX4_readClaim 9 = .ok (.iconst (-1), 1) := by decide +kernel
theorem dX4_readClaim_10 : decode cX4_readClaim 10 = .ok (.goto 4, 3) := by decide +kernel
theorem dX4_readClaim_13 : decode cX4_readClaim 13 = .ok (.iconst 0, 1) := by decide +kernel
theorem dX4_readClaim_14 : decode cX4_readClaim 14 = .ok (.istore_n 2, 1) := by decide +kernel
theorem dX4_readClaim_15 : decode cX4_readClaim 15 = .ok (.aload_n 0, 1) := by decide +kernel
theorem dX4_readClaim_16 : decode cX4_readClaim 16 = .ok (.bipush 102, 2) := by decide +kernel
theorem dX4_readClaim_18 : decode cX4_readClaim 18 = .ok (.invokevirtual 51, 3) := by decide +kernel
theorem dX4_readClaim_21 : decode cX4_readClaim 21 = .ok (.ifCond .eq 21, 3) := by decide +kernel
theorem dX4_readClaim_24 : decode cX4_readClaim 24 = .ok (.aload_n 0, 1) := by decide +kernel
theorem dX4_readClaim_25 : decode cX4_readClaim 25 = .ok (.getfield 19, 3) := by decide +kernel
theorem dX4_readClaim_28 : decode cX4_readClaim 28 = .ok (.getstatic 100, 3) := by decide +kernel
theorem dX4_readClaim_31 : decode cX4_readClaim 31 = .ok (.aload_n 0, 1) := by decide +kernel
theorem dX4_readClaim_32 : decode cX4_readClaim 32 = .ok (.invokevirtual 71, 3) := by decide +kernel
theorem dX4_readClaim_35 : decode cX4_readClaim 35 = .ok (.iaload, 1) := by decide +kernel
theorem dX4_readClaim_36 : decode cX4_readClaim 36 = .ok (.invokestatic 88, 3) := by decide +kernel
theorem dX4_readClaim_39 : decode cX4_readClaim 39 = .ok (.goto 150, 3) := by decide +kernel
theorem dX4_readClaim_42 : decode cX4_readClaim 42 = .ok (.aload_n 0, 1) := by decide +kernel
theorem dX4_readClaim_43 : decode cX4_readClaim 43 = .ok (.bipush 115, 2) := by decide +kernel
theorem dX4_readClaim_45 : decode cX4_readClaim 45 = .ok (.invokevirtual 51, 3) := by decide +kernel
theorem dX4_readClaim_48 : decode cX4_readClaim 48 = .ok (.ifCond .eq 15, 3) := by decide +kernel
theorem dX4_readClaim_51 : decode cX4_readClaim 51 = .ok (.aload_n 0, 1) := by decide +kernel
theorem dX4_readClaim_52 : decode cX4_readClaim 52 = .ok (.aload_n 0, 1) := by decide +kernel
theorem dX4_readClaim_53 : decode cX4_readClaim 53 = .ok (.invokevirtual 71, 3) := by decide +kernel
theorem dX4_readClaim_56 : decode cX4_readClaim 56 = .ok (.iconst 0, 1) := by decide +kernel
theorem dX4_readClaim_57 : decode cX4_readClaim 57 = .ok (.invokevirtual 103, 3) := by decide +kernel
theorem dX4_readClaim_60 : decode cX4_readClaim 60 = .ok (.goto 129, 3) := by decide +kernel
theorem dX4_readClaim_63 : decode cX4_readClaim 63 = .ok (.aload_n 0, 1) := by decide +kernel
theorem dX4_readClaim_64 : decode cX4_readClaim 64 = .ok (.bipush 108, 2) := by decide +kernel
theorem dX4_readClaim_66 : decode cX4_readClaim 66 = .ok (.invokevirtual 51, 3) := by decide +kernel
theorem dX4_readClaim_69 : decode cX4_readClaim 69 = .ok (.ifCond .eq 15, 3) := by decide +kernel
theorem dX4_readClaim_72 : decode cX4_readClaim 72 = .ok (.aload_n 0, 1) := by decide +kernel
theorem dX4_readClaim_73 : decode cX4_readClaim 73 = .ok (.getfield 19, 3) := by decide +kernel
theorem dX4_readClaim_76 : decode cX4_readClaim 76 = .ok (.ldc 107, 2) := by decide +kernel
theorem dX4_readClaim_78 : decode cX4_readClaim 78 = .ok (.invokestatic 88, 3) := by decide +kernel
theorem dX4_readClaim_81 : decode cX4_readClaim 81 = .ok (.goto 108, 3) := by decide +kernel
theorem dX4_readClaim_84 : decode cX4_readClaim 84 = .ok (.aload_n 0, 1) := by decide +kernel
theorem dX4_readClaim_85 : decode cX4_readClaim 85 = .ok (.bipush 42, 2) := by decide +kernel
theorem dX4_readClaim_87 : decode cX4_readClaim 87 = .ok (.invokevirtual 51, 3) := by decide +kernel
theorem dX4_readClaim_90 : decode cX4_readClaim 90 = .ok (.ifCond .eq 14, 3) := by decide +kernel
theorem dX4_readClaim_93 : decode cX4_readClaim 93 = .ok (.aload_n 0, 1) := by decide +kernel
theorem dX4_readClaim_94 : decode cX4_readClaim 94 = .ok (.getfield 19, 3) := by decide +kernel
theorem dX4_readClaim_97 : decode cX4_readClaim 97 = .ok (.iconst (-1), 1) := by decide +kernel
theorem dX4_readClaim_98 : decode cX4_readClaim 98 = .ok (.invokestatic 88, 3) := by decide +kernel
theorem dX4_readClaim_101 : decode cX4_readClaim 101 = .ok (.goto 88, 3) := by decide +kernel
theorem dX4_readClaim_104 : decode cX4_readClaim 104 = .ok (.aload_n 0, 1) := by decide +kernel
theorem dX4_readClaim_105 : decode cX4_readClaim 105 = .ok (.getfield 23, 3) := by decide +kernel
theorem dX4_readClaim_108 : decode cX4_readClaim 108 = .ok (.ifCond .eq 24, 3) := by decide +kernel
theorem dX4_readClaim_111 : decode cX4_readClaim 111 = .ok (.aload_n 0, 1) := by decide +kernel
theorem dX4_readClaim_112 : decode cX4_readClaim 112 = .ok (.bipush 97, 2) := by decide +kernel
theorem dX4_readClaim_114 : decode cX4_readClaim 114 = .ok (.invokevirtual 51, 3) := by decide +kernel
theorem dX4_readClaim_117 : decode cX4_readClaim 117 = .ok (.ifCond .eq 15, 3) := by decide +kernel
theorem dX4_readClaim_120 : decode cX4_readClaim 120 = .ok (.aload_n 0, 1) := by decide +kernel
theorem dX4_readClaim_121 : decode cX4_readClaim 121 = .ok (.aload_n 0, 1) := by decide +kernel
theorem dX4_readClaim_122 : decode cX4_readClaim 122 = .ok (.invokevirtual 71, 3) := by decide +kernel
theorem dX4_readClaim_125 : decode cX4_readClaim 125 = .ok (.iconst 1, 1) := by decide +kernel
theorem dX4_readClaim_126 : decode cX4_readClaim 126 = .ok (.invokevirtual 103, 3) := by decide +kernel
theorem dX4_readClaim_129 : decode cX4_readClaim 129 = .ok (.goto 60, 3) := by decide +kernel
theorem dX4_readClaim_132 : decode cX4_readClaim 132 = .ok (.iload_n 1, 1) := by decide +kernel
theorem dX4_readClaim_133 : decode cX4_readClaim 133 = .ok (.iconst 5, 1) := by decide +kernel
theorem dX4_readClaim_134 : decode cX4_readClaim 134 = .ok (.if_icmp .ge 50, 3) := by decide +kernel
theorem dX4_readClaim_137 : decode cX4_readClaim 137 = .ok (.aload_n 0, 1) := by decide +kernel
theorem dX4_readClaim_138 : decode cX4_readClaim 138 = .ok (.bipush 40, 2) := by decide +kernel
theorem dX4_readClaim_140 : decode cX4_readClaim 140 = .ok (.invokevirtual 51, 3) := by decide +kernel
theorem dX4_readClaim_143 : decode cX4_readClaim 143 = .ok (.ifCond .eq 41, 3) := by decide +kernel
theorem dX4_readClaim_146 : decode cX4_readClaim 146 = .ok (.aload_n 0, 1) := by decide +kernel
theorem dX4_readClaim_147 : decode cX4_readClaim 147 = .ok (.iload_n 1, 1) := by decide +kernel
theorem dX4_readClaim_148 : decode cX4_readClaim 148 = .ok (.iconst 1, 1) := by decide +kernel
theorem dX4_readClaim_149 : decode cX4_readClaim 149 = .ok (.iadd, 1) := by decide +kernel
theorem dX4_readClaim_150 : decode cX4_readClaim 150 = .ok (.invokevirtual 58, 3) := by decide +kernel
theorem dX4_readClaim_153 : decode cX4_readClaim 153 = .ok (.aload_n 0, 1) := by decide +kernel
theorem dX4_readClaim_154 : decode cX4_readClaim 154 = .ok (.bipush 41, 2) := by decide +kernel
theorem dX4_readClaim_156 : decode cX4_readClaim 156 = .ok (.invokevirtual 78, 3) := by decide +kernel
theorem dX4_readClaim_159 : decode cX4_readClaim 159 = .ok (.aload_n 0, 1) := by decide +kernel
theorem dX4_readClaim_160 : decode cX4_readClaim 160 = .ok (.getfield 11, 3) := by decide +kernel
theorem dX4_readClaim_163 : decode cX4_readClaim 163 = .ok (.iload_n 1, 1) := by decide +kernel
theorem dX4_readClaim_164 : decode cX4_readClaim 164 = .ok (.iconst 1, 1) := by decide +kernel
theorem dX4_readClaim_165 : decode cX4_readClaim 165 = .ok (.iadd, 1) := by decide +kernel
theorem dX4_readClaim_166 : decode cX4_readClaim 166 = .ok (.aaload, 1) := by decide +kernel
theorem dX4_readClaim_167 : decode cX4_readClaim 167 = .ok (.iconst 0, 1) := by decide +kernel
theorem dX4_readClaim_168 : decode cX4_readClaim 168 = .ok (.aload_n 0, 1) := by decide +kernel
theorem dX4_readClaim_169 : decode cX4_readClaim 169 = .ok (.getfield 19, 3) := by decide +kernel
theorem dX4_readClaim_172 : decode cX4_readClaim 172 = .ok (.iconst 0, 1) := by decide +kernel
theorem dX4_readClaim_173 : decode cX4_readClaim 173 = .ok (.aload_n 0, 1) := by decide +kernel
theorem dX4_readClaim_174 : decode cX4_readClaim 174 = .ok (.getfield 19, 3) := by decide +kernel
theorem dX4_readClaim_177 : decode cX4_readClaim 177 = .ok (.arraylength, 1) := by decide +kernel
theorem dX4_readClaim_178 : decode cX4_readClaim 178 = .ok (.invokestatic 62, 3) := by decide +kernel
theorem dX4_readClaim_181 : decode cX4_readClaim 181 = .ok (.goto 8, 3) := by decide +kernel
theorem dX4_readClaim_184 : decode cX4_readClaim 184 = .ok (.aload_n 0, 1) := by decide +kernel
theorem dX4_readClaim_185 : decode cX4_readClaim 185 = .ok (.iconst 1, 1) := by decide +kernel
theorem dX4_readClaim_186 : decode cX4_readClaim 186 = .ok (.putfield 27, 3) := by decide +kernel
theorem dX4_readClaim_189 : decode cX4_readClaim 189 = .ok (.iconst 0, 1) := by decide +kernel
theorem dX4_readClaim_190 : decode cX4_readClaim 190 = .ok (.istore_n 3, 1) := by decide +kernel
theorem dX4_readClaim_191 : decode cX4_readClaim 191 = .ok (.iload_n 3, 1) := by decide +kernel
theorem dX4_readClaim_192 : decode cX4_readClaim 192 = .ok (.aload_n 0, 1) := by decide +kernel
theorem dX4_readClaim_193 : decode cX4_readClaim 193 = .ok (.getfield 19, 3) := by decide +kernel
theorem dX4_readClaim_196 : decode cX4_readClaim 196 = .ok (.arraylength, 1) := by decide +kernel
theorem dX4_readClaim_197 : decode cX4_readClaim 197 = .ok (.if_icmp .ge 19, 3) := by decide +kernel
theorem dX4_readClaim_200 : decode cX4_readClaim 200 = .ok (.aload_n 0, 1) := by decide +kernel
theorem dX4_readClaim_201 : decode cX4_readClaim 201 = .ok (.getfield 19, 3) := by decide +kernel
theorem dX4_readClaim_204 : decode cX4_readClaim 204 = .ok (.iload_n 3, 1) := by decide +kernel
theorem dX4_readClaim_205 : decode cX4_readClaim 205 = .ok (.dup2, 1) := by decide +kernel
theorem dX4_readClaim_206 : decode cX4_readClaim 206 = .ok (.iaload, 1) := by decide +kernel
theorem dX4_readClaim_207 : decode cX4_readClaim 207 = .ok (.iload_n 2, 1) := by decide +kernel
theorem dX4_readClaim_208 : decode cX4_readClaim 208 = .ok (.ixor, 1) := by decide +kernel
theorem dX4_readClaim_209 : decode cX4_readClaim 209 = .ok (.iastore, 1) := by decide +kernel
theorem dX4_readClaim_210 : decode cX4_readClaim 210 = .ok (.iinc 3 1, 3) := by decide +kernel
theorem dX4_readClaim_213 : decode cX4_readClaim 213 = .ok (.goto (-22), 3) := by decide +kernel
theorem dX4_readClaim_216 : decode cX4_readClaim 216 = .ok (.return_, 1) := by decide +kernel
theorem dX4_claimWords_0 : decode cX4_claimWords 0 = .ok (.iconst 0, 1) := by decide +kernel
theorem dX4_claimWords_1 : decode cX4_claimWords 1 = .ok (.istore_n 3, 1) := by decide +kernel
theorem dX4_claimWords_2 : decode cX4_claimWords 2 = .ok (.iload_n 3, 1) := by decide +kernel
theorem dX4_claimWords_3 : decode cX4_claimWords 3 = .ok (.aload_n 0, 1) := by decide +kernel
theorem dX4_claimWords_4 : decode cX4_claimWords 4 = .ok (.getfield 19, 3) := by decide +kernel
theorem dX4_claimWords_7 : decode cX4_claimWords 7 = .ok (.arraylength, 1) := by decide +kernel
theorem dX4_claimWords_8 : decode cX4_claimWords 8 = .ok (.if_icmp .ge 37, 3) := by decide +kernel
theorem dX4_claimWords_11 : decode cX4_claimWords 11 = .ok (.aload_n 0, 1) := by decide +kernel
theorem dX4_claimWords_12 : decode cX4_claimWords 12 = .ok (.getfield 19, 3) := by decide +kernel
theorem dX4_claimWords_15 : decode cX4_claimWords 15 = .ok (.iload_n 3, 1) := by decide +kernel
theorem dX4_claimWords_16 : decode cX4_claimWords 16 = .ok (.iload_n 2, 1) := by decide +kernel
theorem dX4_claimWords_17 : decode cX4_claimWords 17 = .ok (.ifCond .eq 9, 3) := by decide +kernel
theorem dX4_claimWords_20 : decode cX4_claimWords 20 = .ok (.iload_n 3, 1) := by decide +kernel
theorem dX4_claimWords_21 : decode cX4_claimWords 21 = .ok (.iconst 4, 1) := by decide +kernel
theorem dX4_claimWords_22 : decode cX4_claimWords 22 = .ok (.idiv, 1) := by decide +kernel
theorem dX4_claimWords_23 : decode cX4_claimWords 23 = .ok (.goto 6, 3) := by decide +kernel
theorem dX4_claimWords_26 : decode cX4_claimWords 26 = .ok (.iload_n 3, 1) := by decide +kernel
theorem dX4_claimWords_27 : decode cX4_claimWords 27 = .ok (.iconst 4, 1) := by decide +kernel
theorem dX4_claimWords_28 : decode cX4_claimWords 28 = .ok (.irem, 1) := by decide +kernel
theorem dX4_claimWords_29 : decode cX4_claimWords 29 = .ok (.iload_n 1, 1) := by decide +kernel
theorem dX4_claimWords_30 : decode cX4_claimWords 30 = .ok (.if_icmp .ne 7, 3) := by decide +kernel
theorem dX4_claimWords_33 : decode cX4_claimWords 33 = .ok (.iconst (-1), 1) := by decide +kernel
theorem dX4_claimWords_34 : decode cX4_claimWords 34 = .ok (.goto 4, 3) := by decide +kernel
theorem dX4_claimWords_37 : decode cX4_claimWords 37 = .ok (.iconst 0, 1) := by decide +kernel
theorem dX4_claimWords_38 : decode cX4_claimWords 38 = .ok (.iastore, 1) := by decide +kernel
theorem dX4_claimWords_39 : decode cX4_claimWords 39 = .ok (.iinc 3 1, 3) := by decide +kernel
theorem dX4_claimWords_42 : decode cX4_claimWords 42 = .ok (.goto (-40), 3) := by decide +kernel
theorem dX4_claimWords_45 : decode cX4_claimWords 45 = .ok (.return_, 1) := by decide +kernel
theorem dX4_takes_0 : decode cX4_takes 0 = .ok (.aload_n 0, 1) := by decide +kernel
theorem dX4_takes_1 : decode cX4_takes 1 = .ok (.getfield 27, 3) := by decide +kernel
theorem dX4_takes_4 : decode cX4_takes 4 = .ok (.ifCond .ne 11, 3) := by decide +kernel
theorem dX4_takes_7 : decode cX4_takes 7 = .ok (.aload_n 0, 1) := by decide +kernel
theorem dX4_takes_8 : decode cX4_takes 8 = .ok (.invokevirtual 108, 3) := by decide +kernel
theorem dX4_takes_11 : decode cX4_takes 11 = .ok (.iload_n 1, 1) := by decide +kernel
theorem dX4_takes_12 : decode cX4_takes 12 = .ok (.if_icmp .eq 5, 3) := by decide +kernel
theorem dX4_takes_15 : decode cX4_takes 15 = .ok (.iconst 0, 1) := by decide +kernel
theorem dX4_takes_16 : decode cX4_takes 16 = .ok (.ireturn, 1) := by decide +kernel
theorem dX4_takes_17 : decode cX4_takes 17 = .ok (.aload_n 0, 1) := by decide +kernel
theorem dX4_takes_18 : decode cX4_takes 18 = .ok (.dup, 1) := by decide +kernel
theorem dX4_takes_19 : decode cX4_takes 19 = .ok (.getfield 30, 3) := by decide +kernel
theorem dX4_takes_22 : decode cX4_takes 22 = .ok (.iconst 1, 1) := by decide +kernel
theorem dX4_takes_23 : decode cX4_takes 23 = .ok (.iadd, 1) := by decide +kernel
theorem dX4_takes_24 : decode cX4_takes 24 = .ok (.putfield 30, 3) := by decide +kernel
theorem dX4_takes_27 : decode cX4_takes 27 = .ok (.iconst 1, 1) := by decide +kernel
theorem dX4_takes_28 : decode cX4_takes 28 = .ok (.ireturn, 1) := by decide +kernel
theorem dX4_need_0 : decode cX4_need 0 = .ok (.aload_n 0, 1) := by decide +kernel
theorem dX4_need_1 : decode cX4_need 1 = .ok (.iload_n 1, 1) := by decide +kernel
theorem dX4_need_2 : decode cX4_need 2 = .ok (.invokevirtual 51, 3) := by decide +kernel
theorem dX4_need_5 : decode cX4_need 5 = .ok (.ifCond .ne 8, 3) := by decide +kernel
theorem dX4_need_8 : decode cX4_need 8 = .ok (.aload_n 0, 1) := by decide +kernel
theorem dX4_need_9 : decode cX4_need 9 = .ok (.iconst 1, 1) := by decide +kernel
theorem dX4_need_10 : decode cX4_need 10 = .ok (.putfield 27, 3) := by decide +kernel
theorem dX4_need_13 : decode cX4_need 13 = .ok (.return_, 1) := by decide +kernel
theorem dX4_needEnd_0 : decode cX4_needEnd 0 = .ok (.aload_n 0, 1) := by decide +kernel
theorem dX4_needEnd_1 : decode cX4_needEnd 1 = .ok (.getfield 27, 3) := by decide +kernel
theorem dX4_needEnd_4 : decode cX4_needEnd 4 = .ok (.ifCond .ne 15, 3) := by decide +kernel
theorem dX4_needEnd_7 : decode cX4_needEnd 7 = .ok (.aload_n 0, 1) := by decide +kernel
theorem dX4_needEnd_8 : decode cX4_needEnd 8 = .ok (.invokevirtual 108, 3) := by decide +kernel
theorem dX4_needEnd_11 : decode cX4_needEnd 11 = .ok (.ifCond .lt 8, 3) := by decide +kernel
theorem dX4_needEnd_14 : decode cX4_needEnd 14 = .ok (.aload_n 0, 1) := by decide +kernel
theorem dX4_needEnd_15 : decode cX4_needEnd 15 = .ok (.iconst 1, 1) := by decide +kernel
theorem dX4_needEnd_16 : decode cX4_needEnd 16 = .ok (.putfield 27, 3) := by decide +kernel
theorem dX4_needEnd_19 : decode cX4_needEnd 19 = .ok (.return_, 1) := by decide +kernel
theorem dX4_takeDigit_0 : decode cX4_takeDigit 0 = .ok (.aload_n 0, 1) := by decide +kernel
theorem dX4_takeDigit_1 : decode cX4_takeDigit 1 = .ok (.getfield 27, 3) := by decide +kernel
theorem dX4_takeDigit_4 : decode cX4_takeDigit 4 = .ok (.ifCond .eq 8, 3) := by decide +kernel
theorem dX4_takeDigit_7 : decode cX4_takeDigit 7 = .ok (.bipush (-4), 2) := by decide +kernel
theorem dX4_takeDigit_9 : decode cX4_takeDigit 9 = .ok (.goto 10, 3) := by decide +kernel
theorem dX4_takeDigit_12 : decode cX4_takeDigit 12 = .ok (.aload_n 0, 1) := by decide +kernel
theorem dX4_takeDigit_13 : decode cX4_takeDigit 13 = .ok (.invokevirtual 108, 3) := by decide +kernel
theorem dX4_takeDigit_16 : decode cX4_takeDigit 16 = .ok (.bipush 48, 2) := by decide +kernel
theorem dX4_takeDigit_18 : decode cX4_takeDigit 18 = .ok (.isub, 1) := by decide +kernel
theorem dX4_takeDigit_19 : decode cX4_takeDigit 19 = .ok (.istore_n 1, 1) := by decide +kernel
theorem dX4_takeDigit_20 : decode cX4_takeDigit 20 = .ok (.iload_n 1, 1) := by decide +kernel
theorem dX4_takeDigit_21 : decode cX4_takeDigit 21 = .ok (.iconst 3, 1) := by decide +kernel
theorem dX4_takeDigit_22 : decode cX4_takeDigit 22 = .ok (.invokestatic 111, 3) := by decide +kernel
theorem dX4_takeDigit_25 : decode cX4_takeDigit 25 = .ok (.ifCond .eq 10, 3) := by decide +kernel
theorem dX4_takeDigit_28 : decode cX4_takeDigit 28 = .ok (.aload_n 0, 1) := by decide +kernel
theorem dX4_takeDigit_29 : decode cX4_takeDigit 29 = .ok (.iconst 1, 1) := by decide +kernel
theorem dX4_takeDigit_30 : decode cX4_takeDigit 30 = .ok (.putfield 27, 3) := by decide +kernel
theorem dX4_takeDigit_33 : decode cX4_takeDigit 33 = .ok (.iconst 0, 1) := by decide +kernel
theorem dX4_takeDigit_34 : decode cX4_takeDigit 34 = .ok (.ireturn, 1) := by decide +kernel
theorem dX4_takeDigit_35 : decode cX4_takeDigit 35 = .ok (.aload_n 0, 1) := by decide +kernel
theorem dX4_takeDigit_36 : decode cX4_takeDigit 36 = .ok (.dup, 1) := by decide +kernel
theorem dX4_takeDigit_37 : decode cX4_takeDigit 37 = .ok (.getfield 30, 3) := by decide +kernel
theorem dX4_takeDigit_40 : decode cX4_takeDigit 40 = .ok (.iconst 1, 1) := by decide +kernel
theorem dX4_takeDigit_41 : decode cX4_takeDigit 41 = .ok (.iadd, 1) := by decide +kernel
theorem dX4_takeDigit_42 : decode cX4_takeDigit 42 = .ok (.putfield 30, 3) := by decide +kernel
theorem dX4_takeDigit_45 : decode cX4_takeDigit 45 = .ok (.iload_n 1, 1) := by decide +kernel
theorem dX4_takeDigit_46 : decode cX4_takeDigit 46 = .ok (.ireturn, 1) := by decide +kernel
theorem dX4_nextSign_0 : decode cX4_nextSign 0 = .ok (.aload_n 0, 1) := by decide +kernel
theorem dX4_nextSign_1 : decode cX4_nextSign 1 = .ok (.getfield 30, 3) := by decide +kernel
theorem dX4_nextSign_4 : decode cX4_nextSign 4 = .ok (.aload_n 0, 1) := by decide +kernel
theorem dX4_nextSign_5 : decode cX4_nextSign 5 = .ok (.getfield 34, 3) := by decide +kernel
theorem dX4_nextSign_8 : decode cX4_nextSign 8 = .ok (.getfield 115, 3) := by decide +kernel
theorem dX4_nextSign_11 : decode cX4_nextSign 11 = .ok (.if_icmp .ge 33, 3) := by decide +kernel
theorem dX4_nextSign_14 : decode cX4_nextSign 14 = .ok (.aload_n 0, 1) := by decide +kernel
theorem dX4_nextSign_15 : decode cX4_nextSign 15 = .ok (.getfield 34, 3) := by decide +kernel
theorem dX4_nextSign_18 : decode cX4_nextSign 18 = .ok (.getfield 118, 3) := by decide +kernel
theorem dX4_nextSign_21 : decode cX4_nextSign 21 = .ok (.aload_n 0, 1) := by decide +kernel
theorem dX4_nextSign_22 : decode cX4_nextSign 22 = .ok (.getfield 30, 3) := by decide +kernel
theorem dX4_nextSign_25 : decode cX4_nextSign 25 = .ok (.iaload, 1) := by decide +kernel
theorem dX4_nextSign_26 : decode cX4_nextSign 26 = .ok (.bipush 32, 2) := by decide +kernel
theorem dX4_nextSign_28 : decode cX4_nextSign 28 = .ok (.if_icmp .ne 16, 3) := by decide +kernel
theorem dX4_nextSign_31 : decode cX4_nextSign 31 = .ok (.aload_n 0, 1) := by decide +kernel
theorem dX4_nextSign_32 : decode cX4_nextSign 32 = .ok (.dup, 1) := by decide +kernel
theorem dX4_nextSign_33 : decode cX4_nextSign 33 = .ok (.getfield 30, 3) := by decide +kernel
theorem dX4_nextSign_36 : decode cX4_nextSign 36 = .ok (.iconst 1, 1) := by decide +kernel
theorem dX4_nextSign_37 : decode cX4_nextSign 37 = .ok (.iadd, 1) := by decide +kernel
theorem dX4_nextSign_38 : decode cX4_nextSign 38 = .ok (.putfield 30, 3) := by decide +kernel
theorem dX4_nextSign_41 : decode cX4_nextSign 41 = .ok (.goto (-41), 3) := by decide +kernel
theorem dX4_nextSign_44 : decode cX4_nextSign 44 = .ok (.aload_n 0, 1) := by decide +kernel
theorem dX4_nextSign_45 : decode cX4_nextSign 45 = .ok (.getfield 30, 3) := by decide +kernel
theorem dX4_nextSign_48 : decode cX4_nextSign 48 = .ok (.aload_n 0, 1) := by decide +kernel
theorem dX4_nextSign_49 : decode cX4_nextSign 49 = .ok (.getfield 34, 3) := by decide +kernel
theorem dX4_nextSign_52 : decode cX4_nextSign 52 = .ok (.getfield 115, 3) := by decide +kernel
theorem dX4_nextSign_55 : decode cX4_nextSign 55 = .ok (.if_icmp .ge 18, 3) := by decide +kernel
theorem dX4_nextSign_58 : decode cX4_nextSign 58 = .ok (.aload_n 0, 1) := by decide +kernel
theorem dX4_nextSign_59 : decode cX4_nextSign 59 = .ok (.getfield 34, 3) := by decide +kernel
theorem dX4_nextSign_62 : decode cX4_nextSign 62 = .ok (.getfield 118, 3) := by decide +kernel
theorem dX4_nextSign_65 : decode cX4_nextSign 65 = .ok (.aload_n 0, 1) := by decide +kernel
theorem dX4_nextSign_66 : decode cX4_nextSign 66 = .ok (.getfield 30, 3) := by decide +kernel
theorem dX4_nextSign_69 : decode cX4_nextSign 69 = .ok (.iaload, 1) := by decide +kernel
theorem dX4_nextSign_70 : decode cX4_nextSign 70 = .ok (.goto 5, 3) := by decide +kernel
theorem dX4_nextSign_73 : decode cX4_nextSign 73 = .ok (.bipush (-4), 2) := by decide +kernel
theorem dX4_nextSign_75 : decode cX4_nextSign 75 = .ok (.ireturn, 1) := by decide +kernel
theorem dX5_init_0 : decode cX5_init 0 = .ok (.aload_n 0, 1) := by decide +kernel
theorem dX5_init_1 : decode cX5_init 1 = .ok (.invokespecial 3, 3) := by decide +kernel
theorem dX5_init_4 : decode cX5_init 4 = .ok (.aload_n 0, 1) := by decide +kernel
theorem dX5_init_5 : decode cX5_init 5 = .ok (.bipush 48, 2) := by decide +kernel
theorem dX5_init_7 : decode cX5_init 7 = .ok (.newarray .int, 2) := by decide +kernel
theorem dX5_init_9 : decode cX5_init 9 = .ok (.putfield 9, 3) := by decide +kernel
theorem dX5_init_12 : decode cX5_init 12 = .ok (.aload_n 0, 1) := by decide +kernel
theorem dX5_init_13 : decode cX5_init 13 = .ok (.bipush (-4), 2) := by decide +kernel
theorem dX5_init_15 : decode cX5_init 15 = .ok (.putfield 15, 3) := by decide +kernel
theorem dX5_init_18 : decode cX5_init 18 = .ok (.aload_n 0, 1) := by decide +kernel
theorem dX5_init_19 : decode cX5_init 19 = .ok (.iconst 0, 1) := by decide +kernel
theorem dX5_init_20 : decode cX5_init 20 = .ok (.putfield 19, 3) := by decide +kernel
theorem dX5_init_23 : decode cX5_init 23 = .ok (.return_, 1) := by decide +kernel
theorem dX5_renew_0 : decode cX5_renew 0 = .ok (.aload_n 0, 1) := by decide +kernel
theorem dX5_renew_1 : decode cX5_renew 1 = .ok (.iload_n 1, 1) := by decide +kernel
theorem dX5_renew_2 : decode cX5_renew 2 = .ok (.putfield 15, 3) := by decide +kernel
theorem dX5_renew_5 : decode cX5_renew 5 = .ok (.aload_n 0, 1) := by decide +kernel
theorem dX5_renew_6 : decode cX5_renew 6 = .ok (.iload_n 2, 1) := by decide +kernel
theorem dX5_renew_7 : decode cX5_renew 7 = .ok (.putfield 19, 3) := by decide +kernel
theorem dX5_renew_10 : decode cX5_renew 10 = .ok (.aload_n 0, 1) := by decide +kernel
theorem dX5_renew_11 : decode cX5_renew 11 = .ok (.getfield 9, 3) := by decide +kernel
theorem dX5_renew_14 : decode cX5_renew 14 = .ok (.iconst 0, 1) := by decide +kernel
theorem dX5_renew_15 : decode cX5_renew 15 = .ok (.invokestatic 22, 3) := by decide +kernel
theorem dX5_renew_18 : decode cX5_renew 18 = .ok (.return_, 1) := by decide +kernel
theorem dX5_lacks_0 : decode cX5_lacks 0 = .ok (.iload_n 1, 1) := by decide +kernel
theorem dX5_lacks_1 : decode cX5_lacks 1 = .ok (.ifCond .lt 17, 3) := by decide +kernel
theorem dX5_lacks_4 : decode cX5_lacks 4 = .ok (.iload_n 2, 1) := by decide +kernel
theorem dX5_lacks_5 : decode cX5_lacks 5 = .ok (.ifCond .lt 13, 3) := by decide +kernel
theorem dX5_lacks_8 : decode cX5_lacks 8 = .ok (.iload_n 1, 1) := by decide +kernel
theorem dX5_lacks_9 : decode cX5_lacks 9 = .ok (.aload_n 0, 1) := by decide +kernel
theorem dX5_lacks_10 : decode cX5_lacks 10 = .ok (.getfield 19, 3) := by decide +kernel
theorem dX5_lacks_13 : decode cX5_lacks 13 = .ok (.iload_n 2, 1) := by decide +kernel
theorem dX5_lacks_14 : decode cX5_lacks 14 = .ok (.isub, 1) := by decide +kernel
theorem dX5_lacks_15 : decode cX5_lacks 15 = .ok (.if_icmp .le 7, 3) := by decide +kernel
theorem dX5_lacks_18 : decode cX5_lacks 18 = .ok (.iconst 1, 1) := by decide +kernel
theorem dX5_lacks_19 : decode cX5_lacks 19 = .ok (.goto 4, 3) := by decide +kernel
theorem dX5_lacks_22 : decode cX5_lacks 22 = .ok (.iconst 0, 1) := by decide +kernel
theorem dX5_lacks_23 : decode cX5_lacks 23 = .ok (.ireturn, 1) := by decide +kernel
theorem dX5_findFault_0 : decode cX5_findFault 0 = .ok (.aload_n 0, 1) := by decide +kernel
theorem dX5_findFault_1 : decode cX5_findFault 1 = .ok (.getfield 15, 3) := by decide +kernel
theorem dX5_findFault_4 : decode cX5_findFault 4 = .ok (.bipush (-4), 2) := by decide +kernel
theorem dX5_findFault_6 : decode cX5_findFault 6 = .ok (.if_icmp .ne 6, 3) := by decide +kernel
theorem dX5_findFault_9 : decode cX5_findFault 9 = .ok (.bipush (-11), 2) := by decide +kernel
theorem dX5_findFault_11 : decode cX5_findFault 11 = .ok (.ireturn, 1) := by decide +kernel
theorem dX5_findFault_12 : decode cX5_findFault 12 = .ok (.aload_n 0, 1) := by decide +kernel
theorem dX5_findFault_13 : decode cX5_findFault 13 = .ok (.getfield 15, 3) := by decide +kernel
theorem dX5_findFault_16 : decode cX5_findFault 16 = .ok (.iload_n 1, 1) := by decide +kernel
theorem dX5_findFault_17 : decode cX5_findFault 17 = .ok (.if_icmp .eq 6, 3) := by decide +kernel
end
section
theorem dX5_findFault_20 : decode cX5_findFault 20 = .ok (.bipush (-12), 2) := by decide +kernel
theorem dX5_findFault_22 : decode cX5_findFault 22 = .ok (.ireturn, 1) := by decide +kernel
theorem dX5_findFault_23 : decode cX5_findFault 23 = .ok (.aload_n 0, 1) := by decide +kernel
theorem dX5_findFault_24 : decode cX5_findFault 24 = .ok (.iload_n 2, 1) := by decide +kernel
theorem dX5_findFault_25 : decode cX5_findFault 25 = .ok (.iload_n 3, 1) := by decide +kernel
theorem dX5_findFault_26 : decode cX5_findFault 26 = .ok (.invokevirtual 28, 3) := by decide +kernel
theorem dX5_findFault_29 : decode cX5_findFault 29 = .ok (.ifCond .eq 8, 3) := by decide +kernel
theorem dX5_findFault_32 : decode cX5_findFault 32 = .ok (.bipush (-13), 2) := by decide +kernel
theorem dX5_findFault_34 : decode cX5_findFault 34 = .ok (.goto 4, 3) := by decide +kernel
theorem dX5_findFault_37 : decode cX5_findFault 37 = .ok (.iconst 0, 1) := by decide +kernel
theorem dX5_findFault_38 : decode cX5_findFault 38 = .ok (.ireturn, 1) := by decide +kernel
theorem dX6_init_0 : decode cX6_init 0 = .ok (.aload_n 0, 1) := by decide +kernel
theorem dX6_init_1 : decode cX6_init 1 = .ok (.invokespecial 3, 3) := by decide +kernel
theorem dX6_init_4 : decode cX6_init 4 = .ok (.aload_n 0, 1) := by decide +kernel
theorem dX6_init_5 : decode cX6_init 5 = .ok (.bipush 120, 2) := by decide +kernel
theorem dX6_init_7 : decode cX6_init 7 = .ok (.newarray .int, 2) := by decide +kernel
theorem dX6_init_9 : decode cX6_init 9 = .ok (.putfield 9, 3) := by decide +kernel
theorem dX6_init_12 : decode cX6_init 12 = .ok (.aload_n 0, 1) := by decide +kernel
theorem dX6_init_13 : decode cX6_init 13 = .ok (.iconst 0, 1) := by decide +kernel
theorem dX6_init_14 : decode cX6_init 14 = .ok (.putfield 15, 3) := by decide +kernel
theorem dX6_init_17 : decode cX6_init 17 = .ok (.return_, 1) := by decide +kernel
theorem dX6_add_0 : decode cX6_add 0 = .ok (.aload_n 0, 1) := by decide +kernel
theorem dX6_add_1 : decode cX6_add 1 = .ok (.getfield 15, 3) := by decide +kernel
theorem dX6_add_4 : decode cX6_add 4 = .ok (.bipush 120, 2) := by decide +kernel
theorem dX6_add_6 : decode cX6_add 6 = .ok (.if_icmp .ge 23, 3) := by decide +kernel
theorem dX6_add_9 : decode cX6_add 9 = .ok (.aload_n 0, 1) := by decide +kernel
theorem dX6_add_10 : decode cX6_add 10 = .ok (.getfield 9, 3) := by decide +kernel
theorem dX6_add_13 : decode cX6_add 13 = .ok (.aload_n 0, 1) := by decide +kernel
theorem dX6_add_14 : decode cX6_add 14 = .ok (.getfield 15, 3) := by decide +kernel
theorem dX6_add_17 : decode cX6_add 17 = .ok (.iload_n 1, 1) := by decide +kernel
theorem dX6_add_18 : decode cX6_add 18 = .ok (.iastore, 1) := by decide +kernel
theorem dX6_add_19 : decode cX6_add 19 = .ok (.aload_n 0, 1) := by decide +kernel
theorem dX6_add_20 : decode cX6_add 20 = .ok (.dup, 1) := by decide +kernel
theorem dX6_add_21 : decode cX6_add 21 = .ok (.getfield 15, 3) := by decide +kernel
theorem dX6_add_24 : decode cX6_add 24 = .ok (.iconst 1, 1) := by decide +kernel
theorem dX6_add_25 : decode cX6_add 25 = .ok (.iadd, 1) := by decide +kernel
theorem dX6_add_26 : decode cX6_add 26 = .ok (.putfield 15, 3) := by decide +kernel
theorem dX6_add_29 : decode cX6_add 29 = .ok (.return_, 1) := by decide +kernel
theorem dX7_init_0 : decode cX7_init 0 = .ok (.aload_n 0, 1) := by decide +kernel
theorem dX7_init_1 : decode cX7_init 1 = .ok (.invokespecial 3, 3) := by decide +kernel
theorem dX7_init_4 : decode cX7_init 4 = .ok (.aload_n 0, 1) := by decide +kernel
theorem dX7_init_5 : decode cX7_init 5 = .ok (.bipush 6, 2) := by decide +kernel
theorem dX7_init_7 : decode cX7_init 7 = .ok (.newarray .int, 2) := by decide +kernel
theorem dX7_init_9 : decode cX7_init 9 = .ok (.putfield 9, 3) := by decide +kernel
theorem dX7_init_12 : decode cX7_init 12 = .ok (.aload_n 0, 1) := by decide +kernel
theorem dX7_init_13 : decode cX7_init 13 = .ok (.bipush 6, 2) := by decide +kernel
theorem dX7_init_15 : decode cX7_init 15 = .ok (.newarray .int, 2) := by decide +kernel
theorem dX7_init_17 : decode cX7_init 17 = .ok (.putfield 15, 3) := by decide +kernel
theorem dX7_init_20 : decode cX7_init 20 = .ok (.aload_n 0, 1) := by decide +kernel
theorem dX7_init_21 : decode cX7_init 21 = .ok (.bipush 6, 2) := by decide +kernel
theorem dX7_init_23 : decode cX7_init 23 = .ok (.newarray .int, 2) := by decide +kernel
theorem dX7_init_25 : decode cX7_init 25 = .ok (.putfield 18, 3) := by decide +kernel
theorem dX7_init_28 : decode cX7_init 28 = .ok (.aload_n 0, 1) := by decide +kernel
theorem dX7_init_29 : decode cX7_init 29 = .ok (.iconst 0, 1) := by decide +kernel
theorem dX7_init_30 : decode cX7_init 30 = .ok (.putfield 21, 3) := by decide +kernel
theorem dX7_init_33 : decode cX7_init 33 = .ok (.return_, 1) := by decide +kernel
theorem dX7_has_0 : decode cX7_has 0 = .ok (.iconst 0, 1) := by decide +kernel
theorem dX7_has_1 : decode cX7_has 1 = .ok (.istore 4, 2) := by decide +kernel
theorem dX7_has_3 : decode cX7_has 3 = .ok (.iload 4, 2) := by decide +kernel
theorem dX7_has_5 : decode cX7_has 5 = .ok (.aload_n 0, 1) := by decide +kernel
theorem dX7_has_6 : decode cX7_has 6 = .ok (.getfield 21, 3) := by decide +kernel
theorem dX7_has_9 : decode cX7_has 9 = .ok (.if_icmp .ge 44, 3) := by decide +kernel
theorem dX7_has_12 : decode cX7_has 12 = .ok (.aload_n 0, 1) := by decide +kernel
theorem dX7_has_13 : decode cX7_has 13 = .ok (.getfield 9, 3) := by decide +kernel
theorem dX7_has_16 : decode cX7_has 16 = .ok (.iload 4, 2) := by decide +kernel
theorem dX7_has_18 : decode cX7_has 18 = .ok (.iaload, 1) := by decide +kernel
theorem dX7_has_19 : decode cX7_has 19 = .ok (.iload_n 1, 1) := by decide +kernel
theorem dX7_has_20 : decode cX7_has 20 = .ok (.if_icmp .ne 27, 3) := by decide +kernel
theorem dX7_has_23 : decode cX7_has 23 = .ok (.aload_n 0, 1) := by decide +kernel
theorem dX7_has_24 : decode cX7_has 24 = .ok (.getfield 15, 3) := by decide +kernel
theorem dX7_has_27 : decode cX7_has 27 = .ok (.iload 4, 2) := by decide +kernel
theorem dX7_has_29 : decode cX7_has 29 = .ok (.iaload, 1) := by decide +kernel
theorem dX7_has_30 : decode cX7_has 30 = .ok (.iload_n 2, 1) := by decide +kernel
theorem dX7_has_31 : decode cX7_has 31 = .ok (.if_icmp .ne 16, 3) := by decide +kernel
theorem dX7_has_34 : decode cX7_has 34 = .ok (.aload_n 0, 1) := by decide +kernel
theorem dX7_has_35 : decode cX7_has 35 = .ok (.getfield 18, 3) := by decide +kernel
theorem dX7_has_38 : decode cX7_has 38 = .ok (.iload 4, 2) := by decide +kernel
theorem dX7_has_40 : decode cX7_has 40 = .ok (.iaload, 1) := by decide +kernel
theorem dX7_has_41 : decode cX7_has 41 = .ok (.iload_n 3, 1) := by decide +kernel
theorem dX7_has_42 : decode cX7_has 42 = .ok (.if_icmp .ne 5, 3) := by decide +kernel
theorem dX7_has_45 : decode cX7_has 45 = .ok (.iconst 1, 1) := by decide +kernel
theorem dX7_has_46 : decode cX7_has 46 = .ok (.ireturn, 1) := by decide +kernel
theorem dX7_has_47 : decode cX7_has 47 = .ok (.iinc 4 1, 3) := by decide +kernel
theorem dX7_has_50 : decode cX7_has 50 = .ok (.goto (-47), 3) := by decide +kernel
theorem dX7_has_53 : decode cX7_has 53 = .ok (.iconst 0, 1) := by decide +kernel
theorem dX7_has_54 : decode cX7_has 54 = .ok (.ireturn, 1) := by decide +kernel
theorem dX7_add_0 : decode cX7_add 0 = .ok (.aload_n 0, 1) := by decide +kernel
theorem dX7_add_1 : decode cX7_add 1 = .ok (.getfield 21, 3) := by decide +kernel
theorem dX7_add_4 : decode cX7_add 4 = .ok (.bipush 6, 2) := by decide +kernel
theorem dX7_add_6 : decode cX7_add 6 = .ok (.if_icmp .ge 43, 3) := by decide +kernel
theorem dX7_add_9 : decode cX7_add 9 = .ok (.aload_n 0, 1) := by decide +kernel
theorem dX7_add_10 : decode cX7_add 10 = .ok (.getfield 9, 3) := by decide +kernel
theorem dX7_add_13 : decode cX7_add 13 = .ok (.aload_n 0, 1) := by decide +kernel
theorem dX7_add_14 : decode cX7_add 14 = .ok (.getfield 21, 3) := by decide +kernel
theorem dX7_add_17 : decode cX7_add 17 = .ok (.iload_n 1, 1) := by decide +kernel
theorem dX7_add_18 : decode cX7_add 18 = .ok (.iastore, 1) := by decide +kernel
theorem dX7_add_19 : decode cX7_add 19 = .ok (.aload_n 0, 1) := by decide +kernel
theorem dX7_add_20 : decode cX7_add 20 = .ok (.getfield 15, 3) := by decide +kernel
theorem dX7_add_23 : decode cX7_add 23 = .ok (.aload_n 0, 1) := by decide +kernel
theorem dX7_add_24 : decode cX7_add 24 = .ok (.getfield 21, 3) := by decide +kernel
theorem dX7_add_27 : decode cX7_add 27 = .ok (.iload_n 2, 1) := by decide +kernel
theorem dX7_add_28 : decode cX7_add 28 = .ok (.iastore, 1) := by decide +kernel
theorem dX7_add_29 : decode cX7_add 29 = .ok (.aload_n 0, 1) := by decide +kernel
theorem dX7_add_30 : decode cX7_add 30 = .ok (.getfield 18, 3) := by decide +kernel
theorem dX7_add_33 : decode cX7_add 33 = .ok (.aload_n 0, 1) := by decide +kernel
theorem dX7_add_34 : decode cX7_add 34 = .ok (.getfield 21, 3) := by decide +kernel
theorem dX7_add_37 : decode cX7_add 37 = .ok (.iload_n 3, 1) := by decide +kernel
theorem dX7_add_38 : decode cX7_add 38 = .ok (.iastore, 1) := by decide +kernel
theorem dX7_add_39 : decode cX7_add 39 = .ok (.aload_n 0, 1) := by decide +kernel
theorem dX7_add_40 : decode cX7_add 40 = .ok (.dup, 1) := by decide +kernel
theorem dX7_add_41 : decode cX7_add 41 = .ok (.getfield 21, 3) := by decide +kernel
theorem dX7_add_44 : decode cX7_add 44 = .ok (.iconst 1, 1) := by decide +kernel
theorem dX7_add_45 : decode cX7_add 45 = .ok (.iadd, 1) := by decide +kernel
theorem dX7_add_46 : decode cX7_add 46 = .ok (.putfield 21, 3) := by decide +kernel
theorem dX7_add_49 : decode cX7_add 49 = .ok (.return_, 1) := by decide +kernel
theorem dX7_allBits_0 : decode cX7_allBits 0 = .ok (.iconst 1, 1) := by decide +kernel
theorem dX7_allBits_1 : decode cX7_allBits 1 = .ok (.aload_n 0, 1) := by decide +kernel
theorem dX7_allBits_2 : decode cX7_allBits 2 = .ok (.getfield 21, 3) := by decide +kernel
theorem dX7_allBits_5 : decode cX7_allBits 5 = .ok (.ishl, 1) := by decide +kernel
theorem dX7_allBits_6 : decode cX7_allBits 6 = .ok (.iconst 1, 1) := by decide +kernel
theorem dX7_allBits_7 : decode cX7_allBits 7 = .ok (.isub, 1) := by decide +kernel
theorem dX7_allBits_8 : decode cX7_allBits 8 = .ok (.ireturn, 1) := by decide +kernel
theorem dX7_undo_0 : decode cX7_undo 0 = .ok (.sipush 255, 3) := by decide +kernel
theorem dX7_undo_3 : decode cX7_undo 3 = .ok (.istore_n 3, 1) := by decide +kernel
theorem dX7_undo_4 : decode cX7_undo 4 = .ok (.iconst 0, 1) := by decide +kernel
theorem dX7_undo_5 : decode cX7_undo 5 = .ok (.istore 4, 2) := by decide +kernel
theorem dX7_undo_7 : decode cX7_undo 7 = .ok (.iload 4, 2) := by decide +kernel
theorem dX7_undo_9 : decode cX7_undo 9 = .ok (.aload_n 0, 1) := by decide +kernel
theorem dX7_undo_10 : decode cX7_undo 10 = .ok (.getfield 21, 3) := by decide +kernel
theorem dX7_undo_13 : decode cX7_undo 13 = .ok (.if_icmp .ge 102, 3) := by decide +kernel
theorem dX7_undo_16 : decode cX7_undo 16 = .ok (.iload_n 1, 1) := by decide +kernel
theorem dX7_undo_17 : decode cX7_undo 17 = .ok (.iload 4, 2) := by decide +kernel
theorem dX7_undo_19 : decode cX7_undo 19 = .ok (.ishr, 1) := by decide +kernel
theorem dX7_undo_20 : decode cX7_undo 20 = .ok (.iconst 1, 1) := by decide +kernel
theorem dX7_undo_21 : decode cX7_undo 21 = .ok (.iand, 1) := by decide +kernel
theorem dX7_undo_22 : decode cX7_undo 22 = .ok (.ifCond .ne 6, 3) := by decide +kernel
theorem dX7_undo_25 : decode cX7_undo 25 = .ok (.goto 84, 3) := by decide +kernel
theorem dX7_undo_28 : decode cX7_undo 28 = .ok (.aload_n 0, 1) := by decide +kernel
theorem dX7_undo_29 : decode cX7_undo 29 = .ok (.getfield 9, 3) := by decide +kernel
theorem dX7_undo_32 : decode cX7_undo 32 = .ok (.iload 4, 2) := by decide +kernel
theorem dX7_undo_34 : decode cX7_undo 34 = .ok (.iaload, 1) := by decide +kernel
theorem dX7_undo_35 : decode cX7_undo 35 = .ok (.ifCond .ne 30, 3) := by decide +kernel
theorem dX7_undo_38 : decode cX7_undo 38 = .ok (.aload_n 2, 1) := by decide +kernel
theorem dX7_undo_39 : decode cX7_undo 39 = .ok (.getfield 25, 3) := by decide +kernel
theorem dX7_undo_42 : decode cX7_undo 42 = .ok (.aload_n 0, 1) := by decide +kernel
theorem dX7_undo_43 : decode cX7_undo 43 = .ok (.getfield 15, 3) := by decide +kernel
theorem dX7_undo_46 : decode cX7_undo 46 = .ok (.iload 4, 2) := by decide +kernel
theorem dX7_undo_48 : decode cX7_undo 48 = .ok (.iaload, 1) := by decide +kernel
theorem dX7_undo_49 : decode cX7_undo 49 = .ok (.dup2, 1) := by decide +kernel
theorem dX7_undo_50 : decode cX7_undo 50 = .ok (.iaload, 1) := by decide +kernel
theorem dX7_undo_51 : decode cX7_undo 51 = .ok (.iconst 1, 1) := by decide +kernel
theorem dX7_undo_52 : decode cX7_undo 52 = .ok (.aload_n 0, 1) := by decide +kernel
theorem dX7_undo_53 : decode cX7_undo 53 = .ok (.getfield 18, 3) := by decide +kernel
theorem dX7_undo_56 : decode cX7_undo 56 = .ok (.iload 4, 2) := by decide +kernel
theorem dX7_undo_58 : decode cX7_undo 58 = .ok (.iaload, 1) := by decide +kernel
theorem dX7_undo_59 : decode cX7_undo 59 = .ok (.ishl, 1) := by decide +kernel
theorem dX7_undo_60 : decode cX7_undo 60 = .ok (.ixor, 1) := by decide +kernel
theorem dX7_undo_61 : decode cX7_undo 61 = .ok (.iastore, 1) := by decide +kernel
theorem dX7_undo_62 : decode cX7_undo 62 = .ok (.goto 47, 3) := by decide +kernel
theorem dX7_undo_65 : decode cX7_undo 65 = .ok (.aload_n 0, 1) := by decide +kernel
theorem dX7_undo_66 : decode cX7_undo 66 = .ok (.getfield 9, 3) := by decide +kernel
theorem dX7_undo_69 : decode cX7_undo 69 = .ok (.iload 4, 2) := by decide +kernel
theorem dX7_undo_71 : decode cX7_undo 71 = .ok (.iaload, 1) := by decide +kernel
theorem dX7_undo_72 : decode cX7_undo 72 = .ok (.iconst 1, 1) := by decide +kernel
theorem dX7_undo_73 : decode cX7_undo 73 = .ok (.if_icmp .ne 22, 3) := by decide +kernel
theorem dX7_undo_76 : decode cX7_undo 76 = .ok (.aload_n 2, 1) := by decide +kernel
theorem dX7_undo_77 : decode cX7_undo 77 = .ok (.getfield 30, 3) := by decide +kernel
theorem dX7_undo_80 : decode cX7_undo 80 = .ok (.aload_n 0, 1) := by decide +kernel
theorem dX7_undo_81 : decode cX7_undo 81 = .ok (.getfield 15, 3) := by decide +kernel
theorem dX7_undo_84 : decode cX7_undo 84 = .ok (.iload 4, 2) := by decide +kernel
theorem dX7_undo_86 : decode cX7_undo 86 = .ok (.iaload, 1) := by decide +kernel
theorem dX7_undo_87 : decode cX7_undo 87 = .ok (.dup2, 1) := by decide +kernel
theorem dX7_undo_88 : decode cX7_undo 88 = .ok (.iaload, 1) := by decide +kernel
theorem dX7_undo_89 : decode cX7_undo 89 = .ok (.iconst 1, 1) := by decide +kernel
theorem dX7_undo_90 : decode cX7_undo 90 = .ok (.ixor, 1) := by decide +kernel
theorem dX7_undo_91 : decode cX7_undo 91 = .ok (.iastore, 1) := by decide +kernel
theorem dX7_undo_92 : decode cX7_undo 92 = .ok (.goto 17, 3) := by decide +kernel
theorem dX7_undo_95 : decode cX7_undo 95 = .ok (.iload_n 3, 1) := by decide +kernel
theorem dX7_undo_96 : decode cX7_undo 96 = .ok (.iconst 1, 1) := by decide +kernel
theorem dX7_undo_97 : decode cX7_undo 97 = .ok (.aload_n 0, 1) := by decide +kernel
theorem dX7_undo_98 : decode cX7_undo 98 = .ok (.getfield 18, 3) := by decide +kernel
theorem dX7_undo_101 : decode cX7_undo 101 = .ok (.iload 4, 2) := by decide +kernel
theorem dX7_undo_103 : decode cX7_undo 103 = .ok (.iaload, 1) := by decide +kernel
theorem dX7_undo_104 : decode cX7_undo 104 = .ok (.ishl, 1) := by decide +kernel
theorem dX7_undo_105 : decode cX7_undo 105 = .ok (.iconst (-1), 1) := by decide +kernel
theorem dX7_undo_106 : decode cX7_undo 106 = .ok (.ixor, 1) := by decide +kernel
theorem dX7_undo_107 : decode cX7_undo 107 = .ok (.iand, 1) := by decide +kernel
theorem dX7_undo_108 : decode cX7_undo 108 = .ok (.istore_n 3, 1) := by decide +kernel
theorem dX7_undo_109 : decode cX7_undo 109 = .ok (.iinc 4 1, 3) := by decide +kernel
theorem dX7_undo_112 : decode cX7_undo 112 = .ok (.goto (-105), 3) := by decide +kernel
theorem dX7_undo_115 : decode cX7_undo 115 = .ok (.iload_n 3, 1) := by decide +kernel
theorem dX7_undo_116 : decode cX7_undo 116 = .ok (.ireturn, 1) := by decide +kernel
theorem dX8_init_0 : decode cX8_init 0 = .ok (.aload_n 0, 1) := by decide +kernel
theorem dX8_init_1 : decode cX8_init 1 = .ok (.invokespecial 3, 3) := by decide +kernel
theorem dX8_init_4 : decode cX8_init 4 = .ok (.aload_n 0, 1) := by decide +kernel
theorem dX8_init_5 : decode cX8_init 5 = .ok (.iconst 3, 1) := by decide +kernel
theorem dX8_init_6 : decode cX8_init 6 = .ok (.bipush 12, 2) := by decide +kernel
theorem dX8_init_8 : decode cX8_init 8 = .ok (.multianewarray 9 2, 4) := by decide +kernel
theorem dX8_init_12 : decode cX8_init 12 = .ok (.putfield 11, 3) := by decide +kernel
theorem dX8_init_15 : decode cX8_init 15 = .ok (.aload_n 0, 1) := by decide +kernel
theorem dX8_init_16 : decode cX8_init 16 = .ok (.iconst 4, 1) := by decide +kernel
theorem dX8_init_17 : decode cX8_init 17 = .ok (.putfield 16, 3) := by decide +kernel
theorem dX8_init_20 : decode cX8_init 20 = .ok (.aload_n 0, 1) := by decide +kernel
theorem dX8_init_21 : decode cX8_init 21 = .ok (.getfield 11, 3) := by decide +kernel
theorem dX8_init_24 : decode cX8_init 24 = .ok (.iconst 2, 1) := by decide +kernel
theorem dX8_init_25 : decode cX8_init 25 = .ok (.aaload, 1) := by decide +kernel
theorem dX8_init_26 : decode cX8_init 26 = .ok (.bipush 15, 2) := by decide +kernel
theorem dX8_init_28 : decode cX8_init 28 = .ok (.invokestatic 20, 3) := by decide +kernel
theorem dX8_init_31 : decode cX8_init 31 = .ok (.return_, 1) := by decide +kernel
theorem dX8_resize_0 : decode cX8_resize 0 = .ok (.aload_n 0, 1) := by decide +kernel
theorem dX8_resize_1 : decode cX8_resize 1 = .ok (.getfield 16, 3) := by decide +kernel
theorem dX8_resize_4 : decode cX8_resize 4 = .ok (.istore_n 2, 1) := by decide +kernel
theorem dX8_resize_5 : decode cX8_resize 5 = .ok (.iload_n 2, 1) := by decide +kernel
theorem dX8_resize_6 : decode cX8_resize 6 = .ok (.iload_n 1, 1) := by decide +kernel
theorem dX8_resize_7 : decode cX8_resize 7 = .ok (.if_icmp .ge 37, 3) := by decide +kernel
theorem dX8_resize_10 : decode cX8_resize 10 = .ok (.aload_n 0, 1) := by decide +kernel
theorem dX8_resize_11 : decode cX8_resize 11 = .ok (.getfield 11, 3) := by decide +kernel
theorem dX8_resize_14 : decode cX8_resize 14 = .ok (.iconst 0, 1) := by decide +kernel
theorem dX8_resize_15 : decode cX8_resize 15 = .ok (.aaload, 1) := by decide +kernel
theorem dX8_resize_16 : decode cX8_resize 16 = .ok (.iload_n 2, 1) := by decide +kernel
theorem dX8_resize_17 : decode cX8_resize 17 = .ok (.iconst 0, 1) := by decide +kernel
theorem dX8_resize_18 : decode cX8_resize 18 = .ok (.iastore, 1) := by decide +kernel
theorem dX8_resize_19 : decode cX8_resize 19 = .ok (.aload_n 0, 1) := by decide +kernel
theorem dX8_resize_20 : decode cX8_resize 20 = .ok (.getfield 11, 3) := by decide +kernel
theorem dX8_resize_23 : decode cX8_resize 23 = .ok (.iconst 1, 1) := by decide +kernel
theorem dX8_resize_24 : decode cX8_resize 24 = .ok (.aaload, 1) := by decide +kernel
theorem dX8_resize_25 : decode cX8_resize 25 = .ok (.iload_n 2, 1) := by decide +kernel
theorem dX8_resize_26 : decode cX8_resize 26 = .ok (.iconst 0, 1) := by decide +kernel
theorem dX8_resize_27 : decode cX8_resize 27 = .ok (.iastore, 1) := by decide +kernel
theorem dX8_resize_28 : decode cX8_resize 28 = .ok (.aload_n 0, 1) := by decide +kernel
theorem dX8_resize_29 : decode cX8_resize 29 = .ok (.getfield 11, 3) := by decide +kernel
theorem dX8_resize_32 : decode cX8_resize 32 = .ok (.iconst 2, 1) := by decide +kernel
theorem dX8_resize_33 : decode cX8_resize 33 = .ok (.aaload, 1) := by decide +kernel
theorem dX8_resize_34 : decode cX8_resize 34 = .ok (.iload_n 2, 1) := by decide +kernel
theorem dX8_resize_35 : decode cX8_resize 35 = .ok (.bipush 15, 2) := by decide +kernel
theorem dX8_resize_37 : decode cX8_resize 37 = .ok (.iastore, 1) := by decide +kernel
theorem dX8_resize_38 : decode cX8_resize 38 = .ok (.iinc 2 1, 3) := by decide +kernel
theorem dX8_resize_41 : decode cX8_resize 41 = .ok (.goto (-36), 3) := by decide +kernel
theorem dX8_resize_44 : decode cX8_resize 44 = .ok (.aload_n 0, 1) := by decide +kernel
theorem dX8_resize_45 : decode cX8_resize 45 = .ok (.iload_n 1, 1) := by decide +kernel
theorem dX8_resize_46 : decode cX8_resize 46 = .ok (.putfield 16, 3) := by decide +kernel
theorem dX8_resize_49 : decode cX8_resize 49 = .ok (.return_, 1) := by decide +kernel
theorem dX9_init_0 : decode cX9_init 0 = .ok (.aload_n 0, 1) := by decide +kernel
theorem dX9_init_1 : decode cX9_init 1 = .ok (.invokespecial 1, 3) := by decide +kernel
theorem dX9_init_4 : decode cX9_init 4 = .ok (.aload_n 0, 1) := by decide +kernel
theorem dX9_init_5 : decode cX9_init 5 = .ok (.new 7, 3) := by decide +kernel
theorem dX9_init_8 : decode cX9_init 8 = .ok (.dup, 1) := by decide +kernel
theorem dX9_init_9 : decode cX9_init 9 = .ok (.invokespecial 9, 3) := by decide +kernel
theorem dX9_init_12 : decode cX9_init 12 = .ok (.putfield 10, 3) := by decide +kernel
theorem dX9_init_15 : decode cX9_init 15 = .ok (.aload_n 0, 1) := by decide +kernel
theorem dX9_init_16 : decode cX9_init 16 = .ok (.new 16, 3) := by decide +kernel
theorem dX9_init_19 : decode cX9_init 19 = .ok (.dup, 1) := by decide +kernel
theorem dX9_init_20 : decode cX9_init 20 = .ok (.aload_n 0, 1) := by decide +kernel
theorem dX9_init_21 : decode cX9_init 21 = .ok (.getfield 10, 3) := by decide +kernel
theorem dX9_init_24 : decode cX9_init 24 = .ok (.invokespecial 18, 3) := by decide +kernel
theorem dX9_init_27 : decode cX9_init 27 = .ok (.putfield 21, 3) := by decide +kernel
theorem dX9_init_30 : decode cX9_init 30 = .ok (.aload_n 0, 1) := by decide +kernel
theorem dX9_init_31 : decode cX9_init 31 = .ok (.iconst 2, 1) := by decide +kernel
theorem dX9_init_32 : decode cX9_init 32 = .ok (.anewarray 25, 3) := by decide +kernel
theorem dX9_init_35 : decode cX9_init 35 = .ok (.dup, 1) := by decide +kernel
theorem dX9_init_36 : decode cX9_init 36 = .ok (.iconst 0, 1) := by decide +kernel
theorem dX9_init_37 : decode cX9_init 37 = .ok (.new 25, 3) := by decide +kernel
theorem dX9_init_40 : decode cX9_init 40 = .ok (.dup, 1) := by decide +kernel
theorem dX9_init_41 : decode cX9_init 41 = .ok (.invokespecial 27, 3) := by decide +kernel
theorem dX9_init_44 : decode cX9_init 44 = .ok (.aastore, 1) := by decide +kernel
theorem dX9_init_45 : decode cX9_init 45 = .ok (.dup, 1) := by decide +kernel
theorem dX9_init_46 : decode cX9_init 46 = .ok (.iconst 1, 1) := by decide +kernel
theorem dX9_init_47 : decode cX9_init 47 = .ok (.new 25, 3) := by decide +kernel
theorem dX9_init_50 : decode cX9_init 50 = .ok (.dup, 1) := by decide +kernel
theorem dX9_init_51 : decode cX9_init 51 = .ok (.invokespecial 27, 3) := by decide +kernel
theorem dX9_init_54 : decode cX9_init 54 = .ok (.aastore, 1) := by decide +kernel
theorem dX9_init_55 : decode cX9_init 55 = .ok (.putfield 28, 3) := by decide +kernel
theorem dX9_init_58 : decode cX9_init 58 = .ok (.aload_n 0, 1) := by decide +kernel
theorem dX9_init_59 : decode cX9_init 59 = .ok (.new 25, 3) := by decide +kernel
theorem dX9_init_62 : decode cX9_init 62 = .ok (.dup, 1) := by decide +kernel
theorem dX9_init_63 : decode cX9_init 63 = .ok (.invokespecial 27, 3) := by decide +kernel
theorem dX9_init_66 : decode cX9_init 66 = .ok (.putfield 32, 3) := by decide +kernel
theorem dX9_init_69 : decode cX9_init 69 = .ok (.aload_n 0, 1) := by decide +kernel
theorem dX9_init_70 : decode cX9_init 70 = .ok (.new 36, 3) := by decide +kernel
theorem dX9_init_73 : decode cX9_init 73 = .ok (.dup, 1) := by decide +kernel
theorem dX9_init_74 : decode cX9_init 74 = .ok (.invokespecial 38, 3) := by decide +kernel
theorem dX9_init_77 : decode cX9_init 77 = .ok (.putfield 39, 3) := by decide +kernel
theorem dX9_init_80 : decode cX9_init 80 = .ok (.aload_n 0, 1) := by decide +kernel
theorem dX9_init_81 : decode cX9_init 81 = .ok (.new 43, 3) := by decide +kernel
theorem dX9_init_84 : decode cX9_init 84 = .ok (.dup, 1) := by decide +kernel
theorem dX9_init_85 : decode cX9_init 85 = .ok (.invokespecial 45, 3) := by decide +kernel
theorem dX9_init_88 : decode cX9_init 88 = .ok (.putfield 46, 3) := by decide +kernel
theorem dX9_init_91 : decode cX9_init 91 = .ok (.aload_n 0, 1) := by decide +kernel
theorem dX9_init_92 : decode cX9_init 92 = .ok (.new 50, 3) := by decide +kernel
theorem dX9_init_95 : decode cX9_init 95 = .ok (.dup, 1) := by decide +kernel
theorem dX9_init_96 : decode cX9_init 96 = .ok (.invokespecial 52, 3) := by decide +kernel
theorem dX9_init_99 : decode cX9_init 99 = .ok (.putfield 53, 3) := by decide +kernel
theorem dX9_init_102 : decode cX9_init 102 = .ok (.aload_n 0, 1) := by decide +kernel
theorem dX9_init_103 : decode cX9_init 103 = .ok (.iconst 3, 1) := by decide +kernel
theorem dX9_init_104 : decode cX9_init 104 = .ok (.anewarray 57, 3) := by decide +kernel
theorem dX9_init_107 : decode cX9_init 107 = .ok (.dup, 1) := by decide +kernel
theorem dX9_init_108 : decode cX9_init 108 = .ok (.iconst 0, 1) := by decide +kernel
theorem dX9_init_109 : decode cX9_init 109 = .ok (.new 57, 3) := by decide +kernel
theorem dX9_init_112 : decode cX9_init 112 = .ok (.dup, 1) := by decide +kernel
theorem dX9_init_113 : decode cX9_init 113 = .ok (.invokespecial 59, 3) := by decide +kernel
theorem dX9_init_116 : decode cX9_init 116 = .ok (.aastore, 1) := by decide +kernel
theorem dX9_init_117 : decode cX9_init 117 = .ok (.dup, 1) := by decide +kernel
theorem dX9_init_118 : decode cX9_init 118 = .ok (.iconst 1, 1) := by decide +kernel
theorem dX9_init_119 : decode cX9_init 119 = .ok (.new 57, 3) := by decide +kernel
theorem dX9_init_122 : decode cX9_init 122 = .ok (.dup, 1) := by decide +kernel
theorem dX9_init_123 : decode cX9_init 123 = .ok (.invokespecial 59, 3) := by decide +kernel
theorem dX9_init_126 : decode cX9_init 126 = .ok (.aastore, 1) := by decide +kernel
theorem dX9_init_127 : decode cX9_init 127 = .ok (.dup, 1) := by decide +kernel
theorem dX9_init_128 : decode cX9_init 128 = .ok (.iconst 2, 1) := by decide +kernel
theorem dX9_init_129 : decode cX9_init 129 = .ok (.new 57, 3) := by decide +kernel
theorem dX9_init_132 : decode cX9_init 132 = .ok (.dup, 1) := by decide +kernel
theorem dX9_init_133 : decode cX9_init 133 = .ok (.invokespecial 59, 3) := by decide +kernel
theorem dX9_init_136 : decode cX9_init 136 = .ok (.aastore, 1) := by decide +kernel
theorem dX9_init_137 : decode cX9_init 137 = .ok (.putfield 60, 3) := by decide +kernel
theorem dX9_init_140 : decode cX9_init 140 = .ok (.aload_n 0, 1) := by decide +kernel
theorem dX9_init_141 : decode cX9_init 141 = .ok (.new 64, 3) := by decide +kernel
theorem dX9_init_144 : decode cX9_init 144 = .ok (.dup, 1) := by decide +kernel
theorem dX9_init_145 : decode cX9_init 145 = .ok (.invokespecial 66, 3) := by decide +kernel
theorem dX9_init_148 : decode cX9_init 148 = .ok (.putfield 67, 3) := by decide +kernel
theorem dX9_init_151 : decode cX9_init 151 = .ok (.aload_n 0, 1) := by decide +kernel
theorem dX9_init_152 : decode cX9_init 152 = .ok (.bipush 64, 2) := by decide +kernel
theorem dX9_init_154 : decode cX9_init 154 = .ok (.newarray .boolean, 2) := by decide +kernel
theorem dX9_init_156 : decode cX9_init 156 = .ok (.putfield 71, 3) := by decide +kernel
theorem dX9_init_159 : decode cX9_init 159 = .ok (.aload_n 0, 1) := by decide +kernel
theorem dX9_init_160 : decode cX9_init 160 = .ok (.sipush 128, 3) := by decide +kernel
theorem dX9_init_163 : decode cX9_init 163 = .ok (.newarray .int, 2) := by decide +kernel
theorem dX9_init_165 : decode cX9_init 165 = .ok (.putfield 75, 3) := by decide +kernel
theorem dX9_init_168 : decode cX9_init 168 = .ok (.aload_n 0, 1) := by decide +kernel
theorem dX9_init_169 : decode cX9_init 169 = .ok (.bipush 16, 2) := by decide +kernel
theorem dX9_init_171 : decode cX9_init 171 = .ok (.newarray .int, 2) := by decide +kernel
theorem dX9_init_173 : decode cX9_init 173 = .ok (.putfield 79, 3) := by decide +kernel
theorem dX9_init_176 : decode cX9_init 176 = .ok (.aload_n 0, 1) := by decide +kernel
theorem dX9_init_177 : decode cX9_init 177 = .ok (.iconst 4, 1) := by decide +kernel
theorem dX9_init_178 : decode cX9_init 178 = .ok (.anewarray 82, 3) := by decide +kernel
theorem dX9_init_181 : decode cX9_init 181 = .ok (.dup, 1) := by decide +kernel
theorem dX9_init_182 : decode cX9_init 182 = .ok (.iconst 0, 1) := by decide +kernel
theorem dX9_init_183 : decode cX9_init 183 = .ok (.new 82, 3) := by decide +kernel
theorem dX9_init_186 : decode cX9_init 186 = .ok (.dup, 1) := by decide +kernel
theorem dX9_init_187 : decode cX9_init 187 = .ok (.invokespecial 84, 3) := by decide +kernel
theorem dX9_init_190 : decode cX9_init 190 = .ok (.aastore, 1) := by decide +kernel
theorem dX9_init_191 : decode cX9_init 191 = .ok (.dup, 1) := by decide +kernel
theorem dX9_init_192 : decode cX9_init 192 = .ok (.iconst 1, 1) := by decide +kernel
theorem dX9_init_193 : decode cX9_init 193 = .ok (.new 82, 3) := by decide +kernel
theorem dX9_init_196 : decode cX9_init 196 = .ok (.dup, 1) := by decide +kernel
theorem dX9_init_197 : decode cX9_init 197 = .ok (.invokespecial 84, 3) := by decide +kernel
theorem dX9_init_200 : decode cX9_init 200 = .ok (.aastore, 1) := by decide +kernel
theorem dX9_init_201 : decode cX9_init 201 = .ok (.dup, 1) := by decide +kernel
theorem dX9_init_202 : decode cX9_init 202 = .ok (.iconst 2, 1) := by decide +kernel
theorem dX9_init_203 : decode cX9_init 203 = .ok (.new 82, 3) := by decide +kernel
theorem dX9_init_206 : decode cX9_init 206 = .ok (.dup, 1) := by decide +kernel
theorem dX9_init_207 : decode cX9_init 207 = .ok (.invokespecial 84, 3) := by decide +kernel
theorem dX9_init_210 : decode cX9_init 210 = .ok (.aastore, 1) := by decide +kernel
theorem dX9_init_211 : decode cX9_init 211 = .ok (.dup, 1) := by decide +kernel
theorem dX9_init_212 : decode cX9_init 212 = .ok (.iconst 3, 1) := by decide +kernel
theorem dX9_init_213 : decode cX9_init 213 = .ok (.new 82, 3) := by decide +kernel
theorem dX9_init_216 : decode cX9_init 216 = .ok (.dup, 1) := by decide +kernel
theorem dX9_init_217 : decode cX9_init 217 = .ok (.invokespecial 84, 3) := by decide +kernel
theorem dX9_init_220 : decode cX9_init 220 = .ok (.aastore, 1) := by decide +kernel
theorem dX9_init_221 : decode cX9_init 221 = .ok (.putfield 85, 3) := by decide +kernel
theorem dX9_init_224 : decode cX9_init 224 = .ok (.aload_n 0, 1) := by decide +kernel
theorem dX9_init_225 : decode cX9_init 225 = .ok (.iconst 0, 1) := by decide +kernel
theorem dX9_init_226 : decode cX9_init 226 = .ok (.putfield 89, 3) := by decide +kernel
theorem dX9_init_229 : decode cX9_init 229 = .ok (.aload_n 0, 1) := by decide +kernel
theorem dX9_init_230 : decode cX9_init 230 = .ok (.bipush (-4), 2) := by decide +kernel
theorem dX9_init_232 : decode cX9_init 232 = .ok (.putfield 93, 3) := by decide +kernel
theorem dX9_init_235 : decode cX9_init 235 = .ok (.aload_n 0, 1) := by decide +kernel
theorem dX9_init_236 : decode cX9_init 236 = .ok (.iconst 0, 1) := by decide +kernel
theorem dX9_init_237 : decode cX9_init 237 = .ok (.putfield 97, 3) := by decide +kernel
theorem dX9_init_240 : decode cX9_init 240 = .ok (.return_, 1) := by decide +kernel
theorem dX9_type_0 : decode cX9_type 0 = .ok (.iload_n 3, 1) := by decide +kernel
theorem dX9_type_1 : decode cX9_type 1 = .ok (.iconst 1, 1) := by decide +kernel
theorem dX9_type_2 : decode cX9_type 2 = .ok (.if_icmp .lt 9, 3) := by decide +kernel
theorem dX9_type_5 : decode cX9_type 5 = .ok (.iload_n 3, 1) := by decide +kernel
theorem dX9_type_6 : decode cX9_type 6 = .ok (.bipush 8, 2) := by decide +kernel
theorem dX9_type_8 : decode cX9_type 8 = .ok (.if_icmp .le 5, 3) := by decide +kernel
theorem dX9_type_11 : decode cX9_type 11 = .ok (.iconst (-1), 1) := by decide +kernel
theorem dX9_type_12 : decode cX9_type 12 = .ok (.ireturn, 1) := by decide +kernel
theorem dX9_type_13 : decode cX9_type 13 = .ok (.iconst 0, 1) := by decide +kernel
theorem dX9_type_14 : decode cX9_type 14 = .ok (.istore 4, 2) := by decide +kernel
theorem dX9_type_16 : decode cX9_type 16 = .ok (.iload 4, 2) := by decide +kernel
theorem dX9_type_18 : decode cX9_type 18 = .ok (.iload_n 3, 1) := by decide +kernel
theorem dX9_type_19 : decode cX9_type 19 = .ok (.if_icmp .ge 33, 3) := by decide +kernel
theorem dX9_type_22 : decode cX9_type 22 = .ok (.lload_n 1, 1) := by decide +kernel
theorem dX9_type_23 : decode cX9_type 23 = .ok (.iload 4, 2) := by decide +kernel
theorem dX9_type_25 : decode cX9_type 25 = .ok (.invokestatic 100, 3) := by decide +kernel
theorem dX9_type_28 : decode cX9_type 28 = .ok (.istore 5, 2) := by decide +kernel
theorem dX9_type_30 : decode cX9_type 30 = .ok (.iload 5, 2) := by decide +kernel
theorem dX9_type_32 : decode cX9_type 32 = .ok (.bipush 32, 2) := by decide +kernel
theorem dX9_type_34 : decode cX9_type 34 = .ok (.if_icmp .lt 10, 3) := by decide +kernel
theorem dX9_type_37 : decode cX9_type 37 = .ok (.iload 5, 2) := by decide +kernel
theorem dX9_type_39 : decode cX9_type 39 = .ok (.bipush 126, 2) := by decide +kernel
theorem dX9_type_41 : decode cX9_type 41 = .ok (.if_icmp .le 5, 3) := by decide +kernel
theorem dX9_type_44 : decode cX9_type 44 = .ok (.iconst (-1), 1) := by decide +kernel
theorem dX9_type_45 : decode cX9_type 45 = .ok (.ireturn, 1) := by decide +kernel
theorem dX9_type_46 : decode cX9_type 46 = .ok (.iinc 4 1, 3) := by decide +kernel
theorem dX9_type_49 : decode cX9_type 49 = .ok (.goto (-33), 3) := by decide +kernel
theorem dX9_type_52 : decode cX9_type 52 = .ok (.aload_n 0, 1) := by decide +kernel
theorem dX9_type_53 : decode cX9_type 53 = .ok (.getfield 10, 3) := by decide +kernel
theorem dX9_type_56 : decode cX9_type 56 = .ok (.getfield 104, 3) := by decide +kernel
theorem dX9_type_59 : decode cX9_type 59 = .ok (.iload_n 3, 1) := by decide +kernel
theorem dX9_type_60 : decode cX9_type 60 = .ok (.iadd, 1) := by decide +kernel
theorem dX9_type_61 : decode cX9_type 61 = .ok (.bipush 120, 2) := by decide +kernel
theorem dX9_type_63 : decode cX9_type 63 = .ok (.if_icmp .le 6, 3) := by decide +kernel
theorem dX9_type_66 : decode cX9_type 66 = .ok (.bipush (-3), 2) := by decide +kernel
theorem dX9_type_68 : decode cX9_type 68 = .ok (.ireturn, 1) := by decide +kernel
theorem dX9_type_69 : decode cX9_type 69 = .ok (.iload_n 3, 1) := by decide +kernel
theorem dX9_type_70 : decode cX9_type 70 = .ok (.iconst 1, 1) := by decide +kernel
theorem dX9_type_71 : decode cX9_type 71 = .ok (.isub, 1) := by decide +kernel
theorem dX9_type_72 : decode cX9_type 72 = .ok (.istore 4, 2) := by decide +kernel
theorem dX9_type_74 : decode cX9_type 74 = .ok (.iload 4, 2) := by decide +kernel
theorem dX9_type_76 : decode cX9_type 76 = .ok (.ifCond .lt 22, 3) := by decide +kernel
theorem dX9_type_79 : decode cX9_type 79 = .ok (.aload_n 0, 1) := by decide +kernel
theorem dX9_type_80 : decode cX9_type 80 = .ok (.getfield 10, 3) := by decide +kernel
theorem dX9_type_83 : decode cX9_type 83 = .ok (.lload_n 1, 1) := by decide +kernel
theorem dX9_type_84 : decode cX9_type 84 = .ok (.iload 4, 2) := by decide +kernel
theorem dX9_type_86 : decode cX9_type 86 = .ok (.invokestatic 100, 3) := by decide +kernel
theorem dX9_type_89 : decode cX9_type 89 = .ok (.invokevirtual 107, 3) := by decide +kernel
theorem dX9_type_92 : decode cX9_type 92 = .ok (.iinc 4 (-1), 3) := by decide +kernel
theorem dX9_type_95 : decode cX9_type 95 = .ok (.goto (-21), 3) := by decide +kernel
theorem dX9_type_98 : decode cX9_type 98 = .ok (.aload_n 0, 1) := by decide +kernel
theorem dX9_type_99 : decode cX9_type 99 = .ok (.getfield 10, 3) := by decide +kernel
theorem dX9_type_102 : decode cX9_type 102 = .ok (.getfield 104, 3) := by decide +kernel
theorem dX9_type_105 : decode cX9_type 105 = .ok (.ireturn, 1) := by decide +kernel
theorem dX9_rules_0 : decode cX9_rules 0 = .ok (.aload_n 0, 1) := by decide +kernel
theorem dX9_rules_1 : decode cX9_rules 1 = .ok (.iload_n 1, 1) := by decide +kernel
theorem dX9_rules_2 : decode cX9_rules 2 = .ok (.invokevirtual 111, 3) := by decide +kernel
theorem dX9_rules_5 : decode cX9_rules 5 = .ok (.ifCond .eq 5, 3) := by decide +kernel
theorem dX9_rules_8 : decode cX9_rules 8 = .ok (.iconst (-1), 1) := by decide +kernel
theorem dX9_rules_9 : decode cX9_rules 9 = .ok (.ireturn, 1) := by decide +kernel
theorem dX9_rules_10 : decode cX9_rules 10 = .ok (.aload_n 0, 1) := by decide +kernel
theorem dX9_rules_11 : decode cX9_rules 11 = .ok (.getfield 21, 3) := by decide +kernel
theorem dX9_rules_14 : decode cX9_rules 14 = .ok (.aload_n 0, 1) := by decide +kernel
theorem dX9_rules_15 : decode cX9_rules 15 = .ok (.getfield 32, 3) := by decide +kernel
theorem dX9_rules_18 : decode cX9_rules 18 = .ok (.invokevirtual 115, 3) := by decide +kernel
theorem dX9_rules_21 : decode cX9_rules 21 = .ok (.istore_n 2, 1) := by decide +kernel
theorem dX9_rules_22 : decode cX9_rules 22 = .ok (.aload_n 0, 1) := by decide +kernel
theorem dX9_rules_23 : decode cX9_rules 23 = .ok (.getfield 10, 3) := by decide +kernel
theorem dX9_rules_26 : decode cX9_rules 26 = .ok (.iconst 0, 1) := by decide +kernel
theorem dX9_rules_27 : decode cX9_rules 27 = .ok (.putfield 104, 3) := by decide +kernel
theorem dX9_rules_30 : decode cX9_rules 30 = .ok (.iload_n 2, 1) := by decide +kernel
theorem dX9_rules_31 : decode cX9_rules 31 = .ok (.ifCond .ge 5, 3) := by decide +kernel
theorem dX9_rules_34 : decode cX9_rules 34 = .ok (.iload_n 2, 1) := by decide +kernel
theorem dX9_rules_35 : decode cX9_rules 35 = .ok (.ireturn, 1) := by decide +kernel
theorem dX9_rules_36 : decode cX9_rules 36 = .ok (.aload_n 0, 1) := by decide +kernel
theorem dX9_rules_37 : decode cX9_rules 37 = .ok (.getfield 28, 3) := by decide +kernel
theorem dX9_rules_40 : decode cX9_rules 40 = .ok (.iload_n 1, 1) := by decide +kernel
theorem dX9_rules_41 : decode cX9_rules 41 = .ok (.aaload, 1) := by decide +kernel
theorem dX9_rules_42 : decode cX9_rules 42 = .ok (.astore_n 3, 1) := by decide +kernel
theorem dX9_rules_43 : decode cX9_rules 43 = .ok (.aload_n 0, 1) := by decide +kernel
theorem dX9_rules_44 : decode cX9_rules 44 = .ok (.getfield 28, 3) := by decide +kernel
theorem dX9_rules_47 : decode cX9_rules 47 = .ok (.iload_n 1, 1) := by decide +kernel
theorem dX9_rules_48 : decode cX9_rules 48 = .ok (.aload_n 0, 1) := by decide +kernel
theorem dX9_rules_49 : decode cX9_rules 49 = .ok (.getfield 32, 3) := by decide +kernel
theorem dX9_rules_52 : decode cX9_rules 52 = .ok (.aastore, 1) := by decide +kernel
theorem dX9_rules_53 : decode cX9_rules 53 = .ok (.aload_n 0, 1) := by decide +kernel
theorem dX9_rules_54 : decode cX9_rules 54 = .ok (.aload_n 3, 1) := by decide +kernel
theorem dX9_rules_55 : decode cX9_rules 55 = .ok (.putfield 32, 3) := by decide +kernel
theorem dX9_rules_58 : decode cX9_rules 58 = .ok (.iload_n 2, 1) := by decide +kernel
theorem dX9_rules_59 : decode cX9_rules 59 = .ok (.ireturn, 1) := by decide +kernel
theorem dX9_rule_0 : decode cX9_rule 0 = .ok (.aload_n 0, 1) := by decide +kernel
theorem dX9_rule_1 : decode cX9_rule 1 = .ok (.iload_n 1, 1) := by decide +kernel
theorem dX9_rule_2 : decode cX9_rule 2 = .ok (.invokevirtual 111, 3) := by decide +kernel
theorem dX9_rule_5 : decode cX9_rule 5 = .ok (.ifCond .ne 29, 3) := by decide +kernel
theorem dX9_rule_8 : decode cX9_rule 8 = .ok (.iload_n 2, 1) := by decide +kernel
theorem dX9_rule_9 : decode cX9_rule 9 = .ok (.aload_n 0, 1) := by decide +kernel
theorem dX9_rule_10 : decode cX9_rule 10 = .ok (.getfield 28, 3) := by decide +kernel
theorem dX9_rule_13 : decode cX9_rule 13 = .ok (.iload_n 1, 1) := by decide +kernel
theorem dX9_rule_14 : decode cX9_rule 14 = .ok (.aaload, 1) := by decide +kernel
theorem dX9_rule_15 : decode cX9_rule 15 = .ok (.getfield 119, 3) := by decide +kernel
theorem dX9_rule_18 : decode cX9_rule 18 = .ok (.iconst 1, 1) := by decide +kernel
theorem dX9_rule_19 : decode cX9_rule 19 = .ok (.isub, 1) := by decide +kernel
theorem dX9_rule_20 : decode cX9_rule 20 = .ok (.invokestatic 120, 3) := by decide +kernel
theorem dX9_rule_23 : decode cX9_rule 23 = .ok (.ifCond .ne 11, 3) := by decide +kernel
theorem dX9_rule_26 : decode cX9_rule 26 = .ok (.iload_n 3, 1) := by decide +kernel
theorem dX9_rule_27 : decode cX9_rule 27 = .ok (.iconst 2, 1) := by decide +kernel
theorem dX9_rule_28 : decode cX9_rule 28 = .ok (.invokestatic 120, 3) := by decide +kernel
theorem dX9_rule_31 : decode cX9_rule 31 = .ok (.ifCond .eq 5, 3) := by decide +kernel
theorem dX9_rule_34 : decode cX9_rule 34 = .ok (.iconst (-1), 1) := by decide +kernel
theorem dX9_rule_35 : decode cX9_rule 35 = .ok (.ireturn, 1) := by decide +kernel
theorem dX9_rule_36 : decode cX9_rule 36 = .ok (.aload_n 0, 1) := by decide +kernel
theorem dX9_rule_37 : decode cX9_rule 37 = .ok (.getfield 28, 3) := by decide +kernel
theorem dX9_rule_40 : decode cX9_rule 40 = .ok (.iload_n 1, 1) := by decide +kernel
theorem dX9_rule_41 : decode cX9_rule 41 = .ok (.aaload, 1) := by decide +kernel
theorem dX9_rule_42 : decode cX9_rule 42 = .ok (.astore 4, 2) := by decide +kernel
theorem dX9_rule_44 : decode cX9_rule 44 = .ok (.iload_n 3, 1) := by decide +kernel
theorem dX9_rule_45 : decode cX9_rule 45 = .ok (.ifCond .ne 13, 3) := by decide +kernel
theorem dX9_rule_48 : decode cX9_rule 48 = .ok (.aload 4, 2) := by decide +kernel
theorem dX9_rule_50 : decode cX9_rule 50 = .ok (.getfield 124, 3) := by decide +kernel
theorem dX9_rule_53 : decode cX9_rule 53 = .ok (.iload_n 2, 1) := by decide +kernel
theorem dX9_rule_54 : decode cX9_rule 54 = .ok (.iaload, 1) := by decide +kernel
theorem dX9_rule_55 : decode cX9_rule 55 = .ok (.goto 25, 3) := by decide +kernel
theorem dX9_rule_58 : decode cX9_rule 58 = .ok (.iload_n 3, 1) := by decide +kernel
theorem dX9_rule_59 : decode cX9_rule 59 = .ok (.iconst 1, 1) := by decide +kernel
theorem dX9_rule_60 : decode cX9_rule 60 = .ok (.if_icmp .ne 13, 3) := by decide +kernel
theorem dX9_rule_63 : decode cX9_rule 63 = .ok (.aload 4, 2) := by decide +kernel
theorem dX9_rule_65 : decode cX9_rule 65 = .ok (.getfield 127, 3) := by decide +kernel
theorem dX9_rule_68 : decode cX9_rule 68 = .ok (.iload_n 2, 1) := by decide +kernel
theorem dX9_rule_69 : decode cX9_rule 69 = .ok (.iaload, 1) := by decide +kernel
theorem dX9_rule_70 : decode cX9_rule 70 = .ok (.goto 10, 3) := by decide +kernel
theorem dX9_rule_73 : decode cX9_rule 73 = .ok (.aload 4, 2) := by decide +kernel
theorem dX9_rule_75 : decode cX9_rule 75 = .ok (.getfield 130, 3) := by decide +kernel
theorem dX9_rule_78 : decode cX9_rule 78 = .ok (.iload_n 2, 1) := by decide +kernel
theorem dX9_rule_79 : decode cX9_rule 79 = .ok (.iaload, 1) := by decide +kernel
theorem dX9_rule_80 : decode cX9_rule 80 = .ok (.ireturn, 1) := by decide +kernel
theorem dX9_ticks_0 : decode cX9_ticks 0 = .ok (.iload_n 1, 1) := by decide +kernel
theorem dX9_ticks_1 : decode cX9_ticks 1 = .ok (.iconst 1, 1) := by decide +kernel
theorem dX9_ticks_2 : decode cX9_ticks 2 = .ok (.if_icmp .lt 9, 3) := by decide +kernel
theorem dX9_ticks_5 : decode cX9_ticks 5 = .ok (.iload_n 1, 1) := by decide +kernel
theorem dX9_ticks_6 : decode cX9_ticks 6 = .ok (.bipush 12, 2) := by decide +kernel
theorem dX9_ticks_8 : decode cX9_ticks 8 = .ok (.if_icmp .le 5, 3) := by decide +kernel
theorem dX9_ticks_11 : decode cX9_ticks 11 = .ok (.iconst (-1), 1) := by decide +kernel
theorem dX9_ticks_12 : decode cX9_ticks 12 = .ok (.ireturn, 1) := by decide +kernel
theorem dX9_ticks_13 : decode cX9_ticks 13 = .ok (.aload_n 0, 1) := by decide +kernel
theorem dX9_ticks_14 : decode cX9_ticks 14 = .ok (.getfield 39, 3) := by decide +kernel
theorem dX9_ticks_17 : decode cX9_ticks 17 = .ok (.getfield 133, 3) := by decide +kernel
theorem dX9_ticks_20 : decode cX9_ticks 20 = .ok (.istore_n 2, 1) := by decide +kernel
theorem dX9_ticks_21 : decode cX9_ticks 21 = .ok (.aload_n 0, 1) := by decide +kernel
theorem dX9_ticks_22 : decode cX9_ticks 22 = .ok (.getfield 39, 3) := by decide +kernel
theorem dX9_ticks_25 : decode cX9_ticks 25 = .ok (.iload_n 1, 1) := by decide +kernel
theorem dX9_ticks_26 : decode cX9_ticks 26 = .ok (.invokevirtual 134, 3) := by decide +kernel
theorem dX9_ticks_29 : decode cX9_ticks 29 = .ok (.iload_n 2, 1) := by decide +kernel
theorem dX9_ticks_30 : decode cX9_ticks 30 = .ok (.ireturn, 1) := by decide +kernel
theorem dX9_world_0 : decode cX9_world 0 = .ok (.aload_n 0, 1) := by decide +kernel
theorem dX9_world_1 : decode cX9_world 1 = .ok (.iload_n 1, 1) := by decide +kernel
theorem dX9_world_2 : decode cX9_world 2 = .ok (.invokevirtual 137, 3) := by decide +kernel
theorem dX9_world_5 : decode cX9_world 5 = .ok (.ifCond .ne 29, 3) := by decide +kernel
theorem dX9_world_8 : decode cX9_world 8 = .ok (.iload_n 2, 1) := by decide +kernel
theorem dX9_world_9 : decode cX9_world 9 = .ok (.iconst 2, 1) := by decide +kernel
theorem dX9_world_10 : decode cX9_world 10 = .ok (.invokestatic 120, 3) := by decide +kernel
theorem dX9_world_13 : decode cX9_world 13 = .ok (.ifCond .ne 21, 3) := by decide +kernel
theorem dX9_world_16 : decode cX9_world 16 = .ok (.iload_n 3, 1) := by decide +kernel
theorem dX9_world_17 : decode cX9_world 17 = .ok (.iload_n 2, 1) := by decide +kernel
theorem dX9_world_18 : decode cX9_world 18 = .ok (.iconst 1, 1) := by decide +kernel
theorem dX9_world_19 : decode cX9_world 19 = .ok (.if_icmp .ne 7, 3) := by decide +kernel
theorem dX9_world_22 : decode cX9_world 22 = .ok (.iconst 1, 1) := by decide +kernel
theorem dX9_world_23 : decode cX9_world 23 = .ok (.goto 5, 3) := by decide +kernel
theorem dX9_world_26 : decode cX9_world 26 = .ok (.bipush 15, 2) := by decide +kernel
theorem dX9_world_28 : decode cX9_world 28 = .ok (.invokestatic 120, 3) := by decide +kernel
theorem dX9_world_31 : decode cX9_world 31 = .ok (.ifCond .eq 5, 3) := by decide +kernel
theorem dX9_world_34 : decode cX9_world 34 = .ok (.iconst (-1), 1) := by decide +kernel
theorem dX9_world_35 : decode cX9_world 35 = .ok (.ireturn, 1) := by decide +kernel
theorem dX9_world_36 : decode cX9_world 36 = .ok (.aload_n 0, 1) := by decide +kernel
theorem dX9_world_37 : decode cX9_world 37 = .ok (.getfield 39, 3) := by decide +kernel
theorem dX9_world_40 : decode cX9_world 40 = .ok (.getfield 140, 3) := by decide +kernel
theorem dX9_world_43 : decode cX9_world 43 = .ok (.iload_n 2, 1) := by decide +kernel
theorem dX9_world_44 : decode cX9_world 44 = .ok (.aaload, 1) := by decide +kernel
theorem dX9_world_45 : decode cX9_world 45 = .ok (.iload_n 1, 1) := by decide +kernel
theorem dX9_world_46 : decode cX9_world 46 = .ok (.iaload, 1) := by decide +kernel
theorem dX9_world_47 : decode cX9_world 47 = .ok (.istore 4, 2) := by decide +kernel
theorem dX9_world_49 : decode cX9_world 49 = .ok (.aload_n 0, 1) := by decide +kernel
theorem dX9_world_50 : decode cX9_world 50 = .ok (.getfield 39, 3) := by decide +kernel
theorem dX9_world_53 : decode cX9_world 53 = .ok (.getfield 140, 3) := by decide +kernel
theorem dX9_world_56 : decode cX9_world 56 = .ok (.iload_n 2, 1) := by decide +kernel
theorem dX9_world_57 : decode cX9_world 57 = .ok (.aaload, 1) := by decide +kernel
theorem dX9_world_58 : decode cX9_world 58 = .ok (.iload_n 1, 1) := by decide +kernel
theorem dX9_world_59 : decode cX9_world 59 = .ok (.iload_n 3, 1) := by decide +kernel
theorem dX9_world_60 : decode cX9_world 60 = .ok (.iastore, 1) := by decide +kernel
theorem dX9_world_61 : decode cX9_world 61 = .ok (.iload 4, 2) := by decide +kernel
theorem dX9_world_63 : decode cX9_world 63 = .ok (.ireturn, 1) := by decide +kernel
theorem dX9_sights_0 : decode cX9_sights 0 = .ok (.aload_n 0, 1) := by decide +kernel
theorem dX9_sights_1 : decode cX9_sights 1 = .ok (.iload_n 1, 1) := by decide +kernel
theorem dX9_sights_2 : decode cX9_sights 2 = .ok (.invokevirtual 144, 3) := by decide +kernel
theorem dX9_sights_5 : decode cX9_sights 5 = .ok (.ifCond .ne 13, 3) := by decide +kernel
theorem dX9_sights_8 : decode cX9_sights 8 = .ok (.iload_n 2, 1) := by decide +kernel
theorem dX9_sights_9 : decode cX9_sights 9 = .ok (.iconst 1, 1) := by decide +kernel
theorem dX9_sights_10 : decode cX9_sights 10 = .ok (.if_icmp .lt 8, 3) := by decide +kernel
theorem dX9_sights_13 : decode cX9_sights 13 = .ok (.iload_n 2, 1) := by decide +kernel
theorem dX9_sights_14 : decode cX9_sights 14 = .ok (.iconst 2, 1) := by decide +kernel
theorem dX9_sights_15 : decode cX9_sights 15 = .ok (.if_icmp .le 5, 3) := by decide +kernel
theorem dX9_sights_18 : decode cX9_sights 18 = .ok (.iconst (-1), 1) := by decide +kernel
theorem dX9_sights_19 : decode cX9_sights 19 = .ok (.ireturn, 1) := by decide +kernel
theorem dX9_sights_20 : decode cX9_sights 20 = .ok (.aload_n 0, 1) := by decide +kernel
theorem dX9_sights_21 : decode cX9_sights 21 = .ok (.getfield 85, 3) := by decide +kernel
theorem dX9_sights_24 : decode cX9_sights 24 = .ok (.iload_n 1, 1) := by decide +kernel
theorem dX9_sights_25 : decode cX9_sights 25 = .ok (.aaload, 1) := by decide +kernel
theorem dX9_sights_26 : decode cX9_sights 26 = .ok (.astore 4, 2) := by decide +kernel
theorem dX9_sights_28 : decode cX9_sights 28 = .ok (.aload 4, 2) := by decide +kernel
theorem dX9_sights_30 : decode cX9_sights 30 = .ok (.iload_n 2, 1) := by decide +kernel
theorem dX9_sights_31 : decode cX9_sights 31 = .ok (.iload_n 3, 1) := by decide +kernel
theorem dX9_sights_32 : decode cX9_sights 32 = .ok (.aload_n 0, 1) := by decide +kernel
theorem dX9_sights_33 : decode cX9_sights 33 = .ok (.getfield 39, 3) := by decide +kernel
theorem dX9_sights_36 : decode cX9_sights 36 = .ok (.getfield 133, 3) := by decide +kernel
theorem dX9_sights_39 : decode cX9_sights 39 = .ok (.invokevirtual 147, 3) := by decide +kernel
theorem dX9_sights_42 : decode cX9_sights 42 = .ok (.istore 5, 2) := by decide +kernel
theorem dX9_sights_44 : decode cX9_sights 44 = .ok (.iload 5, 2) := by decide +kernel
theorem dX9_sights_46 : decode cX9_sights 46 = .ok (.ifCond .ge 6, 3) := by decide +kernel
theorem dX9_sights_49 : decode cX9_sights 49 = .ok (.iload 5, 2) := by decide +kernel
theorem dX9_sights_51 : decode cX9_sights 51 = .ok (.ireturn, 1) := by decide +kernel
theorem dX9_sights_52 : decode cX9_sights 52 = .ok (.iconst 0, 1) := by decide +kernel
theorem dX9_sights_53 : decode cX9_sights 53 = .ok (.istore 6, 2) := by decide +kernel
theorem dX9_sights_55 : decode cX9_sights 55 = .ok (.iload 6, 2) := by decide +kernel
theorem dX9_sights_57 : decode cX9_sights 57 = .ok (.aload_n 0, 1) := by decide +kernel
theorem dX9_sights_58 : decode cX9_sights 58 = .ok (.getfield 39, 3) := by decide +kernel
theorem dX9_sights_61 : decode cX9_sights 61 = .ok (.getfield 133, 3) := by decide +kernel
theorem dX9_sights_64 : decode cX9_sights 64 = .ok (.if_icmp .ge 30, 3) := by decide +kernel
theorem dX9_sights_67 : decode cX9_sights 67 = .ok (.aload 4, 2) := by decide +kernel
theorem dX9_sights_69 : decode cX9_sights 69 = .ok (.getfield 151, 3) := by decide +kernel
theorem dX9_sights_72 : decode cX9_sights 72 = .ok (.iload_n 3, 1) := by decide +kernel
theorem dX9_sights_73 : decode cX9_sights 73 = .ok (.iload 6, 2) := by decide +kernel
theorem dX9_sights_75 : decode cX9_sights 75 = .ok (.iadd, 1) := by decide +kernel
theorem dX9_sights_76 : decode cX9_sights 76 = .ok (.iaload, 1) := by decide +kernel
theorem dX9_sights_77 : decode cX9_sights 77 = .ok (.bipush 15, 2) := by decide +kernel
theorem dX9_sights_79 : decode cX9_sights 79 = .ok (.invokestatic 120, 3) := by decide +kernel
theorem dX9_sights_82 : decode cX9_sights 82 = .ok (.ifCond .eq 6, 3) := by decide +kernel
theorem dX9_sights_85 : decode cX9_sights 85 = .ok (.bipush (-2), 2) := by decide +kernel
theorem dX9_sights_87 : decode cX9_sights 87 = .ok (.ireturn, 1) := by decide +kernel
theorem dX9_sights_88 : decode cX9_sights 88 = .ok (.iinc 6 1, 3) := by decide +kernel
theorem dX9_sights_91 : decode cX9_sights 91 = .ok (.goto (-36), 3) := by decide +kernel
theorem dX9_sights_94 : decode cX9_sights 94 = .ok (.aload 4, 2) := by decide +kernel
theorem dX9_sights_96 : decode cX9_sights 96 = .ok (.getfield 151, 3) := by decide +kernel
theorem dX9_sights_99 : decode cX9_sights 99 = .ok (.iload_n 3, 1) := by decide +kernel
theorem dX9_sights_100 : decode cX9_sights 100 = .ok (.aload_n 0, 1) := by decide +kernel
theorem dX9_sights_101 : decode cX9_sights 101 = .ok (.getfield 39, 3) := by decide +kernel
theorem dX9_sights_104 : decode cX9_sights 104 = .ok (.getfield 140, 3) := by decide +kernel
theorem dX9_sights_107 : decode cX9_sights 107 = .ok (.iconst 0, 1) := by decide +kernel
theorem dX9_sights_108 : decode cX9_sights 108 = .ok (.aaload, 1) := by decide +kernel
theorem dX9_sights_109 : decode cX9_sights 109 = .ok (.iconst 0, 1) := by decide +kernel
theorem dX9_sights_110 : decode cX9_sights 110 = .ok (.aload_n 0, 1) := by decide +kernel
theorem dX9_sights_111 : decode cX9_sights 111 = .ok (.getfield 39, 3) := by decide +kernel
theorem dX9_sights_114 : decode cX9_sights 114 = .ok (.getfield 133, 3) := by decide +kernel
theorem dX9_sights_117 : decode cX9_sights 117 = .ok (.invokestatic 153, 3) := by decide +kernel
theorem dX9_sights_120 : decode cX9_sights 120 = .ok (.aload_n 0, 1) := by decide +kernel
theorem dX9_sights_121 : decode cX9_sights 121 = .ok (.getfield 39, 3) := by decide +kernel
theorem dX9_sights_124 : decode cX9_sights 124 = .ok (.getfield 133, 3) := by decide +kernel
theorem dX9_sights_127 : decode cX9_sights 127 = .ok (.ireturn, 1) := by decide +kernel
theorem dX9_lots_0 : decode cX9_lots 0 = .ok (.aload_n 0, 1) := by decide +kernel
theorem dX9_lots_1 : decode cX9_lots 1 = .ok (.iload_n 1, 1) := by decide +kernel
theorem dX9_lots_2 : decode cX9_lots 2 = .ok (.invokevirtual 144, 3) := by decide +kernel
theorem dX9_lots_5 : decode cX9_lots 5 = .ok (.ifCond .eq 5, 3) := by decide +kernel
theorem dX9_lots_8 : decode cX9_lots 8 = .ok (.iconst (-1), 1) := by decide +kernel
theorem dX9_lots_9 : decode cX9_lots 9 = .ok (.ireturn, 1) := by decide +kernel
theorem dX9_lots_10 : decode cX9_lots 10 = .ok (.aload_n 0, 1) := by decide +kernel
theorem dX9_lots_11 : decode cX9_lots 11 = .ok (.getfield 85, 3) := by decide +kernel
theorem dX9_lots_14 : decode cX9_lots 14 = .ok (.iload_n 1, 1) := by decide +kernel
theorem dX9_lots_15 : decode cX9_lots 15 = .ok (.aaload, 1) := by decide +kernel
theorem dX9_lots_16 : decode cX9_lots 16 = .ok (.astore_n 3, 1) := by decide +kernel
theorem dX9_lots_17 : decode cX9_lots 17 = .ok (.aload_n 3, 1) := by decide +kernel
theorem dX9_lots_18 : decode cX9_lots 18 = .ok (.iconst 0, 1) := by decide +kernel
theorem dX9_lots_19 : decode cX9_lots 19 = .ok (.iload_n 2, 1) := by decide +kernel
theorem dX9_lots_20 : decode cX9_lots 20 = .ok (.aload_n 0, 1) := by decide +kernel
theorem dX9_lots_21 : decode cX9_lots 21 = .ok (.getfield 39, 3) := by decide +kernel
theorem dX9_lots_24 : decode cX9_lots 24 = .ok (.getfield 133, 3) := by decide +kernel
theorem dX9_lots_27 : decode cX9_lots 27 = .ok (.invokevirtual 147, 3) := by decide +kernel
theorem dX9_lots_30 : decode cX9_lots 30 = .ok (.istore 4, 2) := by decide +kernel
theorem dX9_lots_32 : decode cX9_lots 32 = .ok (.iload 4, 2) := by decide +kernel
theorem dX9_lots_34 : decode cX9_lots 34 = .ok (.ifCond .ge 6, 3) := by decide +kernel
theorem dX9_lots_37 : decode cX9_lots 37 = .ok (.iload 4, 2) := by decide +kernel
theorem dX9_lots_39 : decode cX9_lots 39 = .ok (.ireturn, 1) := by decide +kernel
theorem dX9_lots_40 : decode cX9_lots 40 = .ok (.iconst 0, 1) := by decide +kernel
theorem dX9_lots_41 : decode cX9_lots 41 = .ok (.istore 5, 2) := by decide +kernel
theorem dX9_lots_43 : decode cX9_lots 43 = .ok (.iconst 0, 1) := by decide +kernel
theorem dX9_lots_44 : decode cX9_lots 44 = .ok (.istore 6, 2) := by decide +kernel
theorem dX9_lots_46 : decode cX9_lots 46 = .ok (.iload 6, 2) := by decide +kernel
theorem dX9_lots_48 : decode cX9_lots 48 = .ok (.aload_n 0, 1) := by decide +kernel
theorem dX9_lots_49 : decode cX9_lots 49 = .ok (.getfield 39, 3) := by decide +kernel
theorem dX9_lots_52 : decode cX9_lots 52 = .ok (.getfield 133, 3) := by decide +kernel
theorem dX9_lots_55 : decode cX9_lots 55 = .ok (.if_icmp .ge 44, 3) := by decide +kernel
theorem dX9_lots_58 : decode cX9_lots 58 = .ok (.aload_n 0, 1) := by decide +kernel
theorem dX9_lots_59 : decode cX9_lots 59 = .ok (.getfield 39, 3) := by decide +kernel
theorem dX9_lots_62 : decode cX9_lots 62 = .ok (.getfield 140, 3) := by decide +kernel
theorem dX9_lots_65 : decode cX9_lots 65 = .ok (.iconst 1, 1) := by decide +kernel
theorem dX9_lots_66 : decode cX9_lots 66 = .ok (.aaload, 1) := by decide +kernel
theorem dX9_lots_67 : decode cX9_lots 67 = .ok (.iload 6, 2) := by decide +kernel
theorem dX9_lots_69 : decode cX9_lots 69 = .ok (.aload_n 3, 1) := by decide +kernel
theorem dX9_lots_70 : decode cX9_lots 70 = .ok (.getfield 151, 3) := by decide +kernel
theorem dX9_lots_73 : decode cX9_lots 73 = .ok (.iload_n 2, 1) := by decide +kernel
theorem dX9_lots_74 : decode cX9_lots 74 = .ok (.iload 6, 2) := by decide +kernel
theorem dX9_lots_76 : decode cX9_lots 76 = .ok (.iadd, 1) := by decide +kernel
theorem dX9_lots_77 : decode cX9_lots 77 = .ok (.iaload, 1) := by decide +kernel
theorem dX9_lots_78 : decode cX9_lots 78 = .ok (.iastore, 1) := by decide +kernel
theorem dX9_lots_79 : decode cX9_lots 79 = .ok (.iload 5, 2) := by decide +kernel
theorem dX9_lots_81 : decode cX9_lots 81 = .ok (.aload_n 3, 1) := by decide +kernel
theorem dX9_lots_82 : decode cX9_lots 82 = .ok (.getfield 151, 3) := by decide +kernel
theorem dX9_lots_85 : decode cX9_lots 85 = .ok (.iload_n 2, 1) := by decide +kernel
theorem dX9_lots_86 : decode cX9_lots 86 = .ok (.iload 6, 2) := by decide +kernel
theorem dX9_lots_88 : decode cX9_lots 88 = .ok (.iadd, 1) := by decide +kernel
theorem dX9_lots_89 : decode cX9_lots 89 = .ok (.iaload, 1) := by decide +kernel
theorem dX9_lots_90 : decode cX9_lots 90 = .ok (.iadd, 1) := by decide +kernel
theorem dX9_lots_91 : decode cX9_lots 91 = .ok (.istore 5, 2) := by decide +kernel
theorem dX9_lots_93 : decode cX9_lots 93 = .ok (.iinc 6 1, 3) := by decide +kernel
theorem dX9_lots_96 : decode cX9_lots 96 = .ok (.goto (-50), 3) := by decide +kernel
theorem dX9_lots_99 : decode cX9_lots 99 = .ok (.iload 5, 2) := by decide +kernel
theorem dX9_lots_101 : decode cX9_lots 101 = .ok (.ireturn, 1) := by decide +kernel
theorem dX9_play_0 : decode cX9_play 0 = .ok (.aload_n 0, 1) := by decide +kernel
theorem dX9_play_1 : decode cX9_play 1 = .ok (.iload_n 1, 1) := by decide +kernel
theorem dX9_play_2 : decode cX9_play 2 = .ok (.invokevirtual 111, 3) := by decide +kernel
theorem dX9_play_5 : decode cX9_play 5 = .ok (.ifCond .ne 19, 3) := by decide +kernel
theorem dX9_play_8 : decode cX9_play 8 = .ok (.aload_n 0, 1) := by decide +kernel
theorem dX9_play_9 : decode cX9_play 9 = .ok (.iload_n 2, 1) := by decide +kernel
theorem dX9_play_10 : decode cX9_play 10 = .ok (.invokevirtual 137, 3) := by decide +kernel
theorem dX9_play_13 : decode cX9_play 13 = .ok (.ifCond .ne 11, 3) := by decide +kernel
theorem dX9_play_16 : decode cX9_play 16 = .ok (.iload_n 3, 1) := by decide +kernel
theorem dX9_play_17 : decode cX9_play 17 = .ok (.iconst 2, 1) := by decide +kernel
theorem dX9_play_18 : decode cX9_play 18 = .ok (.invokestatic 120, 3) := by decide +kernel
theorem dX9_play_21 : decode cX9_play 21 = .ok (.ifCond .eq 5, 3) := by decide +kernel
theorem dX9_play_24 : decode cX9_play 24 = .ok (.iconst (-1), 1) := by decide +kernel
theorem dX9_play_25 : decode cX9_play 25 = .ok (.ireturn, 1) := by decide +kernel
theorem dX9_play_26 : decode cX9_play 26 = .ok (.aload_n 0, 1) := by decide +kernel
theorem dX9_play_27 : decode cX9_play 27 = .ok (.aload_n 0, 1) := by decide +kernel
theorem dX9_play_28 : decode cX9_play 28 = .ok (.getfield 28, 3) := by decide +kernel
theorem dX9_play_31 : decode cX9_play 31 = .ok (.iload_n 1, 1) := by decide +kernel
theorem dX9_play_32 : decode cX9_play 32 = .ok (.aaload, 1) := by decide +kernel
theorem dX9_play_33 : decode cX9_play 33 = .ok (.invokevirtual 159, 3) := by decide +kernel
theorem dX9_play_36 : decode cX9_play 36 = .ok (.iload_n 3, 1) := by decide +kernel
theorem dX9_play_37 : decode cX9_play 37 = .ok (.ifCond .ne 15, 3) := by decide +kernel
theorem dX9_play_40 : decode cX9_play 40 = .ok (.aload_n 0, 1) := by decide +kernel
theorem dX9_play_41 : decode cX9_play 41 = .ok (.getfield 46, 3) := by decide +kernel
theorem dX9_play_44 : decode cX9_play 44 = .ok (.getfield 163, 3) := by decide +kernel
theorem dX9_play_47 : decode cX9_play 47 = .ok (.iload_n 2, 1) := by decide +kernel
theorem dX9_play_48 : decode cX9_play 48 = .ok (.iaload, 1) := by decide +kernel
theorem dX9_play_49 : decode cX9_play 49 = .ok (.goto 29, 3) := by decide +kernel
theorem dX9_play_52 : decode cX9_play 52 = .ok (.iload_n 3, 1) := by decide +kernel
theorem dX9_play_53 : decode cX9_play 53 = .ok (.iconst 1, 1) := by decide +kernel
theorem dX9_play_54 : decode cX9_play 54 = .ok (.if_icmp .ne 15, 3) := by decide +kernel
theorem dX9_play_57 : decode cX9_play 57 = .ok (.aload_n 0, 1) := by decide +kernel
theorem dX9_play_58 : decode cX9_play 58 = .ok (.getfield 46, 3) := by decide +kernel
theorem dX9_play_61 : decode cX9_play 61 = .ok (.getfield 166, 3) := by decide +kernel
theorem dX9_play_64 : decode cX9_play 64 = .ok (.iload_n 2, 1) := by decide +kernel
theorem dX9_play_65 : decode cX9_play 65 = .ok (.iaload, 1) := by decide +kernel
theorem dX9_play_66 : decode cX9_play 66 = .ok (.goto 12, 3) := by decide +kernel
theorem dX9_play_69 : decode cX9_play 69 = .ok (.aload_n 0, 1) := by decide +kernel
theorem dX9_play_70 : decode cX9_play 70 = .ok (.getfield 46, 3) := by decide +kernel
theorem dX9_play_73 : decode cX9_play 73 = .ok (.getfield 169, 3) := by decide +kernel
theorem dX9_play_76 : decode cX9_play 76 = .ok (.iload_n 2, 1) := by decide +kernel
theorem dX9_play_77 : decode cX9_play 77 = .ok (.iaload, 1) := by decide +kernel
theorem dX9_play_78 : decode cX9_play 78 = .ok (.ireturn, 1) := by decide +kernel
theorem dX9_chooses_0 : decode cX9_chooses 0 = .ok (.aload_n 0, 1) := by decide +kernel
theorem dX9_chooses_1 : decode cX9_chooses 1 = .ok (.iload_n 1, 1) := by decide +kernel
theorem dX9_chooses_2 : decode cX9_chooses 2 = .ok (.invokevirtual 111, 3) := by decide +kernel
theorem dX9_chooses_5 : decode cX9_chooses 5 = .ok (.ifCond .ne 29, 3) := by decide +kernel
theorem dX9_chooses_8 : decode cX9_chooses 8 = .ok (.iload_n 2, 1) := by decide +kernel
theorem dX9_chooses_9 : decode cX9_chooses 9 = .ok (.iconst 3, 1) := by decide +kernel
theorem dX9_chooses_10 : decode cX9_chooses 10 = .ok (.invokestatic 120, 3) := by decide +kernel
theorem dX9_chooses_13 : decode cX9_chooses 13 = .ok (.ifCond .ne 21, 3) := by decide +kernel
theorem dX9_chooses_16 : decode cX9_chooses 16 = .ok (.iload_n 3, 1) := by decide +kernel
theorem dX9_chooses_17 : decode cX9_chooses 17 = .ok (.bipush 15, 2) := by decide +kernel
theorem dX9_chooses_19 : decode cX9_chooses 19 = .ok (.invokestatic 120, 3) := by decide +kernel
theorem dX9_chooses_22 : decode cX9_chooses 22 = .ok (.ifCond .ne 12, 3) := by decide +kernel
theorem dX9_chooses_25 : decode cX9_chooses 25 = .ok (.iload 4, 2) := by decide +kernel
theorem dX9_chooses_27 : decode cX9_chooses 27 = .ok (.iconst 1, 1) := by decide +kernel
theorem dX9_chooses_28 : decode cX9_chooses 28 = .ok (.invokestatic 120, 3) := by decide +kernel
theorem dX9_chooses_31 : decode cX9_chooses 31 = .ok (.ifCond .eq 5, 3) := by decide +kernel
theorem dX9_chooses_34 : decode cX9_chooses 34 = .ok (.iconst (-1), 1) := by decide +kernel
theorem dX9_chooses_35 : decode cX9_chooses 35 = .ok (.ireturn, 1) := by decide +kernel
theorem dX9_chooses_36 : decode cX9_chooses 36 = .ok (.aload_n 0, 1) := by decide +kernel
theorem dX9_chooses_37 : decode cX9_chooses 37 = .ok (.getfield 28, 3) := by decide +kernel
theorem dX9_chooses_40 : decode cX9_chooses 40 = .ok (.iload_n 1, 1) := by decide +kernel
theorem dX9_chooses_41 : decode cX9_chooses 41 = .ok (.aaload, 1) := by decide +kernel
theorem dX9_chooses_42 : decode cX9_chooses 42 = .ok (.sipush 255, 3) := by decide +kernel
theorem dX9_chooses_45 : decode cX9_chooses 45 = .ok (.iload_n 2, 1) := by decide +kernel
theorem dX9_chooses_46 : decode cX9_chooses 46 = .ok (.iconst 2, 1) := by decide +kernel
theorem dX9_chooses_47 : decode cX9_chooses 47 = .ok (.iload_n 3, 1) := by decide +kernel
theorem dX9_chooses_48 : decode cX9_chooses 48 = .ok (.imul, 1) := by decide +kernel
theorem dX9_chooses_49 : decode cX9_chooses 49 = .ok (.iload 4, 2) := by decide +kernel
theorem dX9_chooses_51 : decode cX9_chooses 51 = .ok (.iadd, 1) := by decide +kernel
theorem dX9_chooses_52 : decode cX9_chooses 52 = .ok (.invokevirtual 170, 3) := by decide +kernel
theorem dX9_chooses_55 : decode cX9_chooses 55 = .ok (.ireturn, 1) := by decide +kernel
theorem dX9_write_0 : decode cX9_write 0 = .ok (.iload_n 1, 1) := by decide +kernel
theorem dX9_write_1 : decode cX9_write 1 = .ok (.bipush 48, 2) := by decide +kernel
theorem dX9_write_3 : decode cX9_write 3 = .ok (.invokestatic 120, 3) := by decide +kernel
theorem dX9_write_6 : decode cX9_write 6 = .ok (.ifCond .eq 5, 3) := by decide +kernel
theorem dX9_write_9 : decode cX9_write 9 = .ok (.iconst (-1), 1) := by decide +kernel
theorem dX9_write_10 : decode cX9_write 10 = .ok (.ireturn, 1) := by decide +kernel
theorem dX9_write_11 : decode cX9_write 11 = .ok (.aload_n 0, 1) := by decide +kernel
theorem dX9_write_12 : decode cX9_write 12 = .ok (.aload_n 0, 1) := by decide +kernel
theorem dX9_write_13 : decode cX9_write 13 = .ok (.getfield 28, 3) := by decide +kernel
theorem dX9_write_16 : decode cX9_write 16 = .ok (.iconst 0, 1) := by decide +kernel
theorem dX9_write_17 : decode cX9_write 17 = .ok (.aaload, 1) := by decide +kernel
theorem dX9_write_18 : decode cX9_write 18 = .ok (.invokevirtual 159, 3) := by decide +kernel
theorem dX9_write_21 : decode cX9_write 21 = .ok (.aload_n 0, 1) := by decide +kernel
theorem dX9_write_22 : decode cX9_write 22 = .ok (.getfield 53, 3) := by decide +kernel
theorem dX9_write_25 : decode cX9_write 25 = .ok (.iconst 0, 1) := by decide +kernel
theorem dX9_write_26 : decode cX9_write 26 = .ok (.putfield 173, 3) := by decide +kernel
theorem dX9_write_29 : decode cX9_write 29 = .ok (.iconst 0, 1) := by decide +kernel
theorem dX9_write_30 : decode cX9_write 30 = .ok (.istore_n 2, 1) := by decide +kernel
theorem dX9_write_31 : decode cX9_write 31 = .ok (.iload_n 2, 1) := by decide +kernel
theorem dX9_write_32 : decode cX9_write 32 = .ok (.aload_n 0, 1) := by decide +kernel
theorem dX9_write_33 : decode cX9_write 33 = .ok (.getfield 39, 3) := by decide +kernel
theorem dX9_write_36 : decode cX9_write 36 = .ok (.getfield 133, 3) := by decide +kernel
theorem dX9_write_39 : decode cX9_write 39 = .ok (.if_icmp .ge 81, 3) := by decide +kernel
theorem dX9_write_42 : decode cX9_write 42 = .ok (.aload_n 0, 1) := by decide +kernel
theorem dX9_write_43 : decode cX9_write 43 = .ok (.getfield 53, 3) := by decide +kernel
theorem dX9_write_46 : decode cX9_write 46 = .ok (.iconst 0, 1) := by decide +kernel
theorem dX9_write_47 : decode cX9_write 47 = .ok (.iload_n 2, 1) := by decide +kernel
theorem dX9_write_48 : decode cX9_write 48 = .ok (.aload_n 0, 1) := by decide +kernel
theorem dX9_write_49 : decode cX9_write 49 = .ok (.getfield 46, 3) := by decide +kernel
theorem dX9_write_52 : decode cX9_write 52 = .ok (.getfield 174, 3) := by decide +kernel
theorem dX9_write_55 : decode cX9_write 55 = .ok (.iload_n 2, 1) := by decide +kernel
theorem dX9_write_56 : decode cX9_write 56 = .ok (.iaload, 1) := by decide +kernel
theorem dX9_write_57 : decode cX9_write 57 = .ok (.invokevirtual 177, 3) := by decide +kernel
theorem dX9_write_60 : decode cX9_write 60 = .ok (.aload_n 0, 1) := by decide +kernel
theorem dX9_write_61 : decode cX9_write 61 = .ok (.getfield 53, 3) := by decide +kernel
theorem dX9_write_64 : decode cX9_write 64 = .ok (.iconst 3, 1) := by decide +kernel
theorem dX9_write_65 : decode cX9_write 65 = .ok (.iload_n 2, 1) := by decide +kernel
theorem dX9_write_66 : decode cX9_write 66 = .ok (.aload_n 0, 1) := by decide +kernel
theorem dX9_write_67 : decode cX9_write 67 = .ok (.getfield 46, 3) := by decide +kernel
theorem dX9_write_70 : decode cX9_write 70 = .ok (.getfield 180, 3) := by decide +kernel
theorem dX9_write_73 : decode cX9_write 73 = .ok (.iload_n 2, 1) := by decide +kernel
theorem dX9_write_74 : decode cX9_write 74 = .ok (.iaload, 1) := by decide +kernel
theorem dX9_write_75 : decode cX9_write 75 = .ok (.invokevirtual 177, 3) := by decide +kernel
theorem dX9_write_78 : decode cX9_write 78 = .ok (.aload_n 0, 1) := by decide +kernel
theorem dX9_write_79 : decode cX9_write 79 = .ok (.getfield 53, 3) := by decide +kernel
theorem dX9_write_82 : decode cX9_write 82 = .ok (.iconst 1, 1) := by decide +kernel
theorem dX9_write_83 : decode cX9_write 83 = .ok (.iload_n 2, 1) := by decide +kernel
theorem dX9_write_84 : decode cX9_write 84 = .ok (.aload_n 0, 1) := by decide +kernel
theorem dX9_write_85 : decode cX9_write 85 = .ok (.getfield 46, 3) := by decide +kernel
theorem dX9_write_88 : decode cX9_write 88 = .ok (.getfield 166, 3) := by decide +kernel
theorem dX9_write_91 : decode cX9_write 91 = .ok (.iload_n 2, 1) := by decide +kernel
theorem dX9_write_92 : decode cX9_write 92 = .ok (.iaload, 1) := by decide +kernel
theorem dX9_write_93 : decode cX9_write 93 = .ok (.invokevirtual 177, 3) := by decide +kernel
theorem dX9_write_96 : decode cX9_write 96 = .ok (.aload_n 0, 1) := by decide +kernel
theorem dX9_write_97 : decode cX9_write 97 = .ok (.getfield 53, 3) := by decide +kernel
theorem dX9_write_100 : decode cX9_write 100 = .ok (.iconst 2, 1) := by decide +kernel
theorem dX9_write_101 : decode cX9_write 101 = .ok (.iload_n 2, 1) := by decide +kernel
theorem dX9_write_102 : decode cX9_write 102 = .ok (.aload_n 0, 1) := by decide +kernel
theorem dX9_write_103 : decode cX9_write 103 = .ok (.getfield 46, 3) := by decide +kernel
theorem dX9_write_106 : decode cX9_write 106 = .ok (.getfield 169, 3) := by decide +kernel
theorem dX9_write_109 : decode cX9_write 109 = .ok (.iload_n 2, 1) := by decide +kernel
theorem dX9_write_110 : decode cX9_write 110 = .ok (.iaload, 1) := by decide +kernel
theorem dX9_write_111 : decode cX9_write 111 = .ok (.invokevirtual 177, 3) := by decide +kernel
theorem dX9_write_114 : decode cX9_write 114 = .ok (.iinc 2 1, 3) := by decide +kernel
theorem dX9_write_117 : decode cX9_write 117 = .ok (.goto (-86), 3) := by decide +kernel
theorem dX9_write_120 : decode cX9_write 120 = .ok (.iconst 0, 1) := by decide +kernel
theorem dX9_write_121 : decode cX9_write 121 = .ok (.aload_n 0, 1) := by decide +kernel
theorem dX9_write_122 : decode cX9_write 122 = .ok (.getfield 53, 3) := by decide +kernel
theorem dX9_write_125 : decode cX9_write 125 = .ok (.getfield 173, 3) := by decide +kernel
theorem dX9_write_128 : decode cX9_write 128 = .ok (.iload_n 1, 1) := by decide +kernel
theorem dX9_write_129 : decode cX9_write 129 = .ok (.isub, 1) := by decide +kernel
theorem dX9_write_130 : decode cX9_write 130 = .ok (.invokestatic 183, 3) := by decide +kernel
theorem dX9_write_133 : decode cX9_write 133 = .ok (.istore_n 2, 1) := by decide +kernel
theorem dX9_write_134 : decode cX9_write 134 = .ok (.aload_n 0, 1) := by decide +kernel
theorem dX9_write_135 : decode cX9_write 135 = .ok (.getfield 53, 3) := by decide +kernel
theorem dX9_write_138 : decode cX9_write 138 = .ok (.iload_n 2, 1) := by decide +kernel
theorem dX9_write_139 : decode cX9_write 139 = .ok (.invokevirtual 189, 3) := by decide +kernel
theorem dX9_write_142 : decode cX9_write 142 = .ok (.aload_n 0, 1) := by decide +kernel
theorem dX9_write_143 : decode cX9_write 143 = .ok (.getfield 53, 3) := by decide +kernel
theorem dX9_write_146 : decode cX9_write 146 = .ok (.invokevirtual 192, 3) := by decide +kernel
theorem dX9_write_149 : decode cX9_write 149 = .ok (.iload_n 2, 1) := by decide +kernel
theorem dX9_write_150 : decode cX9_write 150 = .ok (.ireturn, 1) := by decide +kernel
theorem dX9_tell_0 : decode cX9_tell 0 = .ok (.iload_n 1, 1) := by decide +kernel
theorem dX9_tell_1 : decode cX9_tell 1 = .ok (.bipush 11, 2) := by decide +kernel
theorem dX9_tell_3 : decode cX9_tell 3 = .ok (.invokestatic 120, 3) := by decide +kernel
theorem dX9_tell_6 : decode cX9_tell 6 = .ok (.ifCond .ne 12, 3) := by decide +kernel
theorem dX9_tell_9 : decode cX9_tell 9 = .ok (.iload_n 2, 1) := by decide +kernel
theorem dX9_tell_10 : decode cX9_tell 10 = .ok (.bipush 99, 2) := by decide +kernel
theorem dX9_tell_12 : decode cX9_tell 12 = .ok (.invokestatic 120, 3) := by decide +kernel
theorem dX9_tell_15 : decode cX9_tell 15 = .ok (.ifCond .eq 5, 3) := by decide +kernel
theorem dX9_tell_18 : decode cX9_tell 18 = .ok (.iconst (-1), 1) := by decide +kernel
theorem dX9_tell_19 : decode cX9_tell 19 = .ok (.ireturn, 1) := by decide +kernel
theorem dX9_tell_20 : decode cX9_tell 20 = .ok (.aload_n 0, 1) := by decide +kernel
theorem dX9_tell_21 : decode cX9_tell 21 = .ok (.getfield 53, 3) := by decide +kernel
theorem dX9_tell_24 : decode cX9_tell 24 = .ok (.getfield 173, 3) := by decide +kernel
theorem dX9_tell_27 : decode cX9_tell 27 = .ok (.bipush 48, 2) := by decide +kernel
theorem dX9_tell_29 : decode cX9_tell 29 = .ok (.if_icmp .lt 6, 3) := by decide +kernel
theorem dX9_tell_32 : decode cX9_tell 32 = .ok (.bipush (-3), 2) := by decide +kernel
theorem dX9_tell_34 : decode cX9_tell 34 = .ok (.ireturn, 1) := by decide +kernel
theorem dX9_tell_35 : decode cX9_tell 35 = .ok (.aload_n 0, 1) := by decide +kernel
theorem dX9_tell_36 : decode cX9_tell 36 = .ok (.getfield 53, 3) := by decide +kernel
theorem dX9_tell_39 : decode cX9_tell 39 = .ok (.iconst 4, 1) := by decide +kernel
theorem dX9_tell_40 : decode cX9_tell 40 = .ok (.iload_n 1, 1) := by decide +kernel
theorem dX9_tell_41 : decode cX9_tell 41 = .ok (.iload_n 2, 1) := by decide +kernel
theorem dX9_tell_42 : decode cX9_tell 42 = .ok (.invokevirtual 177, 3) := by decide +kernel
theorem dX9_tell_45 : decode cX9_tell 45 = .ok (.aload_n 0, 1) := by decide +kernel
theorem dX9_tell_46 : decode cX9_tell 46 = .ok (.getfield 53, 3) := by decide +kernel
theorem dX9_tell_49 : decode cX9_tell 49 = .ok (.invokevirtual 192, 3) := by decide +kernel
theorem dX9_tell_52 : decode cX9_tell 52 = .ok (.aload_n 0, 1) := by decide +kernel
theorem dX9_tell_53 : decode cX9_tell 53 = .ok (.getfield 53, 3) := by decide +kernel
theorem dX9_tell_56 : decode cX9_tell 56 = .ok (.getfield 173, 3) := by decide +kernel
theorem dX9_tell_59 : decode cX9_tell 59 = .ok (.iconst 1, 1) := by decide +kernel
theorem dX9_tell_60 : decode cX9_tell 60 = .ok (.isub, 1) := by decide +kernel
theorem dX9_tell_61 : decode cX9_tell 61 = .ok (.ireturn, 1) := by decide +kernel
theorem dX9_line_0 : decode cX9_line 0 = .ok (.aload_n 0, 1) := by decide +kernel
theorem dX9_line_1 : decode cX9_line 1 = .ok (.iload_n 1, 1) := by decide +kernel
theorem dX9_line_2 : decode cX9_line 2 = .ok (.invokevirtual 195, 3) := by decide +kernel
theorem dX9_line_5 : decode cX9_line 5 = .ok (.ifCond .ne 11, 3) := by decide +kernel
theorem dX9_line_8 : decode cX9_line 8 = .ok (.iload_n 2, 1) := by decide +kernel
theorem dX9_line_9 : decode cX9_line 9 = .ok (.iconst 4, 1) := by decide +kernel
theorem dX9_line_10 : decode cX9_line 10 = .ok (.invokestatic 120, 3) := by decide +kernel
theorem dX9_line_13 : decode cX9_line 13 = .ok (.ifCond .eq 5, 3) := by decide +kernel
theorem dX9_line_16 : decode cX9_line 16 = .ok (.iconst (-1), 1) := by decide +kernel
theorem dX9_line_17 : decode cX9_line 17 = .ok (.ireturn, 1) := by decide +kernel
theorem dX9_line_18 : decode cX9_line 18 = .ok (.iload_n 2, 1) := by decide +kernel
theorem dX9_line_19 : decode cX9_line 19 = .ok (.iconst 2, 1) := by decide +kernel
theorem dX9_line_20 : decode cX9_line 20 = .ok (.if_icmp .ne 21, 3) := by decide +kernel
theorem dX9_line_23 : decode cX9_line 23 = .ok (.aload_n 0, 1) := by decide +kernel
theorem dX9_line_24 : decode cX9_line 24 = .ok (.getfield 53, 3) := by decide +kernel
theorem dX9_line_27 : decode cX9_line 27 = .ok (.getfield 198, 3) := by decide +kernel
theorem dX9_line_30 : decode cX9_line 30 = .ok (.iconst 0, 1) := by decide +kernel
theorem dX9_line_31 : decode cX9_line 31 = .ok (.aaload, 1) := by decide +kernel
theorem dX9_line_32 : decode cX9_line 32 = .ok (.iload_n 1, 1) := by decide +kernel
theorem dX9_line_33 : decode cX9_line 33 = .ok (.iaload, 1) := by decide +kernel
theorem dX9_line_34 : decode cX9_line 34 = .ok (.iconst 5, 1) := by decide +kernel
theorem dX9_line_35 : decode cX9_line 35 = .ok (.if_icmp .ne 6, 3) := by decide +kernel
theorem dX9_line_38 : decode cX9_line 38 = .ok (.bipush (-12), 2) := by decide +kernel
theorem dX9_line_40 : decode cX9_line 40 = .ok (.ireturn, 1) := by decide +kernel
theorem dX9_line_41 : decode cX9_line 41 = .ok (.iload_n 2, 1) := by decide +kernel
theorem dX9_line_42 : decode cX9_line 42 = .ok (.iconst 4, 1) := by decide +kernel
theorem dX9_line_43 : decode cX9_line 43 = .ok (.if_icmp .ne 21, 3) := by decide +kernel
theorem dX9_line_46 : decode cX9_line 46 = .ok (.aload_n 0, 1) := by decide +kernel
theorem dX9_line_47 : decode cX9_line 47 = .ok (.iload_n 1, 1) := by decide +kernel
theorem dX9_line_48 : decode cX9_line 48 = .ok (.aload_n 0, 1) := by decide +kernel
theorem dX9_line_49 : decode cX9_line 49 = .ok (.invokevirtual 201, 3) := by decide +kernel
theorem dX9_line_52 : decode cX9_line 52 = .ok (.invokevirtual 205, 3) := by decide +kernel
theorem dX9_line_55 : decode cX9_line 55 = .ok (.ifCond .eq 7, 3) := by decide +kernel
theorem dX9_line_58 : decode cX9_line 58 = .ok (.iconst 1, 1) := by decide +kernel
theorem dX9_line_59 : decode cX9_line 59 = .ok (.goto 4, 3) := by decide +kernel
theorem dX9_line_62 : decode cX9_line 62 = .ok (.iconst 0, 1) := by decide +kernel
theorem dX9_line_63 : decode cX9_line 63 = .ok (.ireturn, 1) := by decide +kernel
theorem dX9_line_64 : decode cX9_line 64 = .ok (.aload_n 0, 1) := by decide +kernel
theorem dX9_line_65 : decode cX9_line 65 = .ok (.getfield 53, 3) := by decide +kernel
theorem dX9_line_68 : decode cX9_line 68 = .ok (.getfield 198, 3) := by decide +kernel
theorem dX9_line_71 : decode cX9_line 71 = .ok (.iload_n 2, 1) := by decide +kernel
theorem dX9_line_72 : decode cX9_line 72 = .ok (.aaload, 1) := by decide +kernel
theorem dX9_line_73 : decode cX9_line 73 = .ok (.iload_n 1, 1) := by decide +kernel
theorem dX9_line_74 : decode cX9_line 74 = .ok (.iaload, 1) := by decide +kernel
theorem dX9_line_75 : decode cX9_line 75 = .ok (.ireturn, 1) := by decide +kernel
theorem dX9_forge_0 : decode cX9_forge 0 = .ok (.aload_n 0, 1) := by decide +kernel
theorem dX9_forge_1 : decode cX9_forge 1 = .ok (.iload_n 1, 1) := by decide +kernel
theorem dX9_forge_2 : decode cX9_forge 2 = .ok (.invokevirtual 195, 3) := by decide +kernel
theorem dX9_forge_5 : decode cX9_forge 5 = .ok (.ifCond .ne 25, 3) := by decide +kernel
theorem dX9_forge_8 : decode cX9_forge 8 = .ok (.iload_n 2, 1) := by decide +kernel
theorem dX9_forge_9 : decode cX9_forge 9 = .ok (.getstatic 208, 3) := by decide +kernel
theorem dX9_forge_12 : decode cX9_forge 12 = .ok (.aload_n 0, 1) := by decide +kernel
theorem dX9_forge_13 : decode cX9_forge 13 = .ok (.getfield 53, 3) := by decide +kernel
theorem dX9_forge_16 : decode cX9_forge 16 = .ok (.getfield 198, 3) := by decide +kernel
theorem dX9_forge_19 : decode cX9_forge 19 = .ok (.iconst 0, 1) := by decide +kernel
theorem dX9_forge_20 : decode cX9_forge 20 = .ok (.aaload, 1) := by decide +kernel
theorem dX9_forge_21 : decode cX9_forge 21 = .ok (.iload_n 1, 1) := by decide +kernel
theorem dX9_forge_22 : decode cX9_forge 22 = .ok (.iaload, 1) := by decide +kernel
theorem dX9_forge_23 : decode cX9_forge 23 = .ok (.iaload, 1) := by decide +kernel
theorem dX9_forge_24 : decode cX9_forge 24 = .ok (.invokestatic 120, 3) := by decide +kernel
theorem dX9_forge_27 : decode cX9_forge 27 = .ok (.ifCond .eq 5, 3) := by decide +kernel
theorem dX9_forge_30 : decode cX9_forge 30 = .ok (.iconst (-1), 1) := by decide +kernel
theorem dX9_forge_31 : decode cX9_forge 31 = .ok (.ireturn, 1) := by decide +kernel
theorem dX9_forge_32 : decode cX9_forge 32 = .ok (.aload_n 0, 1) := by decide +kernel
theorem dX9_forge_33 : decode cX9_forge 33 = .ok (.getfield 53, 3) := by decide +kernel
theorem dX9_forge_36 : decode cX9_forge 36 = .ok (.getfield 198, 3) := by decide +kernel
theorem dX9_forge_39 : decode cX9_forge 39 = .ok (.iconst 0, 1) := by decide +kernel
theorem dX9_forge_40 : decode cX9_forge 40 = .ok (.aaload, 1) := by decide +kernel
theorem dX9_forge_41 : decode cX9_forge 41 = .ok (.iload_n 1, 1) := by decide +kernel
theorem dX9_forge_42 : decode cX9_forge 42 = .ok (.iaload, 1) := by decide +kernel
theorem dX9_forge_43 : decode cX9_forge 43 = .ok (.iconst 5, 1) := by decide +kernel
theorem dX9_forge_44 : decode cX9_forge 44 = .ok (.if_icmp .ne 6, 3) := by decide +kernel
theorem dX9_forge_47 : decode cX9_forge 47 = .ok (.bipush (-12), 2) := by decide +kernel
theorem dX9_forge_49 : decode cX9_forge 49 = .ok (.ireturn, 1) := by decide +kernel
theorem dX9_forge_50 : decode cX9_forge 50 = .ok (.aload_n 0, 1) := by decide +kernel
theorem dX9_forge_51 : decode cX9_forge 51 = .ok (.getfield 53, 3) := by decide +kernel
theorem dX9_forge_54 : decode cX9_forge 54 = .ok (.getfield 198, 3) := by decide +kernel
theorem dX9_forge_57 : decode cX9_forge 57 = .ok (.iconst 2, 1) := by decide +kernel
theorem dX9_forge_58 : decode cX9_forge 58 = .ok (.aaload, 1) := by decide +kernel
theorem dX9_forge_59 : decode cX9_forge 59 = .ok (.iload_n 1, 1) := by decide +kernel
theorem dX9_forge_60 : decode cX9_forge 60 = .ok (.iaload, 1) := by decide +kernel
theorem dX9_forge_61 : decode cX9_forge 61 = .ok (.istore_n 3, 1) := by decide +kernel
theorem dX9_forge_62 : decode cX9_forge 62 = .ok (.aload_n 0, 1) := by decide +kernel
theorem dX9_forge_63 : decode cX9_forge 63 = .ok (.getfield 53, 3) := by decide +kernel
theorem dX9_forge_66 : decode cX9_forge 66 = .ok (.getfield 198, 3) := by decide +kernel
theorem dX9_forge_69 : decode cX9_forge 69 = .ok (.iconst 2, 1) := by decide +kernel
theorem dX9_forge_70 : decode cX9_forge 70 = .ok (.aaload, 1) := by decide +kernel
theorem dX9_forge_71 : decode cX9_forge 71 = .ok (.iload_n 1, 1) := by decide +kernel
theorem dX9_forge_72 : decode cX9_forge 72 = .ok (.iload_n 2, 1) := by decide +kernel
theorem dX9_forge_73 : decode cX9_forge 73 = .ok (.iastore, 1) := by decide +kernel
theorem dX9_forge_74 : decode cX9_forge 74 = .ok (.aload_n 0, 1) := by decide +kernel
theorem dX9_forge_75 : decode cX9_forge 75 = .ok (.getfield 53, 3) := by decide +kernel
theorem dX9_forge_78 : decode cX9_forge 78 = .ok (.invokevirtual 192, 3) := by decide +kernel
theorem dX9_forge_81 : decode cX9_forge 81 = .ok (.iload_n 3, 1) := by decide +kernel
theorem dX9_forge_82 : decode cX9_forge 82 = .ok (.ireturn, 1) := by decide +kernel
theorem dX9_swap_0 : decode cX9_swap 0 = .ok (.aload_n 0, 1) := by decide +kernel
theorem dX9_swap_1 : decode cX9_swap 1 = .ok (.iload_n 1, 1) := by decide +kernel
theorem dX9_swap_2 : decode cX9_swap 2 = .ok (.invokevirtual 195, 3) := by decide +kernel
theorem dX9_swap_5 : decode cX9_swap 5 = .ok (.ifCond .ne 16, 3) := by decide +kernel
theorem dX9_swap_8 : decode cX9_swap 8 = .ok (.aload_n 0, 1) := by decide +kernel
theorem dX9_swap_9 : decode cX9_swap 9 = .ok (.iload_n 2, 1) := by decide +kernel
theorem dX9_swap_10 : decode cX9_swap 10 = .ok (.invokevirtual 195, 3) := by decide +kernel
theorem dX9_swap_13 : decode cX9_swap 13 = .ok (.ifCond .ne 8, 3) := by decide +kernel
theorem dX9_swap_16 : decode cX9_swap 16 = .ok (.iload_n 1, 1) := by decide +kernel
theorem dX9_swap_17 : decode cX9_swap 17 = .ok (.iload_n 2, 1) := by decide +kernel
theorem dX9_swap_18 : decode cX9_swap 18 = .ok (.if_icmp .ne 5, 3) := by decide +kernel
theorem dX9_swap_21 : decode cX9_swap 21 = .ok (.iconst (-1), 1) := by decide +kernel
theorem dX9_swap_22 : decode cX9_swap 22 = .ok (.ireturn, 1) := by decide +kernel
theorem dX9_swap_23 : decode cX9_swap 23 = .ok (.aload_n 0, 1) := by decide +kernel
theorem dX9_swap_24 : decode cX9_swap 24 = .ok (.getfield 53, 3) := by decide +kernel
theorem dX9_swap_27 : decode cX9_swap 27 = .ok (.iload_n 1, 1) := by decide +kernel
theorem dX9_swap_28 : decode cX9_swap 28 = .ok (.iload_n 2, 1) := by decide +kernel
theorem dX9_swap_29 : decode cX9_swap 29 = .ok (.invokevirtual 211, 3) := by decide +kernel
theorem dX9_swap_32 : decode cX9_swap 32 = .ok (.aload_n 0, 1) := by decide +kernel
theorem dX9_swap_33 : decode cX9_swap 33 = .ok (.getfield 53, 3) := by decide +kernel
theorem dX9_swap_36 : decode cX9_swap 36 = .ok (.invokevirtual 192, 3) := by decide +kernel
theorem dX9_swap_39 : decode cX9_swap 39 = .ok (.iconst 1, 1) := by decide +kernel
theorem dX9_swap_40 : decode cX9_swap 40 = .ok (.ireturn, 1) := by decide +kernel
theorem dX9_tear_0 : decode cX9_tear 0 = .ok (.aload_n 0, 1) := by decide +kernel
theorem dX9_tear_1 : decode cX9_tear 1 = .ok (.iload_n 1, 1) := by decide +kernel
theorem dX9_tear_2 : decode cX9_tear 2 = .ok (.invokevirtual 195, 3) := by decide +kernel
theorem dX9_tear_5 : decode cX9_tear 5 = .ok (.ifCond .eq 5, 3) := by decide +kernel
theorem dX9_tear_8 : decode cX9_tear 8 = .ok (.iconst (-1), 1) := by decide +kernel
theorem dX9_tear_9 : decode cX9_tear 9 = .ok (.ireturn, 1) := by decide +kernel
theorem dX9_tear_10 : decode cX9_tear 10 = .ok (.aload_n 0, 1) := by decide +kernel
theorem dX9_tear_11 : decode cX9_tear 11 = .ok (.getfield 53, 3) := by decide +kernel
theorem dX9_tear_14 : decode cX9_tear 14 = .ok (.iload_n 1, 1) := by decide +kernel
theorem dX9_tear_15 : decode cX9_tear 15 = .ok (.invokevirtual 215, 3) := by decide +kernel
theorem dX9_tear_18 : decode cX9_tear 18 = .ok (.aload_n 0, 1) := by decide +kernel
end
section
theorem dX9_tear_19 : decode cX9_tear 19 = .ok (.getfield 53, 3) := by decide +kernel
theorem dX9_tear_22 : decode cX9_tear 22 = .ok (.invokevirtual 192, 3) := by decide +kernel
theorem dX9_tear_25 : decode cX9_tear 25 = .ok (.aload_n 0, 1) := by decide +kernel
theorem dX9_tear_26 : decode cX9_tear 26 = .ok (.getfield 53, 3) := by decide +kernel
theorem dX9_tear_29 : decode cX9_tear 29 = .ok (.getfield 173, 3) := by decide +kernel
theorem dX9_tear_32 : decode cX9_tear 32 = .ok (.ireturn, 1) := by decide +kernel
theorem dX9_give_0 : decode cX9_give 0 = .ok (.aload_n 0, 1) := by decide +kernel
theorem dX9_give_1 : decode cX9_give 1 = .ok (.iload_n 1, 1) := by decide +kernel
theorem dX9_give_2 : decode cX9_give 2 = .ok (.invokevirtual 218, 3) := by decide +kernel
theorem dX9_give_5 : decode cX9_give 5 = .ok (.ifCond .eq 5, 3) := by decide +kernel
theorem dX9_give_8 : decode cX9_give 8 = .ok (.iconst (-1), 1) := by decide +kernel
theorem dX9_give_9 : decode cX9_give 9 = .ok (.ireturn, 1) := by decide +kernel
theorem dX9_give_10 : decode cX9_give 10 = .ok (.aload_n 0, 1) := by decide +kernel
theorem dX9_give_11 : decode cX9_give 11 = .ok (.getfield 60, 3) := by decide +kernel
theorem dX9_give_14 : decode cX9_give 14 = .ok (.iload_n 1, 1) := by decide +kernel
theorem dX9_give_15 : decode cX9_give 15 = .ok (.aaload, 1) := by decide +kernel
theorem dX9_give_16 : decode cX9_give 16 = .ok (.aload_n 0, 1) := by decide +kernel
theorem dX9_give_17 : decode cX9_give 17 = .ok (.getfield 53, 3) := by decide +kernel
theorem dX9_give_20 : decode cX9_give 20 = .ok (.invokevirtual 221, 3) := by decide +kernel
theorem dX9_give_23 : decode cX9_give 23 = .ok (.aload_n 0, 1) := by decide +kernel
theorem dX9_give_24 : decode cX9_give 24 = .ok (.getfield 53, 3) := by decide +kernel
theorem dX9_give_27 : decode cX9_give 27 = .ok (.getfield 173, 3) := by decide +kernel
theorem dX9_give_30 : decode cX9_give 30 = .ok (.ireturn, 1) := by decide +kernel
theorem dX9_kept_0 : decode cX9_kept 0 = .ok (.aload_n 0, 1) := by decide +kernel
theorem dX9_kept_1 : decode cX9_kept 1 = .ok (.iload_n 1, 1) := by decide +kernel
theorem dX9_kept_2 : decode cX9_kept 2 = .ok (.invokevirtual 218, 3) := by decide +kernel
theorem dX9_kept_5 : decode cX9_kept 5 = .ok (.ifCond .ne 12, 3) := by decide +kernel
theorem dX9_kept_8 : decode cX9_kept 8 = .ok (.iload_n 2, 1) := by decide +kernel
theorem dX9_kept_9 : decode cX9_kept 9 = .ok (.bipush 47, 2) := by decide +kernel
theorem dX9_kept_11 : decode cX9_kept 11 = .ok (.invokestatic 120, 3) := by decide +kernel
theorem dX9_kept_14 : decode cX9_kept 14 = .ok (.ifCond .eq 5, 3) := by decide +kernel
theorem dX9_kept_17 : decode cX9_kept 17 = .ok (.iconst (-1), 1) := by decide +kernel
theorem dX9_kept_18 : decode cX9_kept 18 = .ok (.ireturn, 1) := by decide +kernel
theorem dX9_kept_19 : decode cX9_kept 19 = .ok (.iload_n 2, 1) := by decide +kernel
theorem dX9_kept_20 : decode cX9_kept 20 = .ok (.aload_n 0, 1) := by decide +kernel
theorem dX9_kept_21 : decode cX9_kept 21 = .ok (.getfield 60, 3) := by decide +kernel
theorem dX9_kept_24 : decode cX9_kept 24 = .ok (.iload_n 1, 1) := by decide +kernel
theorem dX9_kept_25 : decode cX9_kept 25 = .ok (.aaload, 1) := by decide +kernel
theorem dX9_kept_26 : decode cX9_kept 26 = .ok (.getfield 225, 3) := by decide +kernel
theorem dX9_kept_29 : decode cX9_kept 29 = .ok (.if_icmp .ge 17, 3) := by decide +kernel
theorem dX9_kept_32 : decode cX9_kept 32 = .ok (.aload_n 0, 1) := by decide +kernel
theorem dX9_kept_33 : decode cX9_kept 33 = .ok (.getfield 60, 3) := by decide +kernel
theorem dX9_kept_36 : decode cX9_kept 36 = .ok (.iload_n 1, 1) := by decide +kernel
theorem dX9_kept_37 : decode cX9_kept 37 = .ok (.aaload, 1) := by decide +kernel
theorem dX9_kept_38 : decode cX9_kept 38 = .ok (.getfield 226, 3) := by decide +kernel
theorem dX9_kept_41 : decode cX9_kept 41 = .ok (.iload_n 2, 1) := by decide +kernel
theorem dX9_kept_42 : decode cX9_kept 42 = .ok (.iaload, 1) := by decide +kernel
theorem dX9_kept_43 : decode cX9_kept 43 = .ok (.goto 5, 3) := by decide +kernel
theorem dX9_kept_46 : decode cX9_kept 46 = .ok (.bipush (-4), 2) := by decide +kernel
theorem dX9_kept_48 : decode cX9_kept 48 = .ok (.ireturn, 1) := by decide +kernel
theorem dX9_torn_0 : decode cX9_torn 0 = .ok (.aload_n 0, 1) := by decide +kernel
theorem dX9_torn_1 : decode cX9_torn 1 = .ok (.invokevirtual 201, 3) := by decide +kernel
theorem dX9_torn_4 : decode cX9_torn 4 = .ok (.istore_n 1, 1) := by decide +kernel
theorem dX9_torn_5 : decode cX9_torn 5 = .ok (.iload_n 1, 1) := by decide +kernel
theorem dX9_torn_6 : decode cX9_torn 6 = .ok (.ifCond .ne 6, 3) := by decide +kernel
theorem dX9_torn_9 : decode cX9_torn 9 = .ok (.bipush (-2), 2) := by decide +kernel
theorem dX9_torn_11 : decode cX9_torn 11 = .ok (.ireturn, 1) := by decide +kernel
theorem dX9_torn_12 : decode cX9_torn 12 = .ok (.iconst 0, 1) := by decide +kernel
theorem dX9_torn_13 : decode cX9_torn 13 = .ok (.istore_n 2, 1) := by decide +kernel
theorem dX9_torn_14 : decode cX9_torn 14 = .ok (.iload_n 2, 1) := by decide +kernel
theorem dX9_torn_15 : decode cX9_torn 15 = .ok (.aload_n 0, 1) := by decide +kernel
theorem dX9_torn_16 : decode cX9_torn 16 = .ok (.getfield 53, 3) := by decide +kernel
theorem dX9_torn_19 : decode cX9_torn 19 = .ok (.getfield 173, 3) := by decide +kernel
theorem dX9_torn_22 : decode cX9_torn 22 = .ok (.if_icmp .ge 20, 3) := by decide +kernel
theorem dX9_torn_25 : decode cX9_torn 25 = .ok (.aload_n 0, 1) := by decide +kernel
theorem dX9_torn_26 : decode cX9_torn 26 = .ok (.iload_n 2, 1) := by decide +kernel
theorem dX9_torn_27 : decode cX9_torn 27 = .ok (.iload_n 1, 1) := by decide +kernel
theorem dX9_torn_28 : decode cX9_torn 28 = .ok (.invokevirtual 205, 3) := by decide +kernel
theorem dX9_torn_31 : decode cX9_torn 31 = .ok (.ifCond .ne 5, 3) := by decide +kernel
theorem dX9_torn_34 : decode cX9_torn 34 = .ok (.iload_n 2, 1) := by decide +kernel
theorem dX9_torn_35 : decode cX9_torn 35 = .ok (.ireturn, 1) := by decide +kernel
theorem dX9_torn_36 : decode cX9_torn 36 = .ok (.iinc 2 1, 3) := by decide +kernel
theorem dX9_torn_39 : decode cX9_torn 39 = .ok (.goto (-25), 3) := by decide +kernel
theorem dX9_torn_42 : decode cX9_torn 42 = .ok (.bipush (-4), 2) := by decide +kernel
theorem dX9_torn_44 : decode cX9_torn 44 = .ok (.ireturn, 1) := by decide +kernel
theorem dX9_differs_0 : decode cX9_differs 0 = .ok (.aload_n 0, 1) := by decide +kernel
theorem dX9_differs_1 : decode cX9_differs 1 = .ok (.getfield 46, 3) := by decide +kernel
theorem dX9_differs_4 : decode cX9_differs 4 = .ok (.aload_n 0, 1) := by decide +kernel
theorem dX9_differs_5 : decode cX9_differs 5 = .ok (.getfield 39, 3) := by decide +kernel
theorem dX9_differs_8 : decode cX9_differs 8 = .ok (.invokevirtual 229, 3) := by decide +kernel
theorem dX9_differs_11 : decode cX9_differs 11 = .ok (.aload_n 0, 1) := by decide +kernel
theorem dX9_differs_12 : decode cX9_differs 12 = .ok (.invokevirtual 233, 3) := by decide +kernel
theorem dX9_differs_15 : decode cX9_differs 15 = .ok (.aload_n 0, 1) := by decide +kernel
theorem dX9_differs_16 : decode cX9_differs 16 = .ok (.getfield 46, 3) := by decide +kernel
theorem dX9_differs_19 : decode cX9_differs 19 = .ok (.aload_n 0, 1) := by decide +kernel
theorem dX9_differs_20 : decode cX9_differs 20 = .ok (.getfield 28, 3) := by decide +kernel
theorem dX9_differs_23 : decode cX9_differs 23 = .ok (.iconst 0, 1) := by decide +kernel
theorem dX9_differs_24 : decode cX9_differs 24 = .ok (.aaload, 1) := by decide +kernel
theorem dX9_differs_25 : decode cX9_differs 25 = .ok (.sipush 255, 3) := by decide +kernel
theorem dX9_differs_28 : decode cX9_differs 28 = .ok (.aload_n 0, 1) := by decide +kernel
theorem dX9_differs_29 : decode cX9_differs 29 = .ok (.getfield 39, 3) := by decide +kernel
theorem dX9_differs_32 : decode cX9_differs 32 = .ok (.getfield 133, 3) := by decide +kernel
theorem dX9_differs_35 : decode cX9_differs 35 = .ok (.invokevirtual 236, 3) := by decide +kernel
theorem dX9_differs_38 : decode cX9_differs 38 = .ok (.iconst 0, 1) := by decide +kernel
theorem dX9_differs_39 : decode cX9_differs 39 = .ok (.istore_n 1, 1) := by decide +kernel
theorem dX9_differs_40 : decode cX9_differs 40 = .ok (.iload_n 1, 1) := by decide +kernel
theorem dX9_differs_41 : decode cX9_differs 41 = .ok (.aload_n 0, 1) := by decide +kernel
theorem dX9_differs_42 : decode cX9_differs 42 = .ok (.getfield 53, 3) := by decide +kernel
theorem dX9_differs_45 : decode cX9_differs 45 = .ok (.getfield 173, 3) := by decide +kernel
theorem dX9_differs_48 : decode cX9_differs 48 = .ok (.if_icmp .ge 64, 3) := by decide +kernel
theorem dX9_differs_51 : decode cX9_differs 51 = .ok (.aload_n 0, 1) := by decide +kernel
theorem dX9_differs_52 : decode cX9_differs 52 = .ok (.getfield 53, 3) := by decide +kernel
theorem dX9_differs_55 : decode cX9_differs 55 = .ok (.getfield 198, 3) := by decide +kernel
theorem dX9_differs_58 : decode cX9_differs 58 = .ok (.iconst 1, 1) := by decide +kernel
theorem dX9_differs_59 : decode cX9_differs 59 = .ok (.aaload, 1) := by decide +kernel
theorem dX9_differs_60 : decode cX9_differs 60 = .ok (.iload_n 1, 1) := by decide +kernel
theorem dX9_differs_61 : decode cX9_differs 61 = .ok (.iaload, 1) := by decide +kernel
theorem dX9_differs_62 : decode cX9_differs 62 = .ok (.istore_n 2, 1) := by decide +kernel
theorem dX9_differs_63 : decode cX9_differs 63 = .ok (.iload_n 2, 1) := by decide +kernel
theorem dX9_differs_64 : decode cX9_differs 64 = .ok (.aload_n 0, 1) := by decide +kernel
theorem dX9_differs_65 : decode cX9_differs 65 = .ok (.getfield 39, 3) := by decide +kernel
theorem dX9_differs_68 : decode cX9_differs 68 = .ok (.getfield 133, 3) := by decide +kernel
theorem dX9_differs_71 : decode cX9_differs 71 = .ok (.if_icmp .ge 35, 3) := by decide +kernel
theorem dX9_differs_74 : decode cX9_differs 74 = .ok (.aload_n 0, 1) := by decide +kernel
theorem dX9_differs_75 : decode cX9_differs 75 = .ok (.aload_n 0, 1) := by decide +kernel
theorem dX9_differs_76 : decode cX9_differs 76 = .ok (.getfield 53, 3) := by decide +kernel
theorem dX9_differs_79 : decode cX9_differs 79 = .ok (.getfield 198, 3) := by decide +kernel
theorem dX9_differs_82 : decode cX9_differs 82 = .ok (.iconst 0, 1) := by decide +kernel
theorem dX9_differs_83 : decode cX9_differs 83 = .ok (.aaload, 1) := by decide +kernel
theorem dX9_differs_84 : decode cX9_differs 84 = .ok (.iload_n 1, 1) := by decide +kernel
theorem dX9_differs_85 : decode cX9_differs 85 = .ok (.iaload, 1) := by decide +kernel
theorem dX9_differs_86 : decode cX9_differs 86 = .ok (.iload_n 2, 1) := by decide +kernel
theorem dX9_differs_87 : decode cX9_differs 87 = .ok (.aload_n 0, 1) := by decide +kernel
theorem dX9_differs_88 : decode cX9_differs 88 = .ok (.getfield 53, 3) := by decide +kernel
theorem dX9_differs_91 : decode cX9_differs 91 = .ok (.getfield 198, 3) := by decide +kernel
theorem dX9_differs_94 : decode cX9_differs 94 = .ok (.iconst 2, 1) := by decide +kernel
theorem dX9_differs_95 : decode cX9_differs 95 = .ok (.aaload, 1) := by decide +kernel
theorem dX9_differs_96 : decode cX9_differs 96 = .ok (.iload_n 1, 1) := by decide +kernel
theorem dX9_differs_97 : decode cX9_differs 97 = .ok (.iaload, 1) := by decide +kernel
theorem dX9_differs_98 : decode cX9_differs 98 = .ok (.invokevirtual 240, 3) := by decide +kernel
theorem dX9_differs_101 : decode cX9_differs 101 = .ok (.ifCond .eq 5, 3) := by decide +kernel
theorem dX9_differs_104 : decode cX9_differs 104 = .ok (.iload_n 1, 1) := by decide +kernel
theorem dX9_differs_105 : decode cX9_differs 105 = .ok (.ireturn, 1) := by decide +kernel
theorem dX9_differs_106 : decode cX9_differs 106 = .ok (.iinc 1 1, 3) := by decide +kernel
theorem dX9_differs_109 : decode cX9_differs 109 = .ok (.goto (-69), 3) := by decide +kernel
theorem dX9_differs_112 : decode cX9_differs 112 = .ok (.bipush (-4), 2) := by decide +kernel
theorem dX9_differs_114 : decode cX9_differs 114 = .ok (.ireturn, 1) := by decide +kernel
theorem dX9_count_0 : decode cX9_count 0 = .ok (.iload_n 1, 1) := by decide +kernel
theorem dX9_count_1 : decode cX9_count 1 = .ok (.tableswitch 91 0 5 #[39, 47, 57, 67, 75, 83], 39) := by decide +kernel
theorem dX9_count_40 : decode cX9_count 40 = .ok (.aload_n 0, 1) := by decide +kernel
theorem dX9_count_41 : decode cX9_count 41 = .ok (.getfield 39, 3) := by decide +kernel
theorem dX9_count_44 : decode cX9_count 44 = .ok (.getfield 133, 3) := by decide +kernel
theorem dX9_count_47 : decode cX9_count 47 = .ok (.ireturn, 1) := by decide +kernel
theorem dX9_count_48 : decode cX9_count 48 = .ok (.aload_n 0, 1) := by decide +kernel
theorem dX9_count_49 : decode cX9_count 49 = .ok (.getfield 28, 3) := by decide +kernel
theorem dX9_count_52 : decode cX9_count 52 = .ok (.iconst 0, 1) := by decide +kernel
theorem dX9_count_53 : decode cX9_count 53 = .ok (.aaload, 1) := by decide +kernel
theorem dX9_count_54 : decode cX9_count 54 = .ok (.getfield 119, 3) := by decide +kernel
theorem dX9_count_57 : decode cX9_count 57 = .ok (.ireturn, 1) := by decide +kernel
theorem dX9_count_58 : decode cX9_count 58 = .ok (.aload_n 0, 1) := by decide +kernel
theorem dX9_count_59 : decode cX9_count 59 = .ok (.getfield 28, 3) := by decide +kernel
theorem dX9_count_62 : decode cX9_count 62 = .ok (.iconst 1, 1) := by decide +kernel
theorem dX9_count_63 : decode cX9_count 63 = .ok (.aaload, 1) := by decide +kernel
theorem dX9_count_64 : decode cX9_count 64 = .ok (.getfield 119, 3) := by decide +kernel
theorem dX9_count_67 : decode cX9_count 67 = .ok (.ireturn, 1) := by decide +kernel
theorem dX9_count_68 : decode cX9_count 68 = .ok (.aload_n 0, 1) := by decide +kernel
theorem dX9_count_69 : decode cX9_count 69 = .ok (.getfield 53, 3) := by decide +kernel
theorem dX9_count_72 : decode cX9_count 72 = .ok (.getfield 173, 3) := by decide +kernel
theorem dX9_count_75 : decode cX9_count 75 = .ok (.ireturn, 1) := by decide +kernel
theorem dX9_count_76 : decode cX9_count 76 = .ok (.aload_n 0, 1) := by decide +kernel
theorem dX9_count_77 : decode cX9_count 77 = .ok (.getfield 53, 3) := by decide +kernel
theorem dX9_count_80 : decode cX9_count 80 = .ok (.invokevirtual 244, 3) := by decide +kernel
theorem dX9_count_83 : decode cX9_count 83 = .ok (.ireturn, 1) := by decide +kernel
theorem dX9_count_84 : decode cX9_count 84 = .ok (.aload_n 0, 1) := by decide +kernel
theorem dX9_count_85 : decode cX9_count 85 = .ok (.getfield 67, 3) := by decide +kernel
theorem dX9_count_88 : decode cX9_count 88 = .ok (.getfield 247, 3) := by decide +kernel
theorem dX9_count_91 : decode cX9_count 91 = .ok (.ireturn, 1) := by decide +kernel
theorem dX9_count_92 : decode cX9_count 92 = .ok (.iconst (-1), 1) := by decide +kernel
theorem dX9_count_93 : decode cX9_count 93 = .ok (.ireturn, 1) := by decide +kernel
theorem dX9_doing_0 : decode cX9_doing 0 = .ok (.iload_n 1, 1) := by decide +kernel
theorem dX9_doing_1 : decode cX9_doing 1 = .ok (.iconst 3, 1) := by decide +kernel
theorem dX9_doing_2 : decode cX9_doing 2 = .ok (.invokestatic 120, 3) := by decide +kernel
theorem dX9_doing_5 : decode cX9_doing 5 = .ok (.ifCond .ne 11, 3) := by decide +kernel
theorem dX9_doing_8 : decode cX9_doing 8 = .ok (.aload_n 0, 1) := by decide +kernel
theorem dX9_doing_9 : decode cX9_doing 9 = .ok (.iload_n 2, 1) := by decide +kernel
theorem dX9_doing_10 : decode cX9_doing 10 = .ok (.invokevirtual 137, 3) := by decide +kernel
theorem dX9_doing_13 : decode cX9_doing 13 = .ok (.ifCond .eq 5, 3) := by decide +kernel
theorem dX9_doing_16 : decode cX9_doing 16 = .ok (.iconst (-1), 1) := by decide +kernel
theorem dX9_doing_17 : decode cX9_doing 17 = .ok (.ireturn, 1) := by decide +kernel
theorem dX9_doing_18 : decode cX9_doing 18 = .ok (.aload_n 0, 1) := by decide +kernel
theorem dX9_doing_19 : decode cX9_doing 19 = .ok (.iload_n 1, 1) := by decide +kernel
theorem dX9_doing_20 : decode cX9_doing 20 = .ok (.putfield 93, 3) := by decide +kernel
theorem dX9_doing_23 : decode cX9_doing 23 = .ok (.aload_n 0, 1) := by decide +kernel
theorem dX9_doing_24 : decode cX9_doing 24 = .ok (.iload_n 2, 1) := by decide +kernel
theorem dX9_doing_25 : decode cX9_doing 25 = .ok (.putfield 97, 3) := by decide +kernel
theorem dX9_doing_28 : decode cX9_doing 28 = .ok (.aload_n 0, 1) := by decide +kernel
theorem dX9_doing_29 : decode cX9_doing 29 = .ok (.iconst 0, 1) := by decide +kernel
theorem dX9_doing_30 : decode cX9_doing 30 = .ok (.invokevirtual 248, 3) := by decide +kernel
theorem dX9_doing_33 : decode cX9_doing 33 = .ok (.ifCond .eq 7, 3) := by decide +kernel
theorem dX9_doing_36 : decode cX9_doing 36 = .ok (.iconst 1, 1) := by decide +kernel
theorem dX9_doing_37 : decode cX9_doing 37 = .ok (.goto 4, 3) := by decide +kernel
theorem dX9_doing_40 : decode cX9_doing 40 = .ok (.iconst 0, 1) := by decide +kernel
theorem dX9_doing_41 : decode cX9_doing 41 = .ok (.ireturn, 1) := by decide +kernel
theorem dX9_thing_0 : decode cX9_thing 0 = .ok (.iload_n 1, 1) := by decide +kernel
theorem dX9_thing_1 : decode cX9_thing 1 = .ok (.iconst 2, 1) := by decide +kernel
theorem dX9_thing_2 : decode cX9_thing 2 = .ok (.invokestatic 120, 3) := by decide +kernel
theorem dX9_thing_5 : decode cX9_thing 5 = .ok (.ifCond .ne 32, 3) := by decide +kernel
theorem dX9_thing_8 : decode cX9_thing 8 = .ok (.iload_n 2, 1) := by decide +kernel
theorem dX9_thing_9 : decode cX9_thing 9 = .ok (.iload_n 1, 1) := by decide +kernel
theorem dX9_thing_10 : decode cX9_thing 10 = .ok (.iconst 2, 1) := by decide +kernel
theorem dX9_thing_11 : decode cX9_thing 11 = .ok (.if_icmp .ne 7, 3) := by decide +kernel
theorem dX9_thing_14 : decode cX9_thing 14 = .ok (.iconst 0, 1) := by decide +kernel
theorem dX9_thing_15 : decode cX9_thing 15 = .ok (.goto 5, 3) := by decide +kernel
theorem dX9_thing_18 : decode cX9_thing 18 = .ok (.bipush 11, 2) := by decide +kernel
theorem dX9_thing_20 : decode cX9_thing 20 = .ok (.invokestatic 120, 3) := by decide +kernel
theorem dX9_thing_23 : decode cX9_thing 23 = .ok (.ifCond .ne 14, 3) := by decide +kernel
theorem dX9_thing_26 : decode cX9_thing 26 = .ok (.iload_n 3, 1) := by decide +kernel
theorem dX9_thing_27 : decode cX9_thing 27 = .ok (.iload_n 1, 1) := by decide +kernel
theorem dX9_thing_28 : decode cX9_thing 28 = .ok (.invokestatic 251, 3) := by decide +kernel
theorem dX9_thing_31 : decode cX9_thing 31 = .ok (.invokestatic 120, 3) := by decide +kernel
theorem dX9_thing_34 : decode cX9_thing 34 = .ok (.ifCond .eq 5, 3) := by decide +kernel
theorem dX9_thing_37 : decode cX9_thing 37 = .ok (.iconst (-1), 1) := by decide +kernel
theorem dX9_thing_38 : decode cX9_thing 38 = .ok (.ireturn, 1) := by decide +kernel
theorem dX9_thing_39 : decode cX9_thing 39 = .ok (.aload_n 0, 1) := by decide +kernel
theorem dX9_thing_40 : decode cX9_thing 40 = .ok (.getfield 67, 3) := by decide +kernel
theorem dX9_thing_43 : decode cX9_thing 43 = .ok (.iload_n 1, 1) := by decide +kernel
theorem dX9_thing_44 : decode cX9_thing 44 = .ok (.iload_n 2, 1) := by decide +kernel
theorem dX9_thing_45 : decode cX9_thing 45 = .ok (.iload_n 3, 1) := by decide +kernel
theorem dX9_thing_46 : decode cX9_thing 46 = .ok (.invokevirtual 255, 3) := by decide +kernel
theorem dX9_thing_49 : decode cX9_thing 49 = .ok (.ifCond .eq 6, 3) := by decide +kernel
theorem dX9_thing_52 : decode cX9_thing 52 = .ok (.bipush (-2), 2) := by decide +kernel
theorem dX9_thing_54 : decode cX9_thing 54 = .ok (.ireturn, 1) := by decide +kernel
theorem dX9_thing_55 : decode cX9_thing 55 = .ok (.aload_n 0, 1) := by decide +kernel
theorem dX9_thing_56 : decode cX9_thing 56 = .ok (.getfield 67, 3) := by decide +kernel
theorem dX9_thing_59 : decode cX9_thing 59 = .ok (.getfield 247, 3) := by decide +kernel
theorem dX9_thing_62 : decode cX9_thing 62 = .ok (.bipush 6, 2) := by decide +kernel
theorem dX9_thing_64 : decode cX9_thing 64 = .ok (.if_icmp .lt 6, 3) := by decide +kernel
theorem dX9_thing_67 : decode cX9_thing 67 = .ok (.bipush (-3), 2) := by decide +kernel
theorem dX9_thing_69 : decode cX9_thing 69 = .ok (.ireturn, 1) := by decide +kernel
theorem dX9_thing_70 : decode cX9_thing 70 = .ok (.aload_n 0, 1) := by decide +kernel
theorem dX9_thing_71 : decode cX9_thing 71 = .ok (.getfield 67, 3) := by decide +kernel
theorem dX9_thing_74 : decode cX9_thing 74 = .ok (.iload_n 1, 1) := by decide +kernel
theorem dX9_thing_75 : decode cX9_thing 75 = .ok (.iload_n 2, 1) := by decide +kernel
theorem dX9_thing_76 : decode cX9_thing 76 = .ok (.iload_n 3, 1) := by decide +kernel
theorem dX9_thing_77 : decode cX9_thing 77 = .ok (.invokevirtual 258, 3) := by decide +kernel
theorem dX9_thing_80 : decode cX9_thing 80 = .ok (.aload_n 0, 1) := by decide +kernel
theorem dX9_thing_81 : decode cX9_thing 81 = .ok (.getfield 67, 3) := by decide +kernel
theorem dX9_thing_84 : decode cX9_thing 84 = .ok (.getfield 247, 3) := by decide +kernel
theorem dX9_thing_87 : decode cX9_thing 87 = .ok (.iconst 1, 1) := by decide +kernel
theorem dX9_thing_88 : decode cX9_thing 88 = .ok (.isub, 1) := by decide +kernel
theorem dX9_thing_89 : decode cX9_thing 89 = .ok (.ireturn, 1) := by decide +kernel
theorem dX9_clear_0 : decode cX9_clear 0 = .ok (.aload_n 0, 1) := by decide +kernel
theorem dX9_clear_1 : decode cX9_clear 1 = .ok (.getfield 67, 3) := by decide +kernel
theorem dX9_clear_4 : decode cX9_clear 4 = .ok (.getfield 247, 3) := by decide +kernel
theorem dX9_clear_7 : decode cX9_clear 7 = .ok (.istore_n 1, 1) := by decide +kernel
theorem dX9_clear_8 : decode cX9_clear 8 = .ok (.aload_n 0, 1) := by decide +kernel
theorem dX9_clear_9 : decode cX9_clear 9 = .ok (.getfield 67, 3) := by decide +kernel
theorem dX9_clear_12 : decode cX9_clear 12 = .ok (.iconst 0, 1) := by decide +kernel
theorem dX9_clear_13 : decode cX9_clear 13 = .ok (.putfield 247, 3) := by decide +kernel
theorem dX9_clear_16 : decode cX9_clear 16 = .ok (.iload_n 1, 1) := by decide +kernel
theorem dX9_clear_17 : decode cX9_clear 17 = .ok (.ireturn, 1) := by decide +kernel
theorem dX9_otherwise_0 : decode cX9_otherwise 0 = .ok (.iload_n 1, 1) := by decide +kernel
theorem dX9_otherwise_1 : decode cX9_otherwise 1 = .ok (.aload_n 0, 1) := by decide +kernel
theorem dX9_otherwise_2 : decode cX9_otherwise 2 = .ok (.getfield 67, 3) := by decide +kernel
theorem dX9_otherwise_5 : decode cX9_otherwise 5 = .ok (.invokevirtual 259, 3) := by decide +kernel
theorem dX9_otherwise_8 : decode cX9_otherwise 8 = .ok (.invokestatic 120, 3) := by decide +kernel
theorem dX9_otherwise_11 : decode cX9_otherwise 11 = .ok (.ifCond .eq 5, 3) := by decide +kernel
theorem dX9_otherwise_14 : decode cX9_otherwise 14 = .ok (.iconst (-1), 1) := by decide +kernel
theorem dX9_otherwise_15 : decode cX9_otherwise 15 = .ok (.ireturn, 1) := by decide +kernel
theorem dX9_otherwise_16 : decode cX9_otherwise 16 = .ok (.aload_n 0, 1) := by decide +kernel
theorem dX9_otherwise_17 : decode cX9_otherwise 17 = .ok (.invokevirtual 262, 3) := by decide +kernel
theorem dX9_otherwise_20 : decode cX9_otherwise 20 = .ok (.ifCond .eq 6, 3) := by decide +kernel
theorem dX9_otherwise_23 : decode cX9_otherwise 23 = .ok (.bipush (-2), 2) := by decide +kernel
theorem dX9_otherwise_25 : decode cX9_otherwise 25 = .ok (.ireturn, 1) := by decide +kernel
theorem dX9_otherwise_26 : decode cX9_otherwise 26 = .ok (.aload_n 0, 1) := by decide +kernel
theorem dX9_otherwise_27 : decode cX9_otherwise 27 = .ok (.iload_n 1, 1) := by decide +kernel
theorem dX9_otherwise_28 : decode cX9_otherwise 28 = .ok (.invokevirtual 248, 3) := by decide +kernel
theorem dX9_otherwise_31 : decode cX9_otherwise 31 = .ok (.ifCond .eq 7, 3) := by decide +kernel
theorem dX9_otherwise_34 : decode cX9_otherwise 34 = .ok (.iconst 1, 1) := by decide +kernel
theorem dX9_otherwise_35 : decode cX9_otherwise 35 = .ok (.goto 4, 3) := by decide +kernel
theorem dX9_otherwise_38 : decode cX9_otherwise 38 = .ok (.iconst 0, 1) := by decide +kernel
theorem dX9_otherwise_39 : decode cX9_otherwise 39 = .ok (.ireturn, 1) := by decide +kernel
theorem dX9_because_0 : decode cX9_because 0 = .ok (.aload_n 0, 1) := by decide +kernel
theorem dX9_because_1 : decode cX9_because 1 = .ok (.invokevirtual 262, 3) := by decide +kernel
theorem dX9_because_4 : decode cX9_because 4 = .ok (.ifCond .eq 8, 3) := by decide +kernel
theorem dX9_because_7 : decode cX9_because 7 = .ok (.bipush (-2), 2) := by decide +kernel
theorem dX9_because_9 : decode cX9_because 9 = .ok (.goto 8, 3) := by decide +kernel
theorem dX9_because_12 : decode cX9_because 12 = .ok (.aload_n 0, 1) := by decide +kernel
theorem dX9_because_13 : decode cX9_because 13 = .ok (.iconst 0, 1) := by decide +kernel
theorem dX9_because_14 : decode cX9_because 14 = .ok (.invokevirtual 266, 3) := by decide +kernel
theorem dX9_because_17 : decode cX9_because 17 = .ok (.ireturn, 1) := by decide +kernel
theorem dX9_enough_0 : decode cX9_enough 0 = .ok (.aload_n 0, 1) := by decide +kernel
theorem dX9_enough_1 : decode cX9_enough 1 = .ok (.invokevirtual 262, 3) := by decide +kernel
theorem dX9_enough_4 : decode cX9_enough 4 = .ok (.ifCond .eq 8, 3) := by decide +kernel
theorem dX9_enough_7 : decode cX9_enough 7 = .ok (.bipush (-2), 2) := by decide +kernel
theorem dX9_enough_9 : decode cX9_enough 9 = .ok (.goto 8, 3) := by decide +kernel
theorem dX9_enough_12 : decode cX9_enough 12 = .ok (.aload_n 0, 1) := by decide +kernel
theorem dX9_enough_13 : decode cX9_enough 13 = .ok (.iconst 1, 1) := by decide +kernel
theorem dX9_enough_14 : decode cX9_enough 14 = .ok (.invokevirtual 266, 3) := by decide +kernel
theorem dX9_enough_17 : decode cX9_enough 17 = .ok (.ireturn, 1) := by decide +kernel
theorem dX9_sets_0 : decode cX9_sets 0 = .ok (.iload_n 1, 1) := by decide +kernel
theorem dX9_sets_1 : decode cX9_sets 1 = .ok (.iconst 1, 1) := by decide +kernel
theorem dX9_sets_2 : decode cX9_sets 2 = .ok (.invokestatic 120, 3) := by decide +kernel
theorem dX9_sets_5 : decode cX9_sets 5 = .ok (.ifCond .eq 5, 3) := by decide +kernel
theorem dX9_sets_8 : decode cX9_sets 8 = .ok (.iconst (-1), 1) := by decide +kernel
theorem dX9_sets_9 : decode cX9_sets 9 = .ok (.ireturn, 1) := by decide +kernel
theorem dX9_sets_10 : decode cX9_sets 10 = .ok (.aload_n 0, 1) := by decide +kernel
theorem dX9_sets_11 : decode cX9_sets 11 = .ok (.invokevirtual 262, 3) := by decide +kernel
theorem dX9_sets_14 : decode cX9_sets 14 = .ok (.ifCond .eq 6, 3) := by decide +kernel
theorem dX9_sets_17 : decode cX9_sets 17 = .ok (.bipush (-2), 2) := by decide +kernel
theorem dX9_sets_19 : decode cX9_sets 19 = .ok (.ireturn, 1) := by decide +kernel
theorem dX9_sets_20 : decode cX9_sets 20 = .ok (.aload_n 0, 1) := by decide +kernel
theorem dX9_sets_21 : decode cX9_sets 21 = .ok (.invokevirtual 270, 3) := by decide +kernel
theorem dX9_sets_24 : decode cX9_sets 24 = .ok (.iconst 0, 1) := by decide +kernel
theorem dX9_sets_25 : decode cX9_sets 25 = .ok (.istore_n 2, 1) := by decide +kernel
theorem dX9_sets_26 : decode cX9_sets 26 = .ok (.iconst 0, 1) := by decide +kernel
theorem dX9_sets_27 : decode cX9_sets 27 = .ok (.istore_n 3, 1) := by decide +kernel
theorem dX9_sets_28 : decode cX9_sets 28 = .ok (.iload_n 3, 1) := by decide +kernel
theorem dX9_sets_29 : decode cX9_sets 29 = .ok (.aload_n 0, 1) := by decide +kernel
theorem dX9_sets_30 : decode cX9_sets 30 = .ok (.getfield 67, 3) := by decide +kernel
theorem dX9_sets_33 : decode cX9_sets 33 = .ok (.invokevirtual 259, 3) := by decide +kernel
theorem dX9_sets_36 : decode cX9_sets 36 = .ok (.if_icmp .gt 35, 3) := by decide +kernel
theorem dX9_sets_39 : decode cX9_sets 39 = .ok (.iload_n 1, 1) := by decide +kernel
theorem dX9_sets_40 : decode cX9_sets 40 = .ok (.ifCond .ne 14, 3) := by decide +kernel
theorem dX9_sets_43 : decode cX9_sets 43 = .ok (.aload_n 0, 1) := by decide +kernel
theorem dX9_sets_44 : decode cX9_sets 44 = .ok (.iload_n 3, 1) := by decide +kernel
theorem dX9_sets_45 : decode cX9_sets 45 = .ok (.invokevirtual 273, 3) := by decide +kernel
theorem dX9_sets_48 : decode cX9_sets 48 = .ok (.ifCond .eq 17, 3) := by decide +kernel
theorem dX9_sets_51 : decode cX9_sets 51 = .ok (.goto 11, 3) := by decide +kernel
theorem dX9_sets_54 : decode cX9_sets 54 = .ok (.aload_n 0, 1) := by decide +kernel
theorem dX9_sets_55 : decode cX9_sets 55 = .ok (.iload_n 3, 1) := by decide +kernel
theorem dX9_sets_56 : decode cX9_sets 56 = .ok (.invokevirtual 276, 3) := by decide +kernel
theorem dX9_sets_59 : decode cX9_sets 59 = .ok (.ifCond .eq 6, 3) := by decide +kernel
theorem dX9_sets_62 : decode cX9_sets 62 = .ok (.iinc 2 1, 3) := by decide +kernel
theorem dX9_sets_65 : decode cX9_sets 65 = .ok (.iinc 3 1, 3) := by decide +kernel
theorem dX9_sets_68 : decode cX9_sets 68 = .ok (.goto (-40), 3) := by decide +kernel
theorem dX9_sets_71 : decode cX9_sets 71 = .ok (.iload_n 2, 1) := by decide +kernel
theorem dX9_sets_72 : decode cX9_sets 72 = .ok (.ireturn, 1) := by decide +kernel
theorem dX9_part_0 : decode cX9_part 0 = .ok (.iload_n 1, 1) := by decide +kernel
theorem dX9_part_1 : decode cX9_part 1 = .ok (.iconst 3, 1) := by decide +kernel
theorem dX9_part_2 : decode cX9_part 2 = .ok (.invokestatic 120, 3) := by decide +kernel
theorem dX9_part_5 : decode cX9_part 5 = .ok (.ifCond .eq 5, 3) := by decide +kernel
theorem dX9_part_8 : decode cX9_part 8 = .ok (.iconst (-1), 1) := by decide +kernel
theorem dX9_part_9 : decode cX9_part 9 = .ok (.ireturn, 1) := by decide +kernel
theorem dX9_part_10 : decode cX9_part 10 = .ok (.aload_n 0, 1) := by decide +kernel
theorem dX9_part_11 : decode cX9_part 11 = .ok (.invokevirtual 262, 3) := by decide +kernel
theorem dX9_part_14 : decode cX9_part 14 = .ok (.ifCond .eq 6, 3) := by decide +kernel
theorem dX9_part_17 : decode cX9_part 17 = .ok (.bipush (-2), 2) := by decide +kernel
theorem dX9_part_19 : decode cX9_part 19 = .ok (.ireturn, 1) := by decide +kernel
theorem dX9_part_20 : decode cX9_part 20 = .ok (.iconst 1, 1) := by decide +kernel
theorem dX9_part_21 : decode cX9_part 21 = .ok (.iload_n 1, 1) := by decide +kernel
theorem dX9_part_22 : decode cX9_part 22 = .ok (.ishl, 1) := by decide +kernel
theorem dX9_part_23 : decode cX9_part 23 = .ok (.istore_n 2, 1) := by decide +kernel
theorem dX9_part_24 : decode cX9_part 24 = .ok (.iconst 0, 1) := by decide +kernel
theorem dX9_part_25 : decode cX9_part 25 = .ok (.istore_n 3, 1) := by decide +kernel
theorem dX9_part_26 : decode cX9_part 26 = .ok (.iconst 0, 1) := by decide +kernel
theorem dX9_part_27 : decode cX9_part 27 = .ok (.istore 4, 2) := by decide +kernel
theorem dX9_part_29 : decode cX9_part 29 = .ok (.iload 4, 2) := by decide +kernel
theorem dX9_part_31 : decode cX9_part 31 = .ok (.bipush 16, 2) := by decide +kernel
theorem dX9_part_33 : decode cX9_part 33 = .ok (.if_icmp .ge 48, 3) := by decide +kernel
theorem dX9_part_36 : decode cX9_part 36 = .ok (.iload 4, 2) := by decide +kernel
theorem dX9_part_38 : decode cX9_part 38 = .ok (.iload_n 2, 1) := by decide +kernel
theorem dX9_part_39 : decode cX9_part 39 = .ok (.iand, 1) := by decide +kernel
theorem dX9_part_40 : decode cX9_part 40 = .ok (.ifCond .ne 35, 3) := by decide +kernel
theorem dX9_part_43 : decode cX9_part 43 = .ok (.aload_n 0, 1) := by decide +kernel
theorem dX9_part_44 : decode cX9_part 44 = .ok (.iload 4, 2) := by decide +kernel
theorem dX9_part_46 : decode cX9_part 46 = .ok (.invokevirtual 279, 3) := by decide +kernel
theorem dX9_part_49 : decode cX9_part 49 = .ok (.ifCond .ne 26, 3) := by decide +kernel
theorem dX9_part_52 : decode cX9_part 52 = .ok (.aload_n 0, 1) := by decide +kernel
theorem dX9_part_53 : decode cX9_part 53 = .ok (.iload 4, 2) := by decide +kernel
theorem dX9_part_55 : decode cX9_part 55 = .ok (.iload_n 2, 1) := by decide +kernel
theorem dX9_part_56 : decode cX9_part 56 = .ok (.ior, 1) := by decide +kernel
theorem dX9_part_57 : decode cX9_part 57 = .ok (.invokevirtual 279, 3) := by decide +kernel
theorem dX9_part_60 : decode cX9_part 60 = .ok (.ifCond .eq 15, 3) := by decide +kernel
theorem dX9_part_63 : decode cX9_part 63 = .ok (.iload_n 3, 1) := by decide +kernel
theorem dX9_part_64 : decode cX9_part 64 = .ok (.getstatic 282, 3) := by decide +kernel
theorem dX9_part_67 : decode cX9_part 67 = .ok (.iload 4, 2) := by decide +kernel
theorem dX9_part_69 : decode cX9_part 69 = .ok (.invokestatic 285, 3) := by decide +kernel
theorem dX9_part_72 : decode cX9_part 72 = .ok (.iaload, 1) := by decide +kernel
theorem dX9_part_73 : decode cX9_part 73 = .ok (.iadd, 1) := by decide +kernel
theorem dX9_part_74 : decode cX9_part 74 = .ok (.istore_n 3, 1) := by decide +kernel
theorem dX9_part_75 : decode cX9_part 75 = .ok (.iinc 4 1, 3) := by decide +kernel
theorem dX9_part_78 : decode cX9_part 78 = .ok (.goto (-49), 3) := by decide +kernel
theorem dX9_part_81 : decode cX9_part 81 = .ok (.iload_n 3, 1) := by decide +kernel
theorem dX9_part_82 : decode cX9_part 82 = .ok (.ireturn, 1) := by decide +kernel
theorem dX9_careful_0 : decode cX9_careful 0 = .ok (.aload_n 0, 1) := by decide +kernel
theorem dX9_careful_1 : decode cX9_careful 1 = .ok (.iload_n 1, 1) := by decide +kernel
theorem dX9_careful_2 : decode cX9_careful 2 = .ok (.invokevirtual 137, 3) := by decide +kernel
theorem dX9_careful_5 : decode cX9_careful 5 = .ok (.ifCond .ne 11, 3) := by decide +kernel
theorem dX9_careful_8 : decode cX9_careful 8 = .ok (.iload_n 2, 1) := by decide +kernel
theorem dX9_careful_9 : decode cX9_careful 9 = .ok (.iconst 1, 1) := by decide +kernel
theorem dX9_careful_10 : decode cX9_careful 10 = .ok (.invokestatic 120, 3) := by decide +kernel
theorem dX9_careful_13 : decode cX9_careful 13 = .ok (.ifCond .eq 5, 3) := by decide +kernel
theorem dX9_careful_16 : decode cX9_careful 16 = .ok (.iconst (-1), 1) := by decide +kernel
theorem dX9_careful_17 : decode cX9_careful 17 = .ok (.ireturn, 1) := by decide +kernel
theorem dX9_careful_18 : decode cX9_careful 18 = .ok (.aload_n 0, 1) := by decide +kernel
theorem dX9_careful_19 : decode cX9_careful 19 = .ok (.getfield 46, 3) := by decide +kernel
theorem dX9_careful_22 : decode cX9_careful 22 = .ok (.aload_n 0, 1) := by decide +kernel
theorem dX9_careful_23 : decode cX9_careful 23 = .ok (.getfield 39, 3) := by decide +kernel
theorem dX9_careful_26 : decode cX9_careful 26 = .ok (.invokevirtual 229, 3) := by decide +kernel
theorem dX9_careful_29 : decode cX9_careful 29 = .ok (.iload_n 2, 1) := by decide +kernel
theorem dX9_careful_30 : decode cX9_careful 30 = .ok (.ifCond .ne 14, 3) := by decide +kernel
theorem dX9_careful_33 : decode cX9_careful 33 = .ok (.aload_n 0, 1) := by decide +kernel
theorem dX9_careful_34 : decode cX9_careful 34 = .ok (.getfield 46, 3) := by decide +kernel
theorem dX9_careful_37 : decode cX9_careful 37 = .ok (.aload_n 0, 1) := by decide +kernel
theorem dX9_careful_38 : decode cX9_careful 38 = .ok (.getfield 39, 3) := by decide +kernel
theorem dX9_careful_41 : decode cX9_careful 41 = .ok (.invokevirtual 290, 3) := by decide +kernel
theorem dX9_careful_44 : decode cX9_careful 44 = .ok (.aload_n 0, 1) := by decide +kernel
theorem dX9_careful_45 : decode cX9_careful 45 = .ok (.getfield 46, 3) := by decide +kernel
theorem dX9_careful_48 : decode cX9_careful 48 = .ok (.aload_n 0, 1) := by decide +kernel
theorem dX9_careful_49 : decode cX9_careful 49 = .ok (.getfield 28, 3) := by decide +kernel
theorem dX9_careful_52 : decode cX9_careful 52 = .ok (.iconst 1, 1) := by decide +kernel
theorem dX9_careful_53 : decode cX9_careful 53 = .ok (.aaload, 1) := by decide +kernel
theorem dX9_careful_54 : decode cX9_careful 54 = .ok (.sipush 255, 3) := by decide +kernel
theorem dX9_careful_57 : decode cX9_careful 57 = .ok (.iload_n 1, 1) := by decide +kernel
theorem dX9_careful_58 : decode cX9_careful 58 = .ok (.iconst 1, 1) := by decide +kernel
theorem dX9_careful_59 : decode cX9_careful 59 = .ok (.iadd, 1) := by decide +kernel
theorem dX9_careful_60 : decode cX9_careful 60 = .ok (.invokevirtual 236, 3) := by decide +kernel
theorem dX9_careful_63 : decode cX9_careful 63 = .ok (.aload_n 0, 1) := by decide +kernel
theorem dX9_careful_64 : decode cX9_careful 64 = .ok (.getfield 46, 3) := by decide +kernel
theorem dX9_careful_67 : decode cX9_careful 67 = .ok (.getfield 169, 3) := by decide +kernel
theorem dX9_careful_70 : decode cX9_careful 70 = .ok (.iload_n 1, 1) := by decide +kernel
theorem dX9_careful_71 : decode cX9_careful 71 = .ok (.iaload, 1) := by decide +kernel
theorem dX9_careful_72 : decode cX9_careful 72 = .ok (.ireturn, 1) := by decide +kernel
theorem dX9_saying_0 : decode cX9_saying 0 = .ok (.iload_n 1, 1) := by decide +kernel
theorem dX9_saying_1 : decode cX9_saying 1 = .ok (.bipush 15, 2) := by decide +kernel
theorem dX9_saying_3 : decode cX9_saying 3 = .ok (.invokestatic 120, 3) := by decide +kernel
theorem dX9_saying_6 : decode cX9_saying 6 = .ok (.ifCond .eq 5, 3) := by decide +kernel
theorem dX9_saying_9 : decode cX9_saying 9 = .ok (.iconst (-1), 1) := by decide +kernel
theorem dX9_saying_10 : decode cX9_saying 10 = .ok (.ireturn, 1) := by decide +kernel
theorem dX9_saying_11 : decode cX9_saying 11 = .ok (.iconst 2, 1) := by decide +kernel
theorem dX9_saying_12 : decode cX9_saying 12 = .ok (.iload_n 1, 1) := by decide +kernel
theorem dX9_saying_13 : decode cX9_saying 13 = .ok (.imul, 1) := by decide +kernel
theorem dX9_saying_14 : decode cX9_saying 14 = .ok (.iload_n 2, 1) := by decide +kernel
theorem dX9_saying_15 : decode cX9_saying 15 = .ok (.ifCond .eq 8, 3) := by decide +kernel
theorem dX9_saying_18 : decode cX9_saying 18 = .ok (.bipush 96, 2) := by decide +kernel
theorem dX9_saying_20 : decode cX9_saying 20 = .ok (.goto 4, 3) := by decide +kernel
theorem dX9_saying_23 : decode cX9_saying 23 = .ok (.iconst 0, 1) := by decide +kernel
theorem dX9_saying_24 : decode cX9_saying 24 = .ok (.iadd, 1) := by decide +kernel
theorem dX9_saying_25 : decode cX9_saying 25 = .ok (.iload_n 3, 1) := by decide +kernel
theorem dX9_saying_26 : decode cX9_saying 26 = .ok (.ifCond .eq 7, 3) := by decide +kernel
theorem dX9_saying_29 : decode cX9_saying 29 = .ok (.iconst 1, 1) := by decide +kernel
theorem dX9_saying_30 : decode cX9_saying 30 = .ok (.goto 4, 3) := by decide +kernel
theorem dX9_saying_33 : decode cX9_saying 33 = .ok (.iconst 0, 1) := by decide +kernel
theorem dX9_saying_34 : decode cX9_saying 34 = .ok (.iadd, 1) := by decide +kernel
theorem dX9_saying_35 : decode cX9_saying 35 = .ok (.istore 4, 2) := by decide +kernel
theorem dX9_saying_37 : decode cX9_saying 37 = .ok (.iconst 0, 1) := by decide +kernel
theorem dX9_saying_38 : decode cX9_saying 38 = .ok (.istore 5, 2) := by decide +kernel
theorem dX9_saying_40 : decode cX9_saying 40 = .ok (.iload 5, 2) := by decide +kernel
theorem dX9_saying_42 : decode cX9_saying 42 = .ok (.sipush 128, 3) := by decide +kernel
theorem dX9_saying_45 : decode cX9_saying 45 = .ok (.if_icmp .ge 46, 3) := by decide +kernel
theorem dX9_saying_48 : decode cX9_saying 48 = .ok (.aload_n 0, 1) := by decide +kernel
theorem dX9_saying_49 : decode cX9_saying 49 = .ok (.getfield 75, 3) := by decide +kernel
theorem dX9_saying_52 : decode cX9_saying 52 = .ok (.iload 5, 2) := by decide +kernel
theorem dX9_saying_54 : decode cX9_saying 54 = .ok (.aload_n 0, 1) := by decide +kernel
theorem dX9_saying_55 : decode cX9_saying 55 = .ok (.getfield 28, 3) := by decide +kernel
theorem dX9_saying_58 : decode cX9_saying 58 = .ok (.iconst 0, 1) := by decide +kernel
theorem dX9_saying_59 : decode cX9_saying 59 = .ok (.aaload, 1) := by decide +kernel
theorem dX9_saying_60 : decode cX9_saying 60 = .ok (.aload_n 0, 1) := by decide +kernel
theorem dX9_saying_61 : decode cX9_saying 61 = .ok (.getfield 28, 3) := by decide +kernel
theorem dX9_saying_64 : decode cX9_saying 64 = .ok (.iconst 0, 1) := by decide +kernel
theorem dX9_saying_65 : decode cX9_saying 65 = .ok (.aaload, 1) := by decide +kernel
theorem dX9_saying_66 : decode cX9_saying 66 = .ok (.sipush 255, 3) := by decide +kernel
theorem dX9_saying_69 : decode cX9_saying 69 = .ok (.iload 5, 2) := by decide +kernel
theorem dX9_saying_71 : decode cX9_saying 71 = .ok (.iconst 5, 1) := by decide +kernel
theorem dX9_saying_72 : decode cX9_saying 72 = .ok (.ishr, 1) := by decide +kernel
theorem dX9_saying_73 : decode cX9_saying 73 = .ok (.iload 5, 2) := by decide +kernel
theorem dX9_saying_75 : decode cX9_saying 75 = .ok (.bipush 31, 2) := by decide +kernel
theorem dX9_saying_77 : decode cX9_saying 77 = .ok (.iand, 1) := by decide +kernel
theorem dX9_saying_78 : decode cX9_saying 78 = .ok (.invokevirtual 170, 3) := by decide +kernel
theorem dX9_saying_81 : decode cX9_saying 81 = .ok (.invokevirtual 293, 3) := by decide +kernel
theorem dX9_saying_84 : decode cX9_saying 84 = .ok (.iastore, 1) := by decide +kernel
theorem dX9_saying_85 : decode cX9_saying 85 = .ok (.iinc 5 1, 3) := by decide +kernel
theorem dX9_saying_88 : decode cX9_saying 88 = .ok (.goto (-48), 3) := by decide +kernel
theorem dX9_saying_91 : decode cX9_saying 91 = .ok (.iconst 0, 1) := by decide +kernel
theorem dX9_saying_92 : decode cX9_saying 92 = .ok (.istore 5, 2) := by decide +kernel
theorem dX9_saying_94 : decode cX9_saying 94 = .ok (.iload 5, 2) := by decide +kernel
theorem dX9_saying_96 : decode cX9_saying 96 = .ok (.sipush 128, 3) := by decide +kernel
theorem dX9_saying_99 : decode cX9_saying 99 = .ok (.if_icmp .ge 67, 3) := by decide +kernel
theorem dX9_saying_102 : decode cX9_saying 102 = .ok (.iload 5, 2) := by decide +kernel
theorem dX9_saying_104 : decode cX9_saying 104 = .ok (.iconst 1, 1) := by decide +kernel
theorem dX9_saying_105 : decode cX9_saying 105 = .ok (.iadd, 1) := by decide +kernel
theorem dX9_saying_106 : decode cX9_saying 106 = .ok (.istore 6, 2) := by decide +kernel
theorem dX9_saying_108 : decode cX9_saying 108 = .ok (.iload 6, 2) := by decide +kernel
theorem dX9_saying_110 : decode cX9_saying 110 = .ok (.sipush 128, 3) := by decide +kernel
theorem dX9_saying_113 : decode cX9_saying 113 = .ok (.if_icmp .ge 47, 3) := by decide +kernel
theorem dX9_saying_116 : decode cX9_saying 116 = .ok (.iload 5, 2) := by decide +kernel
theorem dX9_saying_118 : decode cX9_saying 118 = .ok (.iload 6, 2) := by decide +kernel
theorem dX9_saying_120 : decode cX9_saying 120 = .ok (.ixor, 1) := by decide +kernel
theorem dX9_saying_121 : decode cX9_saying 121 = .ok (.iload 4, 2) := by decide +kernel
theorem dX9_saying_123 : decode cX9_saying 123 = .ok (.iand, 1) := by decide +kernel
theorem dX9_saying_124 : decode cX9_saying 124 = .ok (.ifCond .ne 30, 3) := by decide +kernel
theorem dX9_saying_127 : decode cX9_saying 127 = .ok (.aload_n 0, 1) := by decide +kernel
theorem dX9_saying_128 : decode cX9_saying 128 = .ok (.getfield 75, 3) := by decide +kernel
theorem dX9_saying_131 : decode cX9_saying 131 = .ok (.iload 5, 2) := by decide +kernel
theorem dX9_saying_133 : decode cX9_saying 133 = .ok (.iaload, 1) := by decide +kernel
theorem dX9_saying_134 : decode cX9_saying 134 = .ok (.aload_n 0, 1) := by decide +kernel
theorem dX9_saying_135 : decode cX9_saying 135 = .ok (.getfield 75, 3) := by decide +kernel
theorem dX9_saying_138 : decode cX9_saying 138 = .ok (.iload 6, 2) := by decide +kernel
theorem dX9_saying_140 : decode cX9_saying 140 = .ok (.iaload, 1) := by decide +kernel
theorem dX9_saying_141 : decode cX9_saying 141 = .ok (.if_icmp .eq 13, 3) := by decide +kernel
theorem dX9_saying_144 : decode cX9_saying 144 = .ok (.sipush 128, 3) := by decide +kernel
theorem dX9_saying_147 : decode cX9_saying 147 = .ok (.iload 5, 2) := by decide +kernel
theorem dX9_saying_149 : decode cX9_saying 149 = .ok (.imul, 1) := by decide +kernel
theorem dX9_saying_150 : decode cX9_saying 150 = .ok (.iload 6, 2) := by decide +kernel
theorem dX9_saying_152 : decode cX9_saying 152 = .ok (.iadd, 1) := by decide +kernel
theorem dX9_saying_153 : decode cX9_saying 153 = .ok (.ireturn, 1) := by decide +kernel
theorem dX9_saying_154 : decode cX9_saying 154 = .ok (.iinc 6 1, 3) := by decide +kernel
theorem dX9_saying_157 : decode cX9_saying 157 = .ok (.goto (-49), 3) := by decide +kernel
theorem dX9_saying_160 : decode cX9_saying 160 = .ok (.iinc 5 1, 3) := by decide +kernel
theorem dX9_saying_163 : decode cX9_saying 163 = .ok (.goto (-69), 3) := by decide +kernel
theorem dX9_saying_166 : decode cX9_saying 166 = .ok (.bipush (-4), 2) := by decide +kernel
theorem dX9_saying_168 : decode cX9_saying 168 = .ok (.ireturn, 1) := by decide +kernel
theorem dX9_duty_0 : decode cX9_duty 0 = .ok (.aload_n 0, 1) := by decide +kernel
theorem dX9_duty_1 : decode cX9_duty 1 = .ok (.getfield 21, 3) := by decide +kernel
theorem dX9_duty_4 : decode cX9_duty 4 = .ok (.aload_n 0, 1) := by decide +kernel
theorem dX9_duty_5 : decode cX9_duty 5 = .ok (.getfield 79, 3) := by decide +kernel
theorem dX9_duty_8 : decode cX9_duty 8 = .ok (.invokevirtual 296, 3) := by decide +kernel
theorem dX9_duty_11 : decode cX9_duty 11 = .ok (.istore_n 1, 1) := by decide +kernel
theorem dX9_duty_12 : decode cX9_duty 12 = .ok (.aload_n 0, 1) := by decide +kernel
theorem dX9_duty_13 : decode cX9_duty 13 = .ok (.getfield 10, 3) := by decide +kernel
theorem dX9_duty_16 : decode cX9_duty 16 = .ok (.iconst 0, 1) := by decide +kernel
theorem dX9_duty_17 : decode cX9_duty 17 = .ok (.putfield 104, 3) := by decide +kernel
theorem dX9_duty_20 : decode cX9_duty 20 = .ok (.iload_n 1, 1) := by decide +kernel
theorem dX9_duty_21 : decode cX9_duty 21 = .ok (.ifCond .ge 5, 3) := by decide +kernel
theorem dX9_duty_24 : decode cX9_duty 24 = .ok (.iload_n 1, 1) := by decide +kernel
theorem dX9_duty_25 : decode cX9_duty 25 = .ok (.ireturn, 1) := by decide +kernel
theorem dX9_duty_26 : decode cX9_duty 26 = .ok (.aload_n 0, 1) := by decide +kernel
theorem dX9_duty_27 : decode cX9_duty 27 = .ok (.iconst 1, 1) := by decide +kernel
theorem dX9_duty_28 : decode cX9_duty 28 = .ok (.putfield 89, 3) := by decide +kernel
theorem dX9_duty_31 : decode cX9_duty 31 = .ok (.iload_n 1, 1) := by decide +kernel
theorem dX9_duty_32 : decode cX9_duty 32 = .ok (.ireturn, 1) := by decide +kernel
theorem dX9_broken_0 : decode cX9_broken 0 = .ok (.aload_n 0, 1) := by decide +kernel
theorem dX9_broken_1 : decode cX9_broken 1 = .ok (.getfield 89, 3) := by decide +kernel
theorem dX9_broken_4 : decode cX9_broken 4 = .ok (.ifCond .ne 6, 3) := by decide +kernel
theorem dX9_broken_7 : decode cX9_broken 7 = .ok (.bipush (-2), 2) := by decide +kernel
theorem dX9_broken_9 : decode cX9_broken 9 = .ok (.ireturn, 1) := by decide +kernel
theorem dX9_broken_10 : decode cX9_broken 10 = .ok (.aload_n 0, 1) := by decide +kernel
theorem dX9_broken_11 : decode cX9_broken 11 = .ok (.aload_n 0, 1) := by decide +kernel
theorem dX9_broken_12 : decode cX9_broken 12 = .ok (.getfield 28, 3) := by decide +kernel
theorem dX9_broken_15 : decode cX9_broken 15 = .ok (.iconst 0, 1) := by decide +kernel
theorem dX9_broken_16 : decode cX9_broken 16 = .ok (.aaload, 1) := by decide +kernel
theorem dX9_broken_17 : decode cX9_broken 17 = .ok (.invokevirtual 159, 3) := by decide +kernel
theorem dX9_broken_20 : decode cX9_broken 20 = .ok (.iconst 0, 1) := by decide +kernel
theorem dX9_broken_21 : decode cX9_broken 21 = .ok (.istore_n 1, 1) := by decide +kernel
theorem dX9_broken_22 : decode cX9_broken 22 = .ok (.iload_n 1, 1) := by decide +kernel
theorem dX9_broken_23 : decode cX9_broken 23 = .ok (.aload_n 0, 1) := by decide +kernel
theorem dX9_broken_24 : decode cX9_broken 24 = .ok (.getfield 39, 3) := by decide +kernel
theorem dX9_broken_27 : decode cX9_broken 27 = .ok (.getfield 133, 3) := by decide +kernel
theorem dX9_broken_30 : decode cX9_broken 30 = .ok (.if_icmp .ge 66, 3) := by decide +kernel
theorem dX9_broken_33 : decode cX9_broken 33 = .ok (.aload_n 0, 1) := by decide +kernel
theorem dX9_broken_34 : decode cX9_broken 34 = .ok (.getfield 79, 3) := by decide +kernel
theorem dX9_broken_37 : decode cX9_broken 37 = .ok (.aload_n 0, 1) := by decide +kernel
theorem dX9_broken_38 : decode cX9_broken 38 = .ok (.getfield 46, 3) := by decide +kernel
theorem dX9_broken_41 : decode cX9_broken 41 = .ok (.getfield 169, 3) := by decide +kernel
theorem dX9_broken_44 : decode cX9_broken 44 = .ok (.iload_n 1, 1) := by decide +kernel
theorem dX9_broken_45 : decode cX9_broken 45 = .ok (.iaload, 1) := by decide +kernel
theorem dX9_broken_46 : decode cX9_broken 46 = .ok (.iconst 4, 1) := by decide +kernel
theorem dX9_broken_47 : decode cX9_broken 47 = .ok (.imul, 1) := by decide +kernel
theorem dX9_broken_48 : decode cX9_broken 48 = .ok (.aload_n 0, 1) := by decide +kernel
theorem dX9_broken_49 : decode cX9_broken 49 = .ok (.getfield 46, 3) := by decide +kernel
theorem dX9_broken_52 : decode cX9_broken 52 = .ok (.getfield 163, 3) := by decide +kernel
theorem dX9_broken_55 : decode cX9_broken 55 = .ok (.iload_n 1, 1) := by decide +kernel
theorem dX9_broken_56 : decode cX9_broken 56 = .ok (.iaload, 1) := by decide +kernel
theorem dX9_broken_57 : decode cX9_broken 57 = .ok (.iadd, 1) := by decide +kernel
theorem dX9_broken_58 : decode cX9_broken 58 = .ok (.iaload, 1) := by decide +kernel
theorem dX9_broken_59 : decode cX9_broken 59 = .ok (.istore_n 2, 1) := by decide +kernel
theorem dX9_broken_60 : decode cX9_broken 60 = .ok (.iload_n 2, 1) := by decide +kernel
theorem dX9_broken_61 : decode cX9_broken 61 = .ok (.iconst 2, 1) := by decide +kernel
theorem dX9_broken_62 : decode cX9_broken 62 = .ok (.aload_n 0, 1) := by decide +kernel
theorem dX9_broken_63 : decode cX9_broken 63 = .ok (.getfield 46, 3) := by decide +kernel
theorem dX9_broken_66 : decode cX9_broken 66 = .ok (.getfield 174, 3) := by decide +kernel
theorem dX9_broken_69 : decode cX9_broken 69 = .ok (.iload_n 1, 1) := by decide +kernel
theorem dX9_broken_70 : decode cX9_broken 70 = .ok (.iaload, 1) := by decide +kernel
theorem dX9_broken_71 : decode cX9_broken 71 = .ok (.imul, 1) := by decide +kernel
theorem dX9_broken_72 : decode cX9_broken 72 = .ok (.aload_n 0, 1) := by decide +kernel
theorem dX9_broken_73 : decode cX9_broken 73 = .ok (.getfield 46, 3) := by decide +kernel
theorem dX9_broken_76 : decode cX9_broken 76 = .ok (.getfield 180, 3) := by decide +kernel
theorem dX9_broken_79 : decode cX9_broken 79 = .ok (.iload_n 1, 1) := by decide +kernel
theorem dX9_broken_80 : decode cX9_broken 80 = .ok (.iaload, 1) := by decide +kernel
theorem dX9_broken_81 : decode cX9_broken 81 = .ok (.iadd, 1) := by decide +kernel
theorem dX9_broken_82 : decode cX9_broken 82 = .ok (.iushr, 1) := by decide +kernel
theorem dX9_broken_83 : decode cX9_broken 83 = .ok (.iconst 1, 1) := by decide +kernel
theorem dX9_broken_84 : decode cX9_broken 84 = .ok (.iand, 1) := by decide +kernel
theorem dX9_broken_85 : decode cX9_broken 85 = .ok (.ifCond .ne 5, 3) := by decide +kernel
theorem dX9_broken_88 : decode cX9_broken 88 = .ok (.iload_n 1, 1) := by decide +kernel
theorem dX9_broken_89 : decode cX9_broken 89 = .ok (.ireturn, 1) := by decide +kernel
theorem dX9_broken_90 : decode cX9_broken 90 = .ok (.iinc 1 1, 3) := by decide +kernel
theorem dX9_broken_93 : decode cX9_broken 93 = .ok (.goto (-71), 3) := by decide +kernel
theorem dX9_broken_96 : decode cX9_broken 96 = .ok (.bipush (-4), 2) := by decide +kernel
theorem dX9_broken_98 : decode cX9_broken 98 = .ok (.ireturn, 1) := by decide +kernel
theorem dX9_sheet_0 : decode cX9_sheet 0 = .ok (.aload_n 0, 1) := by decide +kernel
theorem dX9_sheet_1 : decode cX9_sheet 1 = .ok (.iload_n 1, 1) := by decide +kernel
theorem dX9_sheet_2 : decode cX9_sheet 2 = .ok (.invokevirtual 144, 3) := by decide +kernel
theorem dX9_sheet_5 : decode cX9_sheet 5 = .ok (.ifCond .ne 17, 3) := by decide +kernel
theorem dX9_sheet_8 : decode cX9_sheet 8 = .ok (.iload_n 2, 1) := by decide +kernel
theorem dX9_sheet_9 : decode cX9_sheet 9 = .ok (.iconst 2, 1) := by decide +kernel
theorem dX9_sheet_10 : decode cX9_sheet 10 = .ok (.invokestatic 120, 3) := by decide +kernel
theorem dX9_sheet_13 : decode cX9_sheet 13 = .ok (.ifCond .ne 9, 3) := by decide +kernel
theorem dX9_sheet_16 : decode cX9_sheet 16 = .ok (.iload_n 3, 1) := by decide +kernel
theorem dX9_sheet_17 : decode cX9_sheet 17 = .ok (.bipush 48, 2) := by decide +kernel
theorem dX9_sheet_19 : decode cX9_sheet 19 = .ok (.if_icmp .le 5, 3) := by decide +kernel
theorem dX9_sheet_22 : decode cX9_sheet 22 = .ok (.iconst (-1), 1) := by decide +kernel
theorem dX9_sheet_23 : decode cX9_sheet 23 = .ok (.ireturn, 1) := by decide +kernel
theorem dX9_sheet_24 : decode cX9_sheet 24 = .ok (.iload_n 3, 1) := by decide +kernel
theorem dX9_sheet_25 : decode cX9_sheet 25 = .ok (.ifCond .ge 6, 3) := by decide +kernel
theorem dX9_sheet_28 : decode cX9_sheet 28 = .ok (.bipush (-14), 2) := by decide +kernel
theorem dX9_sheet_30 : decode cX9_sheet 30 = .ok (.ireturn, 1) := by decide +kernel
theorem dX9_sheet_31 : decode cX9_sheet 31 = .ok (.aload_n 0, 1) := by decide +kernel
theorem dX9_sheet_32 : decode cX9_sheet 32 = .ok (.getfield 85, 3) := by decide +kernel
theorem dX9_sheet_35 : decode cX9_sheet 35 = .ok (.iload_n 1, 1) := by decide +kernel
theorem dX9_sheet_36 : decode cX9_sheet 36 = .ok (.aaload, 1) := by decide +kernel
theorem dX9_sheet_37 : decode cX9_sheet 37 = .ok (.iload_n 2, 1) := by decide +kernel
theorem dX9_sheet_38 : decode cX9_sheet 38 = .ok (.iload_n 3, 1) := by decide +kernel
theorem dX9_sheet_39 : decode cX9_sheet 39 = .ok (.invokevirtual 300, 3) := by decide +kernel
theorem dX9_sheet_42 : decode cX9_sheet 42 = .ok (.iload_n 3, 1) := by decide +kernel
theorem dX9_sheet_43 : decode cX9_sheet 43 = .ok (.ireturn, 1) := by decide +kernel
theorem dX9_drop_0 : decode cX9_drop 0 = .ok (.aload_n 0, 1) := by decide +kernel
theorem dX9_drop_1 : decode cX9_drop 1 = .ok (.iload_n 1, 1) := by decide +kernel
theorem dX9_drop_2 : decode cX9_drop 2 = .ok (.invokevirtual 144, 3) := by decide +kernel
theorem dX9_drop_5 : decode cX9_drop 5 = .ok (.ifCond .eq 5, 3) := by decide +kernel
theorem dX9_drop_8 : decode cX9_drop 8 = .ok (.iconst (-1), 1) := by decide +kernel
theorem dX9_drop_9 : decode cX9_drop 9 = .ok (.ireturn, 1) := by decide +kernel
theorem dX9_drop_10 : decode cX9_drop 10 = .ok (.aload_n 0, 1) := by decide +kernel
theorem dX9_drop_11 : decode cX9_drop 11 = .ok (.getfield 85, 3) := by decide +kernel
theorem dX9_drop_14 : decode cX9_drop 14 = .ok (.iload_n 1, 1) := by decide +kernel
theorem dX9_drop_15 : decode cX9_drop 15 = .ok (.aaload, 1) := by decide +kernel
theorem dX9_drop_16 : decode cX9_drop 16 = .ok (.astore_n 2, 1) := by decide +kernel
theorem dX9_drop_17 : decode cX9_drop 17 = .ok (.aload_n 2, 1) := by decide +kernel
theorem dX9_drop_18 : decode cX9_drop 18 = .ok (.getfield 303, 3) := by decide +kernel
theorem dX9_drop_21 : decode cX9_drop 21 = .ok (.bipush (-4), 2) := by decide +kernel
theorem dX9_drop_23 : decode cX9_drop 23 = .ok (.if_icmp .ne 6, 3) := by decide +kernel
theorem dX9_drop_26 : decode cX9_drop 26 = .ok (.bipush (-11), 2) := by decide +kernel
theorem dX9_drop_28 : decode cX9_drop 28 = .ok (.ireturn, 1) := by decide +kernel
theorem dX9_drop_29 : decode cX9_drop 29 = .ok (.aload_n 2, 1) := by decide +kernel
theorem dX9_drop_30 : decode cX9_drop 30 = .ok (.bipush (-4), 2) := by decide +kernel
theorem dX9_drop_32 : decode cX9_drop 32 = .ok (.putfield 303, 3) := by decide +kernel
theorem dX9_drop_35 : decode cX9_drop 35 = .ok (.aload_n 2, 1) := by decide +kernel
theorem dX9_drop_36 : decode cX9_drop 36 = .ok (.getfield 306, 3) := by decide +kernel
theorem dX9_drop_39 : decode cX9_drop 39 = .ok (.ireturn, 1) := by decide +kernel
theorem dX9_item_0 : decode cX9_item 0 = .ok (.aload_n 0, 1) := by decide +kernel
theorem dX9_item_1 : decode cX9_item 1 = .ok (.iload_n 1, 1) := by decide +kernel
theorem dX9_item_2 : decode cX9_item 2 = .ok (.invokevirtual 144, 3) := by decide +kernel
theorem dX9_item_5 : decode cX9_item 5 = .ok (.ifCond .ne 11, 3) := by decide +kernel
theorem dX9_item_8 : decode cX9_item 8 = .ok (.iload_n 2, 1) := by decide +kernel
theorem dX9_item_9 : decode cX9_item 9 = .ok (.iconst 2, 1) := by decide +kernel
theorem dX9_item_10 : decode cX9_item 10 = .ok (.invokestatic 120, 3) := by decide +kernel
theorem dX9_item_13 : decode cX9_item 13 = .ok (.ifCond .eq 5, 3) := by decide +kernel
theorem dX9_item_16 : decode cX9_item 16 = .ok (.iconst (-1), 1) := by decide +kernel
theorem dX9_item_17 : decode cX9_item 17 = .ok (.ireturn, 1) := by decide +kernel
theorem dX9_item_18 : decode cX9_item 18 = .ok (.aload_n 0, 1) := by decide +kernel
theorem dX9_item_19 : decode cX9_item 19 = .ok (.getfield 85, 3) := by decide +kernel
theorem dX9_item_22 : decode cX9_item 22 = .ok (.iload_n 1, 1) := by decide +kernel
theorem dX9_item_23 : decode cX9_item 23 = .ok (.aaload, 1) := by decide +kernel
theorem dX9_item_24 : decode cX9_item 24 = .ok (.astore 5, 2) := by decide +kernel
theorem dX9_item_26 : decode cX9_item 26 = .ok (.aload 5, 2) := by decide +kernel
theorem dX9_item_28 : decode cX9_item 28 = .ok (.iload_n 2, 1) := by decide +kernel
theorem dX9_item_29 : decode cX9_item 29 = .ok (.iload_n 3, 1) := by decide +kernel
theorem dX9_item_30 : decode cX9_item 30 = .ok (.iconst 1, 1) := by decide +kernel
theorem dX9_item_31 : decode cX9_item 31 = .ok (.invokevirtual 147, 3) := by decide +kernel
theorem dX9_item_34 : decode cX9_item 34 = .ok (.istore 6, 2) := by decide +kernel
theorem dX9_item_36 : decode cX9_item 36 = .ok (.iload 6, 2) := by decide +kernel
theorem dX9_item_38 : decode cX9_item 38 = .ok (.ifCond .ge 6, 3) := by decide +kernel
theorem dX9_item_41 : decode cX9_item 41 = .ok (.iload 6, 2) := by decide +kernel
theorem dX9_item_43 : decode cX9_item 43 = .ok (.ireturn, 1) := by decide +kernel
theorem dX9_item_44 : decode cX9_item 44 = .ok (.aload 5, 2) := by decide +kernel
theorem dX9_item_46 : decode cX9_item 46 = .ok (.getfield 151, 3) := by decide +kernel
theorem dX9_item_49 : decode cX9_item 49 = .ok (.iload_n 3, 1) := by decide +kernel
theorem dX9_item_50 : decode cX9_item 50 = .ok (.iload_n 2, 1) := by decide +kernel
theorem dX9_item_51 : decode cX9_item 51 = .ok (.ifCond .ne 16, 3) := by decide +kernel
theorem dX9_item_54 : decode cX9_item 54 = .ok (.iload 4, 2) := by decide +kernel
theorem dX9_item_56 : decode cX9_item 56 = .ok (.ifCond .eq 7, 3) := by decide +kernel
theorem dX9_item_59 : decode cX9_item 59 = .ok (.iconst 1, 1) := by decide +kernel
theorem dX9_item_60 : decode cX9_item 60 = .ok (.goto 20, 3) := by decide +kernel
theorem dX9_item_63 : decode cX9_item 63 = .ok (.iconst 0, 1) := by decide +kernel
theorem dX9_item_64 : decode cX9_item 64 = .ok (.goto 16, 3) := by decide +kernel
theorem dX9_item_67 : decode cX9_item 67 = .ok (.iload_n 2, 1) := by decide +kernel
theorem dX9_item_68 : decode cX9_item 68 = .ok (.iconst 1, 1) := by decide +kernel
theorem dX9_item_69 : decode cX9_item 69 = .ok (.if_icmp .ne 9, 3) := by decide +kernel
theorem dX9_item_72 : decode cX9_item 72 = .ok (.iload 4, 2) := by decide +kernel
theorem dX9_item_74 : decode cX9_item 74 = .ok (.i2b, 1) := by decide +kernel
theorem dX9_item_75 : decode cX9_item 75 = .ok (.goto 5, 3) := by decide +kernel
theorem dX9_item_78 : decode cX9_item 78 = .ok (.iload 4, 2) := by decide +kernel
theorem dX9_item_80 : decode cX9_item 80 = .ok (.iastore, 1) := by decide +kernel
theorem dX9_item_81 : decode cX9_item 81 = .ok (.iconst 1, 1) := by decide +kernel
theorem dX9_item_82 : decode cX9_item 82 = .ok (.ireturn, 1) := by decide +kernel
theorem dX9_copy_0 : decode cX9_copy 0 = .ok (.aload_n 0, 1) := by decide +kernel
theorem dX9_copy_1 : decode cX9_copy 1 = .ok (.iload_n 1, 1) := by decide +kernel
theorem dX9_copy_2 : decode cX9_copy 2 = .ok (.invokevirtual 144, 3) := by decide +kernel
theorem dX9_copy_5 : decode cX9_copy 5 = .ok (.ifCond .ne 11, 3) := by decide +kernel
theorem dX9_copy_8 : decode cX9_copy 8 = .ok (.aload_n 0, 1) := by decide +kernel
theorem dX9_copy_9 : decode cX9_copy 9 = .ok (.iload_n 3, 1) := by decide +kernel
theorem dX9_copy_10 : decode cX9_copy 10 = .ok (.invokevirtual 144, 3) := by decide +kernel
theorem dX9_copy_13 : decode cX9_copy 13 = .ok (.ifCond .eq 5, 3) := by decide +kernel
theorem dX9_copy_16 : decode cX9_copy 16 = .ok (.iconst (-1), 1) := by decide +kernel
theorem dX9_copy_17 : decode cX9_copy 17 = .ok (.ireturn, 1) := by decide +kernel
theorem dX9_copy_18 : decode cX9_copy 18 = .ok (.aload_n 0, 1) := by decide +kernel
theorem dX9_copy_19 : decode cX9_copy 19 = .ok (.getfield 85, 3) := by decide +kernel
theorem dX9_copy_22 : decode cX9_copy 22 = .ok (.iload_n 1, 1) := by decide +kernel
theorem dX9_copy_23 : decode cX9_copy 23 = .ok (.aaload, 1) := by decide +kernel
theorem dX9_copy_24 : decode cX9_copy 24 = .ok (.astore 6, 2) := by decide +kernel
theorem dX9_copy_26 : decode cX9_copy 26 = .ok (.aload_n 0, 1) := by decide +kernel
theorem dX9_copy_27 : decode cX9_copy 27 = .ok (.getfield 85, 3) := by decide +kernel
theorem dX9_copy_30 : decode cX9_copy 30 = .ok (.iload_n 3, 1) := by decide +kernel
theorem dX9_copy_31 : decode cX9_copy 31 = .ok (.aaload, 1) := by decide +kernel
theorem dX9_copy_32 : decode cX9_copy 32 = .ok (.astore 7, 2) := by decide +kernel
theorem dX9_copy_34 : decode cX9_copy 34 = .ok (.aload 6, 2) := by decide +kernel
theorem dX9_copy_36 : decode cX9_copy 36 = .ok (.getfield 303, 3) := by decide +kernel
theorem dX9_copy_39 : decode cX9_copy 39 = .ok (.bipush (-4), 2) := by decide +kernel
theorem dX9_copy_41 : decode cX9_copy 41 = .ok (.if_icmp .eq 13, 3) := by decide +kernel
theorem dX9_copy_44 : decode cX9_copy 44 = .ok (.aload 7, 2) := by decide +kernel
theorem dX9_copy_46 : decode cX9_copy 46 = .ok (.getfield 303, 3) := by decide +kernel
theorem dX9_copy_49 : decode cX9_copy 49 = .ok (.bipush (-4), 2) := by decide +kernel
theorem dX9_copy_51 : decode cX9_copy 51 = .ok (.if_icmp .ne 6, 3) := by decide +kernel
theorem dX9_copy_54 : decode cX9_copy 54 = .ok (.bipush (-11), 2) := by decide +kernel
theorem dX9_copy_56 : decode cX9_copy 56 = .ok (.ireturn, 1) := by decide +kernel
theorem dX9_copy_57 : decode cX9_copy 57 = .ok (.aload 6, 2) := by decide +kernel
theorem dX9_copy_59 : decode cX9_copy 59 = .ok (.getfield 303, 3) := by decide +kernel
theorem dX9_copy_62 : decode cX9_copy 62 = .ok (.aload 7, 2) := by decide +kernel
theorem dX9_copy_64 : decode cX9_copy 64 = .ok (.getfield 303, 3) := by decide +kernel
theorem dX9_copy_67 : decode cX9_copy 67 = .ok (.if_icmp .eq 6, 3) := by decide +kernel
theorem dX9_copy_70 : decode cX9_copy 70 = .ok (.bipush (-12), 2) := by decide +kernel
theorem dX9_copy_72 : decode cX9_copy 72 = .ok (.ireturn, 1) := by decide +kernel
theorem dX9_copy_73 : decode cX9_copy 73 = .ok (.aload 6, 2) := by decide +kernel
theorem dX9_copy_75 : decode cX9_copy 75 = .ok (.iload_n 2, 1) := by decide +kernel
theorem dX9_copy_76 : decode cX9_copy 76 = .ok (.iload 5, 2) := by decide +kernel
theorem dX9_copy_78 : decode cX9_copy 78 = .ok (.invokevirtual 307, 3) := by decide +kernel
theorem dX9_copy_81 : decode cX9_copy 81 = .ok (.ifCond .ne 15, 3) := by decide +kernel
theorem dX9_copy_84 : decode cX9_copy 84 = .ok (.aload 7, 2) := by decide +kernel
theorem dX9_copy_86 : decode cX9_copy 86 = .ok (.iload 4, 2) := by decide +kernel
theorem dX9_copy_88 : decode cX9_copy 88 = .ok (.iload 5, 2) := by decide +kernel
theorem dX9_copy_90 : decode cX9_copy 90 = .ok (.invokevirtual 307, 3) := by decide +kernel
theorem dX9_copy_93 : decode cX9_copy 93 = .ok (.ifCond .eq 6, 3) := by decide +kernel
theorem dX9_copy_96 : decode cX9_copy 96 = .ok (.bipush (-13), 2) := by decide +kernel
theorem dX9_copy_98 : decode cX9_copy 98 = .ok (.ireturn, 1) := by decide +kernel
theorem dX9_copy_99 : decode cX9_copy 99 = .ok (.aload 6, 2) := by decide +kernel
theorem dX9_copy_101 : decode cX9_copy 101 = .ok (.getfield 151, 3) := by decide +kernel
theorem dX9_copy_104 : decode cX9_copy 104 = .ok (.iload_n 2, 1) := by decide +kernel
theorem dX9_copy_105 : decode cX9_copy 105 = .ok (.aload 7, 2) := by decide +kernel
theorem dX9_copy_107 : decode cX9_copy 107 = .ok (.getfield 151, 3) := by decide +kernel
theorem dX9_copy_110 : decode cX9_copy 110 = .ok (.iload 4, 2) := by decide +kernel
theorem dX9_copy_112 : decode cX9_copy 112 = .ok (.iload 5, 2) := by decide +kernel
theorem dX9_copy_114 : decode cX9_copy 114 = .ok (.invokestatic 153, 3) := by decide +kernel
theorem dX9_copy_117 : decode cX9_copy 117 = .ok (.iload 5, 2) := by decide +kernel
theorem dX9_copy_119 : decode cX9_copy 119 = .ok (.ireturn, 1) := by decide +kernel
theorem dX9_beyond_0 : decode cX9_beyond 0 = .ok (.iload_n 0, 1) := by decide +kernel
theorem dX9_beyond_1 : decode cX9_beyond 1 = .ok (.ifCond .lt 8, 3) := by decide +kernel
theorem dX9_beyond_4 : decode cX9_beyond 4 = .ok (.iload_n 0, 1) := by decide +kernel
theorem dX9_beyond_5 : decode cX9_beyond 5 = .ok (.iload_n 1, 1) := by decide +kernel
theorem dX9_beyond_6 : decode cX9_beyond 6 = .ok (.if_icmp .le 7, 3) := by decide +kernel
theorem dX9_beyond_9 : decode cX9_beyond 9 = .ok (.iconst 1, 1) := by decide +kernel
theorem dX9_beyond_10 : decode cX9_beyond 10 = .ok (.goto 4, 3) := by decide +kernel
theorem dX9_beyond_13 : decode cX9_beyond 13 = .ok (.iconst 0, 1) := by decide +kernel
theorem dX9_beyond_14 : decode cX9_beyond 14 = .ok (.ireturn, 1) := by decide +kernel
theorem dX9_byteOf_0 : decode cX9_byteOf 0 = .ok (.lload_n 0, 1) := by decide +kernel
theorem dX9_byteOf_1 : decode cX9_byteOf 1 = .ok (.bipush 8, 2) := by decide +kernel
theorem dX9_byteOf_3 : decode cX9_byteOf 3 = .ok (.iload_n 2, 1) := by decide +kernel
theorem dX9_byteOf_4 : decode cX9_byteOf 4 = .ok (.imul, 1) := by decide +kernel
theorem dX9_byteOf_5 : decode cX9_byteOf 5 = .ok (.lushr, 1) := by decide +kernel
theorem dX9_byteOf_6 : decode cX9_byteOf 6 = .ok (.l2i, 1) := by decide +kernel
theorem dX9_byteOf_7 : decode cX9_byteOf 7 = .ok (.sipush 255, 3) := by decide +kernel
theorem dX9_byteOf_10 : decode cX9_byteOf 10 = .ok (.iand, 1) := by decide +kernel
theorem dX9_byteOf_11 : decode cX9_byteOf 11 = .ok (.ireturn, 1) := by decide +kernel
theorem dX9_noMachine_0 : decode cX9_noMachine 0 = .ok (.iload_n 1, 1) := by decide +kernel
theorem dX9_noMachine_1 : decode cX9_noMachine 1 = .ok (.aload_n 0, 1) := by decide +kernel
theorem dX9_noMachine_2 : decode cX9_noMachine 2 = .ok (.getfield 28, 3) := by decide +kernel
theorem dX9_noMachine_5 : decode cX9_noMachine 5 = .ok (.arraylength, 1) := by decide +kernel
theorem dX9_noMachine_6 : decode cX9_noMachine 6 = .ok (.iconst 1, 1) := by decide +kernel
theorem dX9_noMachine_7 : decode cX9_noMachine 7 = .ok (.isub, 1) := by decide +kernel
theorem dX9_noMachine_8 : decode cX9_noMachine 8 = .ok (.invokestatic 120, 3) := by decide +kernel
theorem dX9_noMachine_11 : decode cX9_noMachine 11 = .ok (.ireturn, 1) := by decide +kernel
theorem dX9_noTick_0 : decode cX9_noTick 0 = .ok (.iload_n 1, 1) := by decide +kernel
theorem dX9_noTick_1 : decode cX9_noTick 1 = .ok (.aload_n 0, 1) := by decide +kernel
theorem dX9_noTick_2 : decode cX9_noTick 2 = .ok (.getfield 39, 3) := by decide +kernel
theorem dX9_noTick_5 : decode cX9_noTick 5 = .ok (.getfield 133, 3) := by decide +kernel
theorem dX9_noTick_8 : decode cX9_noTick 8 = .ok (.iconst 1, 1) := by decide +kernel
theorem dX9_noTick_9 : decode cX9_noTick 9 = .ok (.isub, 1) := by decide +kernel
theorem dX9_noTick_10 : decode cX9_noTick 10 = .ok (.invokestatic 120, 3) := by decide +kernel
theorem dX9_noTick_13 : decode cX9_noTick 13 = .ok (.ireturn, 1) := by decide +kernel
theorem dX9_noSheet_0 : decode cX9_noSheet 0 = .ok (.iload_n 1, 1) := by decide +kernel
theorem dX9_noSheet_1 : decode cX9_noSheet 1 = .ok (.aload_n 0, 1) := by decide +kernel
theorem dX9_noSheet_2 : decode cX9_noSheet 2 = .ok (.getfield 85, 3) := by decide +kernel
theorem dX9_noSheet_5 : decode cX9_noSheet 5 = .ok (.arraylength, 1) := by decide +kernel
theorem dX9_noSheet_6 : decode cX9_noSheet 6 = .ok (.iconst 1, 1) := by decide +kernel
theorem dX9_noSheet_7 : decode cX9_noSheet 7 = .ok (.isub, 1) := by decide +kernel
theorem dX9_noSheet_8 : decode cX9_noSheet 8 = .ok (.invokestatic 120, 3) := by decide +kernel
theorem dX9_noSheet_11 : decode cX9_noSheet 11 = .ok (.ireturn, 1) := by decide +kernel
theorem dX9_noLine_0 : decode cX9_noLine 0 = .ok (.iload_n 1, 1) := by decide +kernel
theorem dX9_noLine_1 : decode cX9_noLine 1 = .ok (.aload_n 0, 1) := by decide +kernel
theorem dX9_noLine_2 : decode cX9_noLine 2 = .ok (.getfield 53, 3) := by decide +kernel
theorem dX9_noLine_5 : decode cX9_noLine 5 = .ok (.getfield 173, 3) := by decide +kernel
theorem dX9_noLine_8 : decode cX9_noLine 8 = .ok (.iconst 1, 1) := by decide +kernel
theorem dX9_noLine_9 : decode cX9_noLine 9 = .ok (.isub, 1) := by decide +kernel
theorem dX9_noLine_10 : decode cX9_noLine 10 = .ok (.invokestatic 120, 3) := by decide +kernel
theorem dX9_noLine_13 : decode cX9_noLine 13 = .ok (.ireturn, 1) := by decide +kernel
theorem dX9_noKeeper_0 : decode cX9_noKeeper 0 = .ok (.iload_n 1, 1) := by decide +kernel
theorem dX9_noKeeper_1 : decode cX9_noKeeper 1 = .ok (.aload_n 0, 1) := by decide +kernel
theorem dX9_noKeeper_2 : decode cX9_noKeeper 2 = .ok (.getfield 60, 3) := by decide +kernel
theorem dX9_noKeeper_5 : decode cX9_noKeeper 5 = .ok (.arraylength, 1) := by decide +kernel
theorem dX9_noKeeper_6 : decode cX9_noKeeper 6 = .ok (.iconst 1, 1) := by decide +kernel
theorem dX9_noKeeper_7 : decode cX9_noKeeper 7 = .ok (.isub, 1) := by decide +kernel
theorem dX9_noKeeper_8 : decode cX9_noKeeper 8 = .ok (.invokestatic 120, 3) := by decide +kernel
theorem dX9_noKeeper_11 : decode cX9_noKeeper 11 = .ok (.ireturn, 1) := by decide +kernel
theorem dX9_playAsIs_0 : decode cX9_playAsIs 0 = .ok (.aload_n 0, 1) := by decide +kernel
theorem dX9_playAsIs_1 : decode cX9_playAsIs 1 = .ok (.getfield 46, 3) := by decide +kernel
theorem dX9_playAsIs_4 : decode cX9_playAsIs 4 = .ok (.aload_n 0, 1) := by decide +kernel
theorem dX9_playAsIs_5 : decode cX9_playAsIs 5 = .ok (.getfield 39, 3) := by decide +kernel
theorem dX9_playAsIs_8 : decode cX9_playAsIs 8 = .ok (.invokevirtual 229, 3) := by decide +kernel
theorem dX9_playAsIs_11 : decode cX9_playAsIs 11 = .ok (.aload_n 0, 1) := by decide +kernel
theorem dX9_playAsIs_12 : decode cX9_playAsIs 12 = .ok (.getfield 46, 3) := by decide +kernel
theorem dX9_playAsIs_15 : decode cX9_playAsIs 15 = .ok (.aload_n 1, 1) := by decide +kernel
theorem dX9_playAsIs_16 : decode cX9_playAsIs 16 = .ok (.sipush 255, 3) := by decide +kernel
theorem dX9_playAsIs_19 : decode cX9_playAsIs 19 = .ok (.aload_n 0, 1) := by decide +kernel
theorem dX9_playAsIs_20 : decode cX9_playAsIs 20 = .ok (.getfield 39, 3) := by decide +kernel
theorem dX9_playAsIs_23 : decode cX9_playAsIs 23 = .ok (.getfield 133, 3) := by decide +kernel
theorem dX9_playAsIs_26 : decode cX9_playAsIs 26 = .ok (.invokevirtual 236, 3) := by decide +kernel
theorem dX9_playAsIs_29 : decode cX9_playAsIs 29 = .ok (.return_, 1) := by decide +kernel
theorem dX9_countHolders_0 : decode cX9_countHolders 0 = .ok (.iconst 0, 1) := by decide +kernel
theorem dX9_countHolders_1 : decode cX9_countHolders 1 = .ok (.istore_n 1, 1) := by decide +kernel
theorem dX9_countHolders_2 : decode cX9_countHolders 2 = .ok (.iconst 0, 1) := by decide +kernel
theorem dX9_countHolders_3 : decode cX9_countHolders 3 = .ok (.istore_n 2, 1) := by decide +kernel
theorem dX9_countHolders_4 : decode cX9_countHolders 4 = .ok (.iload_n 2, 1) := by decide +kernel
theorem dX9_countHolders_5 : decode cX9_countHolders 5 = .ok (.aload_n 0, 1) := by decide +kernel
theorem dX9_countHolders_6 : decode cX9_countHolders 6 = .ok (.getfield 60, 3) := by decide +kernel
theorem dX9_countHolders_9 : decode cX9_countHolders 9 = .ok (.arraylength, 1) := by decide +kernel
theorem dX9_countHolders_10 : decode cX9_countHolders 10 = .ok (.if_icmp .ge 24, 3) := by decide +kernel
theorem dX9_countHolders_13 : decode cX9_countHolders 13 = .ok (.aload_n 0, 1) := by decide +kernel
theorem dX9_countHolders_14 : decode cX9_countHolders 14 = .ok (.getfield 60, 3) := by decide +kernel
theorem dX9_countHolders_17 : decode cX9_countHolders 17 = .ok (.iload_n 2, 1) := by decide +kernel
theorem dX9_countHolders_18 : decode cX9_countHolders 18 = .ok (.aaload, 1) := by decide +kernel
theorem dX9_countHolders_19 : decode cX9_countHolders 19 = .ok (.getfield 225, 3) := by decide +kernel
theorem dX9_countHolders_22 : decode cX9_countHolders 22 = .ok (.ifCond .le 6, 3) := by decide +kernel
theorem dX9_countHolders_25 : decode cX9_countHolders 25 = .ok (.iinc 1 1, 3) := by decide +kernel
theorem dX9_countHolders_28 : decode cX9_countHolders 28 = .ok (.iinc 2 1, 3) := by decide +kernel
theorem dX9_countHolders_31 : decode cX9_countHolders 31 = .ok (.goto (-27), 3) := by decide +kernel
theorem dX9_countHolders_34 : decode cX9_countHolders 34 = .ok (.iload_n 1, 1) := by decide +kernel
theorem dX9_countHolders_35 : decode cX9_countHolders 35 = .ok (.ireturn, 1) := by decide +kernel
theorem dX9_isHeld_0 : decode cX9_isHeld 0 = .ok (.iconst 0, 1) := by decide +kernel
theorem dX9_isHeld_1 : decode cX9_isHeld 1 = .ok (.istore_n 3, 1) := by decide +kernel
theorem dX9_isHeld_2 : decode cX9_isHeld 2 = .ok (.iconst 0, 1) := by decide +kernel
theorem dX9_isHeld_3 : decode cX9_isHeld 3 = .ok (.istore 4, 2) := by decide +kernel
theorem dX9_isHeld_5 : decode cX9_isHeld 5 = .ok (.iload 4, 2) := by decide +kernel
theorem dX9_isHeld_7 : decode cX9_isHeld 7 = .ok (.aload_n 0, 1) := by decide +kernel
theorem dX9_isHeld_8 : decode cX9_isHeld 8 = .ok (.getfield 60, 3) := by decide +kernel
theorem dX9_isHeld_11 : decode cX9_isHeld 11 = .ok (.arraylength, 1) := by decide +kernel
theorem dX9_isHeld_12 : decode cX9_isHeld 12 = .ok (.if_icmp .ge 52, 3) := by decide +kernel
theorem dX9_isHeld_15 : decode cX9_isHeld 15 = .ok (.iload_n 1, 1) := by decide +kernel
theorem dX9_isHeld_16 : decode cX9_isHeld 16 = .ok (.aload_n 0, 1) := by decide +kernel
theorem dX9_isHeld_17 : decode cX9_isHeld 17 = .ok (.getfield 60, 3) := by decide +kernel
theorem dX9_isHeld_20 : decode cX9_isHeld 20 = .ok (.iload 4, 2) := by decide +kernel
theorem dX9_isHeld_22 : decode cX9_isHeld 22 = .ok (.aaload, 1) := by decide +kernel
theorem dX9_isHeld_23 : decode cX9_isHeld 23 = .ok (.getfield 225, 3) := by decide +kernel
theorem dX9_isHeld_26 : decode cX9_isHeld 26 = .ok (.if_icmp .ge 32, 3) := by decide +kernel
theorem dX9_isHeld_29 : decode cX9_isHeld 29 = .ok (.aload_n 0, 1) := by decide +kernel
theorem dX9_isHeld_30 : decode cX9_isHeld 30 = .ok (.getfield 60, 3) := by decide +kernel
theorem dX9_isHeld_33 : decode cX9_isHeld 33 = .ok (.iload 4, 2) := by decide +kernel
theorem dX9_isHeld_35 : decode cX9_isHeld 35 = .ok (.aaload, 1) := by decide +kernel
theorem dX9_isHeld_36 : decode cX9_isHeld 36 = .ok (.getfield 226, 3) := by decide +kernel
theorem dX9_isHeld_39 : decode cX9_isHeld 39 = .ok (.iload_n 1, 1) := by decide +kernel
theorem dX9_isHeld_40 : decode cX9_isHeld 40 = .ok (.iaload, 1) := by decide +kernel
theorem dX9_isHeld_41 : decode cX9_isHeld 41 = .ok (.aload_n 0, 1) := by decide +kernel
theorem dX9_isHeld_42 : decode cX9_isHeld 42 = .ok (.getfield 53, 3) := by decide +kernel
theorem dX9_isHeld_45 : decode cX9_isHeld 45 = .ok (.getfield 198, 3) := by decide +kernel
theorem dX9_isHeld_48 : decode cX9_isHeld 48 = .ok (.iconst 3, 1) := by decide +kernel
theorem dX9_isHeld_49 : decode cX9_isHeld 49 = .ok (.aaload, 1) := by decide +kernel
theorem dX9_isHeld_50 : decode cX9_isHeld 50 = .ok (.iload_n 1, 1) := by decide +kernel
theorem dX9_isHeld_51 : decode cX9_isHeld 51 = .ok (.iaload, 1) := by decide +kernel
theorem dX9_isHeld_52 : decode cX9_isHeld 52 = .ok (.if_icmp .ne 6, 3) := by decide +kernel
theorem dX9_isHeld_55 : decode cX9_isHeld 55 = .ok (.iinc 3 1, 3) := by decide +kernel
theorem dX9_isHeld_58 : decode cX9_isHeld 58 = .ok (.iinc 4 1, 3) := by decide +kernel
theorem dX9_isHeld_61 : decode cX9_isHeld 61 = .ok (.goto (-56), 3) := by decide +kernel
theorem dX9_isHeld_64 : decode cX9_isHeld 64 = .ok (.iload_n 3, 1) := by decide +kernel
theorem dX9_isHeld_65 : decode cX9_isHeld 65 = .ok (.iload_n 2, 1) := by decide +kernel
theorem dX9_isHeld_66 : decode cX9_isHeld 66 = .ok (.iconst 1, 1) := by decide +kernel
theorem dX9_isHeld_67 : decode cX9_isHeld 67 = .ok (.if_icmp .ne 7, 3) := by decide +kernel
theorem dX9_isHeld_70 : decode cX9_isHeld 70 = .ok (.iconst 1, 1) := by decide +kernel
theorem dX9_isHeld_71 : decode cX9_isHeld 71 = .ok (.goto 4, 3) := by decide +kernel
theorem dX9_isHeld_74 : decode cX9_isHeld 74 = .ok (.iconst 2, 1) := by decide +kernel
theorem dX9_isHeld_75 : decode cX9_isHeld 75 = .ok (.if_icmp .lt 7, 3) := by decide +kernel
theorem dX9_isHeld_78 : decode cX9_isHeld 78 = .ok (.iconst 1, 1) := by decide +kernel
theorem dX9_isHeld_79 : decode cX9_isHeld 79 = .ok (.goto 4, 3) := by decide +kernel
theorem dX9_isHeld_82 : decode cX9_isHeld 82 = .ok (.iconst 0, 1) := by decide +kernel
theorem dX9_isHeld_83 : decode cX9_isHeld 83 = .ok (.ireturn, 1) := by decide +kernel
theorem dX9_seeByBook_0 : decode cX9_seeByBook 0 = .ok (.aload_n 0, 1) := by decide +kernel
theorem dX9_seeByBook_1 : decode cX9_seeByBook 1 = .ok (.getfield 53, 3) := by decide +kernel
theorem dX9_seeByBook_4 : decode cX9_seeByBook 4 = .ok (.getfield 173, 3) := by decide +kernel
theorem dX9_seeByBook_7 : decode cX9_seeByBook 7 = .ok (.iconst 1, 1) := by decide +kernel
theorem dX9_seeByBook_8 : decode cX9_seeByBook 8 = .ok (.isub, 1) := by decide +kernel
theorem dX9_seeByBook_9 : decode cX9_seeByBook 9 = .ok (.istore_n 1, 1) := by decide +kernel
theorem dX9_seeByBook_10 : decode cX9_seeByBook 10 = .ok (.iload_n 1, 1) := by decide +kernel
theorem dX9_seeByBook_11 : decode cX9_seeByBook 11 = .ok (.ifCond .lt 93, 3) := by decide +kernel
theorem dX9_seeByBook_14 : decode cX9_seeByBook 14 = .ok (.aload_n 0, 1) := by decide +kernel
theorem dX9_seeByBook_15 : decode cX9_seeByBook 15 = .ok (.getfield 53, 3) := by decide +kernel
theorem dX9_seeByBook_18 : decode cX9_seeByBook 18 = .ok (.getfield 198, 3) := by decide +kernel
theorem dX9_seeByBook_21 : decode cX9_seeByBook 21 = .ok (.iconst 1, 1) := by decide +kernel
theorem dX9_seeByBook_22 : decode cX9_seeByBook 22 = .ok (.aaload, 1) := by decide +kernel
theorem dX9_seeByBook_23 : decode cX9_seeByBook 23 = .ok (.iload_n 1, 1) := by decide +kernel
theorem dX9_seeByBook_24 : decode cX9_seeByBook 24 = .ok (.iaload, 1) := by decide +kernel
theorem dX9_seeByBook_25 : decode cX9_seeByBook 25 = .ok (.istore_n 2, 1) := by decide +kernel
theorem dX9_seeByBook_26 : decode cX9_seeByBook 26 = .ok (.aload_n 0, 1) := by decide +kernel
theorem dX9_seeByBook_27 : decode cX9_seeByBook 27 = .ok (.getfield 53, 3) := by decide +kernel
theorem dX9_seeByBook_30 : decode cX9_seeByBook 30 = .ok (.getfield 198, 3) := by decide +kernel
theorem dX9_seeByBook_33 : decode cX9_seeByBook 33 = .ok (.iconst 0, 1) := by decide +kernel
theorem dX9_seeByBook_34 : decode cX9_seeByBook 34 = .ok (.aaload, 1) := by decide +kernel
theorem dX9_seeByBook_35 : decode cX9_seeByBook 35 = .ok (.iload_n 1, 1) := by decide +kernel
theorem dX9_seeByBook_36 : decode cX9_seeByBook 36 = .ok (.iaload, 1) := by decide +kernel
theorem dX9_seeByBook_37 : decode cX9_seeByBook 37 = .ok (.ifCond .ne 26, 3) := by decide +kernel
theorem dX9_seeByBook_40 : decode cX9_seeByBook 40 = .ok (.aload_n 0, 1) := by decide +kernel
theorem dX9_seeByBook_41 : decode cX9_seeByBook 41 = .ok (.getfield 46, 3) := by decide +kernel
theorem dX9_seeByBook_44 : decode cX9_seeByBook 44 = .ok (.getfield 174, 3) := by decide +kernel
theorem dX9_seeByBook_47 : decode cX9_seeByBook 47 = .ok (.iload_n 2, 1) := by decide +kernel
theorem dX9_seeByBook_48 : decode cX9_seeByBook 48 = .ok (.aload_n 0, 1) := by decide +kernel
theorem dX9_seeByBook_49 : decode cX9_seeByBook 49 = .ok (.getfield 53, 3) := by decide +kernel
theorem dX9_seeByBook_52 : decode cX9_seeByBook 52 = .ok (.getfield 198, 3) := by decide +kernel
theorem dX9_seeByBook_55 : decode cX9_seeByBook 55 = .ok (.iconst 2, 1) := by decide +kernel
theorem dX9_seeByBook_56 : decode cX9_seeByBook 56 = .ok (.aaload, 1) := by decide +kernel
theorem dX9_seeByBook_57 : decode cX9_seeByBook 57 = .ok (.iload_n 1, 1) := by decide +kernel
theorem dX9_seeByBook_58 : decode cX9_seeByBook 58 = .ok (.iaload, 1) := by decide +kernel
theorem dX9_seeByBook_59 : decode cX9_seeByBook 59 = .ok (.iastore, 1) := by decide +kernel
theorem dX9_seeByBook_60 : decode cX9_seeByBook 60 = .ok (.goto 38, 3) := by decide +kernel
theorem dX9_seeByBook_63 : decode cX9_seeByBook 63 = .ok (.aload_n 0, 1) := by decide +kernel
theorem dX9_seeByBook_64 : decode cX9_seeByBook 64 = .ok (.getfield 53, 3) := by decide +kernel
theorem dX9_seeByBook_67 : decode cX9_seeByBook 67 = .ok (.getfield 198, 3) := by decide +kernel
theorem dX9_seeByBook_70 : decode cX9_seeByBook 70 = .ok (.iconst 0, 1) := by decide +kernel
theorem dX9_seeByBook_71 : decode cX9_seeByBook 71 = .ok (.aaload, 1) := by decide +kernel
theorem dX9_seeByBook_72 : decode cX9_seeByBook 72 = .ok (.iload_n 1, 1) := by decide +kernel
theorem dX9_seeByBook_73 : decode cX9_seeByBook 73 = .ok (.iaload, 1) := by decide +kernel
theorem dX9_seeByBook_74 : decode cX9_seeByBook 74 = .ok (.iconst 3, 1) := by decide +kernel
theorem dX9_seeByBook_75 : decode cX9_seeByBook 75 = .ok (.if_icmp .ne 23, 3) := by decide +kernel
theorem dX9_seeByBook_78 : decode cX9_seeByBook 78 = .ok (.aload_n 0, 1) := by decide +kernel
theorem dX9_seeByBook_79 : decode cX9_seeByBook 79 = .ok (.getfield 46, 3) := by decide +kernel
theorem dX9_seeByBook_82 : decode cX9_seeByBook 82 = .ok (.getfield 180, 3) := by decide +kernel
theorem dX9_seeByBook_85 : decode cX9_seeByBook 85 = .ok (.iload_n 2, 1) := by decide +kernel
theorem dX9_seeByBook_86 : decode cX9_seeByBook 86 = .ok (.aload_n 0, 1) := by decide +kernel
theorem dX9_seeByBook_87 : decode cX9_seeByBook 87 = .ok (.getfield 53, 3) := by decide +kernel
theorem dX9_seeByBook_90 : decode cX9_seeByBook 90 = .ok (.getfield 198, 3) := by decide +kernel
theorem dX9_seeByBook_93 : decode cX9_seeByBook 93 = .ok (.iconst 2, 1) := by decide +kernel
theorem dX9_seeByBook_94 : decode cX9_seeByBook 94 = .ok (.aaload, 1) := by decide +kernel
theorem dX9_seeByBook_95 : decode cX9_seeByBook 95 = .ok (.iload_n 1, 1) := by decide +kernel
theorem dX9_seeByBook_96 : decode cX9_seeByBook 96 = .ok (.iaload, 1) := by decide +kernel
theorem dX9_seeByBook_97 : decode cX9_seeByBook 97 = .ok (.iastore, 1) := by decide +kernel
theorem dX9_seeByBook_98 : decode cX9_seeByBook 98 = .ok (.iinc 1 (-1), 3) := by decide +kernel
theorem dX9_seeByBook_101 : decode cX9_seeByBook 101 = .ok (.goto (-91), 3) := by decide +kernel
theorem dX9_seeByBook_104 : decode cX9_seeByBook 104 = .ok (.return_, 1) := by decide +kernel
theorem dX9_isUnlikePlayed_0 : decode cX9_isUnlikePlayed 0 = .ok (.iload_n 1, 1) := by decide +kernel
theorem dX9_isUnlikePlayed_1 : decode cX9_isUnlikePlayed 1 = .ok (.iconst 1, 1) := by decide +kernel
theorem dX9_isUnlikePlayed_2 : decode cX9_isUnlikePlayed 2 = .ok (.if_icmp .ne 16, 3) := by decide +kernel
theorem dX9_isUnlikePlayed_5 : decode cX9_isUnlikePlayed 5 = .ok (.iload_n 3, 1) := by decide +kernel
theorem dX9_isUnlikePlayed_6 : decode cX9_isUnlikePlayed 6 = .ok (.aload_n 0, 1) := by decide +kernel
theorem dX9_isUnlikePlayed_7 : decode cX9_isUnlikePlayed 7 = .ok (.getfield 46, 3) := by decide +kernel
theorem dX9_isUnlikePlayed_10 : decode cX9_isUnlikePlayed 10 = .ok (.getfield 166, 3) := by decide +kernel
theorem dX9_isUnlikePlayed_13 : decode cX9_isUnlikePlayed 13 = .ok (.iload_n 2, 1) := by decide +kernel
theorem dX9_isUnlikePlayed_14 : decode cX9_isUnlikePlayed 14 = .ok (.iaload, 1) := by decide +kernel
theorem dX9_isUnlikePlayed_15 : decode cX9_isUnlikePlayed 15 = .ok (.if_icmp .ne 21, 3) := by decide +kernel
theorem dX9_isUnlikePlayed_18 : decode cX9_isUnlikePlayed 18 = .ok (.iload_n 1, 1) := by decide +kernel
theorem dX9_isUnlikePlayed_19 : decode cX9_isUnlikePlayed 19 = .ok (.iconst 2, 1) := by decide +kernel
theorem dX9_isUnlikePlayed_20 : decode cX9_isUnlikePlayed 20 = .ok (.if_icmp .ne 20, 3) := by decide +kernel
theorem dX9_isUnlikePlayed_23 : decode cX9_isUnlikePlayed 23 = .ok (.iload_n 3, 1) := by decide +kernel
theorem dX9_isUnlikePlayed_24 : decode cX9_isUnlikePlayed 24 = .ok (.aload_n 0, 1) := by decide +kernel
theorem dX9_isUnlikePlayed_25 : decode cX9_isUnlikePlayed 25 = .ok (.getfield 46, 3) := by decide +kernel
theorem dX9_isUnlikePlayed_28 : decode cX9_isUnlikePlayed 28 = .ok (.getfield 169, 3) := by decide +kernel
theorem dX9_isUnlikePlayed_31 : decode cX9_isUnlikePlayed 31 = .ok (.iload_n 2, 1) := by decide +kernel
theorem dX9_isUnlikePlayed_32 : decode cX9_isUnlikePlayed 32 = .ok (.iaload, 1) := by decide +kernel
theorem dX9_isUnlikePlayed_33 : decode cX9_isUnlikePlayed 33 = .ok (.if_icmp .eq 7, 3) := by decide +kernel
theorem dX9_isUnlikePlayed_36 : decode cX9_isUnlikePlayed 36 = .ok (.iconst 1, 1) := by decide +kernel
theorem dX9_isUnlikePlayed_37 : decode cX9_isUnlikePlayed 37 = .ok (.goto 4, 3) := by decide +kernel
theorem dX9_isUnlikePlayed_40 : decode cX9_isUnlikePlayed 40 = .ok (.iconst 0, 1) := by decide +kernel
theorem dX9_isUnlikePlayed_41 : decode cX9_isUnlikePlayed 41 = .ok (.ireturn, 1) := by decide +kernel
theorem dX9_lastOfThing_0 : decode cX9_lastOfThing 0 = .ok (.iload_n 0, 1) := by decide +kernel
theorem dX9_lastOfThing_1 : decode cX9_lastOfThing 1 = .ok (.ifCond .ne 7, 3) := by decide +kernel
theorem dX9_lastOfThing_4 : decode cX9_lastOfThing 4 = .ok (.iconst 3, 1) := by decide +kernel
theorem dX9_lastOfThing_5 : decode cX9_lastOfThing 5 = .ok (.goto 14, 3) := by decide +kernel
theorem dX9_lastOfThing_8 : decode cX9_lastOfThing 8 = .ok (.iload_n 0, 1) := by decide +kernel
theorem dX9_lastOfThing_9 : decode cX9_lastOfThing 9 = .ok (.iconst 1, 1) := by decide +kernel
theorem dX9_lastOfThing_10 : decode cX9_lastOfThing 10 = .ok (.if_icmp .ne 7, 3) := by decide +kernel
theorem dX9_lastOfThing_13 : decode cX9_lastOfThing 13 = .ok (.iconst 0, 1) := by decide +kernel
theorem dX9_lastOfThing_14 : decode cX9_lastOfThing 14 = .ok (.goto 5, 3) := by decide +kernel
theorem dX9_lastOfThing_17 : decode cX9_lastOfThing 17 = .ok (.bipush 7, 2) := by decide +kernel
theorem dX9_lastOfThing_19 : decode cX9_lastOfThing 19 = .ok (.ireturn, 1) := by decide +kernel
theorem dX9_noDoing_0 : decode cX9_noDoing 0 = .ok (.aload_n 0, 1) := by decide +kernel
theorem dX9_noDoing_1 : decode cX9_noDoing 1 = .ok (.getfield 93, 3) := by decide +kernel
theorem dX9_noDoing_4 : decode cX9_noDoing 4 = .ok (.bipush (-4), 2) := by decide +kernel
theorem dX9_noDoing_6 : decode cX9_noDoing 6 = .ok (.if_icmp .eq 14, 3) := by decide +kernel
theorem dX9_noDoing_9 : decode cX9_noDoing 9 = .ok (.aload_n 0, 1) := by decide +kernel
theorem dX9_noDoing_10 : decode cX9_noDoing 10 = .ok (.aload_n 0, 1) := by decide +kernel
theorem dX9_noDoing_11 : decode cX9_noDoing 11 = .ok (.getfield 97, 3) := by decide +kernel
theorem dX9_noDoing_14 : decode cX9_noDoing 14 = .ok (.invokevirtual 137, 3) := by decide +kernel
theorem dX9_noDoing_17 : decode cX9_noDoing 17 = .ok (.ifCond .eq 7, 3) := by decide +kernel
theorem dX9_noDoing_20 : decode cX9_noDoing 20 = .ok (.iconst 1, 1) := by decide +kernel
theorem dX9_noDoing_21 : decode cX9_noDoing 21 = .ok (.goto 4, 3) := by decide +kernel
theorem dX9_noDoing_24 : decode cX9_noDoing 24 = .ok (.iconst 0, 1) := by decide +kernel
theorem dX9_noDoing_25 : decode cX9_noDoing 25 = .ok (.ireturn, 1) := by decide +kernel
theorem dX9_comesOtherwise_0 : decode cX9_comesOtherwise 0 = .ok (.aload_n 0, 1) := by decide +kernel
theorem dX9_comesOtherwise_1 : decode cX9_comesOtherwise 1 = .ok (.getfield 46, 3) := by decide +kernel
theorem dX9_comesOtherwise_4 : decode cX9_comesOtherwise 4 = .ok (.aload_n 0, 1) := by decide +kernel
theorem dX9_comesOtherwise_5 : decode cX9_comesOtherwise 5 = .ok (.getfield 39, 3) := by decide +kernel
theorem dX9_comesOtherwise_8 : decode cX9_comesOtherwise 8 = .ok (.invokevirtual 229, 3) := by decide +kernel
theorem dX9_comesOtherwise_11 : decode cX9_comesOtherwise 11 = .ok (.aload_n 0, 1) := by decide +kernel
theorem dX9_comesOtherwise_12 : decode cX9_comesOtherwise 12 = .ok (.getfield 67, 3) := by decide +kernel
theorem dX9_comesOtherwise_15 : decode cX9_comesOtherwise 15 = .ok (.iload_n 1, 1) := by decide +kernel
theorem dX9_comesOtherwise_16 : decode cX9_comesOtherwise 16 = .ok (.aload_n 0, 1) := by decide +kernel
theorem dX9_comesOtherwise_17 : decode cX9_comesOtherwise 17 = .ok (.getfield 46, 3) := by decide +kernel
theorem dX9_comesOtherwise_20 : decode cX9_comesOtherwise 20 = .ok (.invokevirtual 310, 3) := by decide +kernel
theorem dX9_comesOtherwise_23 : decode cX9_comesOtherwise 23 = .ok (.istore_n 2, 1) := by decide +kernel
theorem dX9_comesOtherwise_24 : decode cX9_comesOtherwise 24 = .ok (.aload_n 0, 1) := by decide +kernel
theorem dX9_comesOtherwise_25 : decode cX9_comesOtherwise 25 = .ok (.iload_n 2, 1) := by decide +kernel
theorem dX9_comesOtherwise_26 : decode cX9_comesOtherwise 26 = .ok (.invokevirtual 314, 3) := by decide +kernel
theorem dX9_comesOtherwise_29 : decode cX9_comesOtherwise 29 = .ok (.ireturn, 1) := by decide +kernel
theorem dX9_comesWithMakers_0 : decode cX9_comesWithMakers 0 = .ok (.aload_n 0, 1) := by decide +kernel
theorem dX9_comesWithMakers_1 : decode cX9_comesWithMakers 1 = .ok (.getfield 46, 3) := by decide +kernel
end
section
theorem dX9_comesWithMakers_4 : decode cX9_comesWithMakers 4 = .ok (.aload_n 0, 1) := by decide +kernel
theorem dX9_comesWithMakers_5 : decode cX9_comesWithMakers 5 = .ok (.getfield 39, 3) := by decide +kernel
theorem dX9_comesWithMakers_8 : decode cX9_comesWithMakers 8 = .ok (.invokevirtual 229, 3) := by decide +kernel
theorem dX9_comesWithMakers_11 : decode cX9_comesWithMakers 11 = .ok (.aload_n 0, 1) := by decide +kernel
theorem dX9_comesWithMakers_12 : decode cX9_comesWithMakers 12 = .ok (.aload_n 0, 1) := by decide +kernel
theorem dX9_comesWithMakers_13 : decode cX9_comesWithMakers 13 = .ok (.getfield 28, 3) := by decide +kernel
theorem dX9_comesWithMakers_16 : decode cX9_comesWithMakers 16 = .ok (.iconst 0, 1) := by decide +kernel
theorem dX9_comesWithMakers_17 : decode cX9_comesWithMakers 17 = .ok (.aaload, 1) := by decide +kernel
theorem dX9_comesWithMakers_18 : decode cX9_comesWithMakers 18 = .ok (.iload_n 1, 1) := by decide +kernel
theorem dX9_comesWithMakers_19 : decode cX9_comesWithMakers 19 = .ok (.invokevirtual 317, 3) := by decide +kernel
theorem dX9_comesWithMakers_22 : decode cX9_comesWithMakers 22 = .ok (.invokevirtual 314, 3) := by decide +kernel
theorem dX9_comesWithMakers_25 : decode cX9_comesWithMakers 25 = .ok (.ireturn, 1) := by decide +kernel
theorem dX9_comesWithRules_0 : decode cX9_comesWithRules 0 = .ok (.aload_n 0, 1) := by decide +kernel
theorem dX9_comesWithRules_1 : decode cX9_comesWithRules 1 = .ok (.getfield 46, 3) := by decide +kernel
theorem dX9_comesWithRules_4 : decode cX9_comesWithRules 4 = .ok (.aload_n 0, 1) := by decide +kernel
theorem dX9_comesWithRules_5 : decode cX9_comesWithRules 5 = .ok (.getfield 28, 3) := by decide +kernel
theorem dX9_comesWithRules_8 : decode cX9_comesWithRules 8 = .ok (.iconst 0, 1) := by decide +kernel
theorem dX9_comesWithRules_9 : decode cX9_comesWithRules 9 = .ok (.aaload, 1) := by decide +kernel
theorem dX9_comesWithRules_10 : decode cX9_comesWithRules 10 = .ok (.iload_n 1, 1) := by decide +kernel
theorem dX9_comesWithRules_11 : decode cX9_comesWithRules 11 = .ok (.aload_n 0, 1) := by decide +kernel
theorem dX9_comesWithRules_12 : decode cX9_comesWithRules 12 = .ok (.getfield 97, 3) := by decide +kernel
theorem dX9_comesWithRules_15 : decode cX9_comesWithRules 15 = .ok (.iconst 1, 1) := by decide +kernel
theorem dX9_comesWithRules_16 : decode cX9_comesWithRules 16 = .ok (.iadd, 1) := by decide +kernel
theorem dX9_comesWithRules_17 : decode cX9_comesWithRules 17 = .ok (.invokevirtual 236, 3) := by decide +kernel
theorem dX9_comesWithRules_20 : decode cX9_comesWithRules 20 = .ok (.aload_n 0, 1) := by decide +kernel
theorem dX9_comesWithRules_21 : decode cX9_comesWithRules 21 = .ok (.getfield 46, 3) := by decide +kernel
theorem dX9_comesWithRules_24 : decode cX9_comesWithRules 24 = .ok (.getfield 169, 3) := by decide +kernel
theorem dX9_comesWithRules_27 : decode cX9_comesWithRules 27 = .ok (.aload_n 0, 1) := by decide +kernel
theorem dX9_comesWithRules_28 : decode cX9_comesWithRules 28 = .ok (.getfield 97, 3) := by decide +kernel
theorem dX9_comesWithRules_31 : decode cX9_comesWithRules 31 = .ok (.iaload, 1) := by decide +kernel
theorem dX9_comesWithRules_32 : decode cX9_comesWithRules 32 = .ok (.aload_n 0, 1) := by decide +kernel
theorem dX9_comesWithRules_33 : decode cX9_comesWithRules 33 = .ok (.getfield 93, 3) := by decide +kernel
theorem dX9_comesWithRules_36 : decode cX9_comesWithRules 36 = .ok (.if_icmp .ne 7, 3) := by decide +kernel
theorem dX9_comesWithRules_39 : decode cX9_comesWithRules 39 = .ok (.iconst 1, 1) := by decide +kernel
theorem dX9_comesWithRules_40 : decode cX9_comesWithRules 40 = .ok (.goto 4, 3) := by decide +kernel
theorem dX9_comesWithRules_43 : decode cX9_comesWithRules 43 = .ok (.iconst 0, 1) := by decide +kernel
theorem dX9_comesWithRules_44 : decode cX9_comesWithRules 44 = .ok (.ireturn, 1) := by decide +kernel
theorem dX9_tryAllSets_0 : decode cX9_tryAllSets 0 = .ok (.iconst 0, 1) := by decide +kernel
theorem dX9_tryAllSets_1 : decode cX9_tryAllSets 1 = .ok (.istore_n 1, 1) := by decide +kernel
theorem dX9_tryAllSets_2 : decode cX9_tryAllSets 2 = .ok (.iload_n 1, 1) := by decide +kernel
theorem dX9_tryAllSets_3 : decode cX9_tryAllSets 3 = .ok (.aload_n 0, 1) := by decide +kernel
theorem dX9_tryAllSets_4 : decode cX9_tryAllSets 4 = .ok (.getfield 67, 3) := by decide +kernel
theorem dX9_tryAllSets_7 : decode cX9_tryAllSets 7 = .ok (.invokevirtual 259, 3) := by decide +kernel
theorem dX9_tryAllSets_10 : decode cX9_tryAllSets 10 = .ok (.if_icmp .gt 20, 3) := by decide +kernel
theorem dX9_tryAllSets_13 : decode cX9_tryAllSets 13 = .ok (.aload_n 0, 1) := by decide +kernel
theorem dX9_tryAllSets_14 : decode cX9_tryAllSets 14 = .ok (.getfield 71, 3) := by decide +kernel
theorem dX9_tryAllSets_17 : decode cX9_tryAllSets 17 = .ok (.iload_n 1, 1) := by decide +kernel
theorem dX9_tryAllSets_18 : decode cX9_tryAllSets 18 = .ok (.aload_n 0, 1) := by decide +kernel
theorem dX9_tryAllSets_19 : decode cX9_tryAllSets 19 = .ok (.iload_n 1, 1) := by decide +kernel
theorem dX9_tryAllSets_20 : decode cX9_tryAllSets 20 = .ok (.invokevirtual 248, 3) := by decide +kernel
theorem dX9_tryAllSets_23 : decode cX9_tryAllSets 23 = .ok (.bastore, 1) := by decide +kernel
theorem dX9_tryAllSets_24 : decode cX9_tryAllSets 24 = .ok (.iinc 1 1, 3) := by decide +kernel
theorem dX9_tryAllSets_27 : decode cX9_tryAllSets 27 = .ok (.goto (-25), 3) := by decide +kernel
theorem dX9_tryAllSets_30 : decode cX9_tryAllSets 30 = .ok (.return_, 1) := by decide +kernel
theorem dX9_leastSet_0 : decode cX9_leastSet 0 = .ok (.aload_n 0, 1) := by decide +kernel
theorem dX9_leastSet_1 : decode cX9_leastSet 1 = .ok (.invokevirtual 270, 3) := by decide +kernel
theorem dX9_leastSet_4 : decode cX9_leastSet 4 = .ok (.bipush (-4), 2) := by decide +kernel
theorem dX9_leastSet_6 : decode cX9_leastSet 6 = .ok (.istore_n 2, 1) := by decide +kernel
theorem dX9_leastSet_7 : decode cX9_leastSet 7 = .ok (.bipush 7, 2) := by decide +kernel
theorem dX9_leastSet_9 : decode cX9_leastSet 9 = .ok (.istore_n 3, 1) := by decide +kernel
theorem dX9_leastSet_10 : decode cX9_leastSet 10 = .ok (.iconst 0, 1) := by decide +kernel
theorem dX9_leastSet_11 : decode cX9_leastSet 11 = .ok (.istore 4, 2) := by decide +kernel
theorem dX9_leastSet_13 : decode cX9_leastSet 13 = .ok (.iload 4, 2) := by decide +kernel
theorem dX9_leastSet_15 : decode cX9_leastSet 15 = .ok (.aload_n 0, 1) := by decide +kernel
theorem dX9_leastSet_16 : decode cX9_leastSet 16 = .ok (.getfield 67, 3) := by decide +kernel
theorem dX9_leastSet_19 : decode cX9_leastSet 19 = .ok (.invokevirtual 259, 3) := by decide +kernel
theorem dX9_leastSet_22 : decode cX9_leastSet 22 = .ok (.if_icmp .gt 53, 3) := by decide +kernel
theorem dX9_leastSet_25 : decode cX9_leastSet 25 = .ok (.iload 4, 2) := by decide +kernel
theorem dX9_leastSet_27 : decode cX9_leastSet 27 = .ok (.invokestatic 285, 3) := by decide +kernel
theorem dX9_leastSet_30 : decode cX9_leastSet 30 = .ok (.istore 5, 2) := by decide +kernel
theorem dX9_leastSet_32 : decode cX9_leastSet 32 = .ok (.iload 5, 2) := by decide +kernel
theorem dX9_leastSet_34 : decode cX9_leastSet 34 = .ok (.iload_n 3, 1) := by decide +kernel
theorem dX9_leastSet_35 : decode cX9_leastSet 35 = .ok (.if_icmp .ge 34, 3) := by decide +kernel
theorem dX9_leastSet_38 : decode cX9_leastSet 38 = .ok (.iload_n 1, 1) := by decide +kernel
theorem dX9_leastSet_39 : decode cX9_leastSet 39 = .ok (.ifCond .eq 15, 3) := by decide +kernel
theorem dX9_leastSet_42 : decode cX9_leastSet 42 = .ok (.aload_n 0, 1) := by decide +kernel
theorem dX9_leastSet_43 : decode cX9_leastSet 43 = .ok (.iload 4, 2) := by decide +kernel
theorem dX9_leastSet_45 : decode cX9_leastSet 45 = .ok (.invokevirtual 276, 3) := by decide +kernel
theorem dX9_leastSet_48 : decode cX9_leastSet 48 = .ok (.ifCond .eq 21, 3) := by decide +kernel
theorem dX9_leastSet_51 : decode cX9_leastSet 51 = .ok (.goto 12, 3) := by decide +kernel
theorem dX9_leastSet_54 : decode cX9_leastSet 54 = .ok (.aload_n 0, 1) := by decide +kernel
theorem dX9_leastSet_55 : decode cX9_leastSet 55 = .ok (.iload 4, 2) := by decide +kernel
theorem dX9_leastSet_57 : decode cX9_leastSet 57 = .ok (.invokevirtual 273, 3) := by decide +kernel
theorem dX9_leastSet_60 : decode cX9_leastSet 60 = .ok (.ifCond .eq 9, 3) := by decide +kernel
theorem dX9_leastSet_63 : decode cX9_leastSet 63 = .ok (.iload 4, 2) := by decide +kernel
theorem dX9_leastSet_65 : decode cX9_leastSet 65 = .ok (.istore_n 2, 1) := by decide +kernel
theorem dX9_leastSet_66 : decode cX9_leastSet 66 = .ok (.iload 5, 2) := by decide +kernel
theorem dX9_leastSet_68 : decode cX9_leastSet 68 = .ok (.istore_n 3, 1) := by decide +kernel
theorem dX9_leastSet_69 : decode cX9_leastSet 69 = .ok (.iinc 4 1, 3) := by decide +kernel
theorem dX9_leastSet_72 : decode cX9_leastSet 72 = .ok (.goto (-59), 3) := by decide +kernel
theorem dX9_leastSet_75 : decode cX9_leastSet 75 = .ok (.iload_n 2, 1) := by decide +kernel
theorem dX9_leastSet_76 : decode cX9_leastSet 76 = .ok (.ireturn, 1) := by decide +kernel
theorem dX9_isBecause_0 : decode cX9_isBecause 0 = .ok (.aload_n 0, 1) := by decide +kernel
theorem dX9_isBecause_1 : decode cX9_isBecause 1 = .ok (.getfield 71, 3) := by decide +kernel
theorem dX9_isBecause_4 : decode cX9_isBecause 4 = .ok (.iconst 0, 1) := by decide +kernel
theorem dX9_isBecause_5 : decode cX9_isBecause 5 = .ok (.baload, 1) := by decide +kernel
theorem dX9_isBecause_6 : decode cX9_isBecause 6 = .ok (.ifCond .eq 16, 3) := by decide +kernel
theorem dX9_isBecause_9 : decode cX9_isBecause 9 = .ok (.aload_n 0, 1) := by decide +kernel
theorem dX9_isBecause_10 : decode cX9_isBecause 10 = .ok (.getfield 71, 3) := by decide +kernel
theorem dX9_isBecause_13 : decode cX9_isBecause 13 = .ok (.iload_n 1, 1) := by decide +kernel
theorem dX9_isBecause_14 : decode cX9_isBecause 14 = .ok (.baload, 1) := by decide +kernel
theorem dX9_isBecause_15 : decode cX9_isBecause 15 = .ok (.ifCond .ne 7, 3) := by decide +kernel
theorem dX9_isBecause_18 : decode cX9_isBecause 18 = .ok (.iconst 1, 1) := by decide +kernel
theorem dX9_isBecause_19 : decode cX9_isBecause 19 = .ok (.goto 4, 3) := by decide +kernel
theorem dX9_isBecause_22 : decode cX9_isBecause 22 = .ok (.iconst 0, 1) := by decide +kernel
theorem dX9_isBecause_23 : decode cX9_isBecause 23 = .ok (.ireturn, 1) := by decide +kernel
theorem dX9_isEnough_0 : decode cX9_isEnough 0 = .ok (.iconst 0, 1) := by decide +kernel
theorem dX9_isEnough_1 : decode cX9_isEnough 1 = .ok (.istore_n 2, 1) := by decide +kernel
theorem dX9_isEnough_2 : decode cX9_isEnough 2 = .ok (.iload_n 2, 1) := by decide +kernel
theorem dX9_isEnough_3 : decode cX9_isEnough 3 = .ok (.aload_n 0, 1) := by decide +kernel
theorem dX9_isEnough_4 : decode cX9_isEnough 4 = .ok (.getfield 67, 3) := by decide +kernel
theorem dX9_isEnough_7 : decode cX9_isEnough 7 = .ok (.invokevirtual 259, 3) := by decide +kernel
theorem dX9_isEnough_10 : decode cX9_isEnough 10 = .ok (.if_icmp .gt 26, 3) := by decide +kernel
theorem dX9_isEnough_13 : decode cX9_isEnough 13 = .ok (.iload_n 2, 1) := by decide +kernel
theorem dX9_isEnough_14 : decode cX9_isEnough 14 = .ok (.iload_n 1, 1) := by decide +kernel
theorem dX9_isEnough_15 : decode cX9_isEnough 15 = .ok (.iand, 1) := by decide +kernel
theorem dX9_isEnough_16 : decode cX9_isEnough 16 = .ok (.ifCond .ne 14, 3) := by decide +kernel
theorem dX9_isEnough_19 : decode cX9_isEnough 19 = .ok (.aload_n 0, 1) := by decide +kernel
theorem dX9_isEnough_20 : decode cX9_isEnough 20 = .ok (.getfield 71, 3) := by decide +kernel
theorem dX9_isEnough_23 : decode cX9_isEnough 23 = .ok (.iload_n 2, 1) := by decide +kernel
theorem dX9_isEnough_24 : decode cX9_isEnough 24 = .ok (.baload, 1) := by decide +kernel
theorem dX9_isEnough_25 : decode cX9_isEnough 25 = .ok (.ifCond .ne 5, 3) := by decide +kernel
theorem dX9_isEnough_28 : decode cX9_isEnough 28 = .ok (.iconst 0, 1) := by decide +kernel
theorem dX9_isEnough_29 : decode cX9_isEnough 29 = .ok (.ireturn, 1) := by decide +kernel
theorem dX9_isEnough_30 : decode cX9_isEnough 30 = .ok (.iinc 2 1, 3) := by decide +kernel
theorem dX9_isEnough_33 : decode cX9_isEnough 33 = .ok (.goto (-31), 3) := by decide +kernel
theorem dX9_isEnough_36 : decode cX9_isEnough 36 = .ok (.iconst 1, 1) := by decide +kernel
theorem dX9_isEnough_37 : decode cX9_isEnough 37 = .ok (.ireturn, 1) := by decide +kernel
theorem dX10_in_0 : decode cX10_in 0 = .ok (.lload_n 0, 1) := by decide +kernel
theorem dX10_in_1 : decode cX10_in 1 = .ok (.lload_n 2, 1) := by decide +kernel
theorem dX10_in_2 : decode cX10_in 2 = .ok (.lcmp, 1) := by decide +kernel
theorem dX10_in_3 : decode cX10_in 3 = .ok (.ifCond .lt 14, 3) := by decide +kernel
theorem dX10_in_6 : decode cX10_in 6 = .ok (.lload_n 0, 1) := by decide +kernel
theorem dX10_in_7 : decode cX10_in 7 = .ok (.lload 4, 2) := by decide +kernel
theorem dX10_in_9 : decode cX10_in 9 = .ok (.lcmp, 1) := by decide +kernel
theorem dX10_in_10 : decode cX10_in 10 = .ok (.ifCond .gt 7, 3) := by decide +kernel
theorem dX10_in_13 : decode cX10_in 13 = .ok (.iconst 1, 1) := by decide +kernel
theorem dX10_in_14 : decode cX10_in 14 = .ok (.goto 4, 3) := by decide +kernel
theorem dX10_in_17 : decode cX10_in 17 = .ok (.iconst 0, 1) := by decide +kernel
theorem dX10_in_18 : decode cX10_in 18 = .ok (.ireturn, 1) := by decide +kernel
theorem dX10_init_0 : decode cX10_init 0 = .ok (.aload_n 0, 1) := by decide +kernel
theorem dX10_init_1 : decode cX10_init 1 = .ok (.invokespecial 1, 3) := by decide +kernel
theorem dX10_init_4 : decode cX10_init 4 = .ok (.aload_n 0, 1) := by decide +kernel
theorem dX10_init_5 : decode cX10_init 5 = .ok (.bipush 120, 2) := by decide +kernel
theorem dX10_init_7 : decode cX10_init 7 = .ok (.newarray .int, 2) := by decide +kernel
theorem dX10_init_9 : decode cX10_init 9 = .ok (.putfield 7, 3) := by decide +kernel
theorem dX10_init_12 : decode cX10_init 12 = .ok (.aload_n 0, 1) := by decide +kernel
theorem dX10_init_13 : decode cX10_init 13 = .ok (.bipush 6, 2) := by decide +kernel
theorem dX10_init_15 : decode cX10_init 15 = .ok (.newarray .boolean, 2) := by decide +kernel
theorem dX10_init_17 : decode cX10_init 17 = .ok (.putfield 13, 3) := by decide +kernel
theorem dX10_init_20 : decode cX10_init 20 = .ok (.aload_n 0, 1) := by decide +kernel
theorem dX10_init_21 : decode cX10_init 21 = .ok (.bipush 6, 2) := by decide +kernel
theorem dX10_init_23 : decode cX10_init 23 = .ok (.newarray .boolean, 2) := by decide +kernel
theorem dX10_init_25 : decode cX10_init 25 = .ok (.putfield 17, 3) := by decide +kernel
theorem dX10_init_28 : decode cX10_init 28 = .ok (.aload_n 0, 1) := by decide +kernel
theorem dX10_init_29 : decode cX10_init 29 = .ok (.bipush 6, 2) := by decide +kernel
theorem dX10_init_31 : decode cX10_init 31 = .ok (.newarray .boolean, 2) := by decide +kernel
theorem dX10_init_33 : decode cX10_init 33 = .ok (.putfield 20, 3) := by decide +kernel
theorem dX10_init_36 : decode cX10_init 36 = .ok (.aload_n 0, 1) := by decide +kernel
theorem dX10_init_37 : decode cX10_init 37 = .ok (.iconst 2, 1) := by decide +kernel
theorem dX10_init_38 : decode cX10_init 38 = .ok (.newarray .int, 2) := by decide +kernel
theorem dX10_init_40 : decode cX10_init 40 = .ok (.putfield 23, 3) := by decide +kernel
theorem dX10_init_43 : decode cX10_init 43 = .ok (.aload_n 0, 1) := by decide +kernel
theorem dX10_init_44 : decode cX10_init 44 = .ok (.bipush 16, 2) := by decide +kernel
theorem dX10_init_46 : decode cX10_init 46 = .ok (.newarray .int, 2) := by decide +kernel
theorem dX10_init_48 : decode cX10_init 48 = .ok (.putfield 26, 3) := by decide +kernel
theorem dX10_init_51 : decode cX10_init 51 = .ok (.aload_n 0, 1) := by decide +kernel
theorem dX10_init_52 : decode cX10_init 52 = .ok (.bipush 16, 2) := by decide +kernel
theorem dX10_init_54 : decode cX10_init 54 = .ok (.newarray .int, 2) := by decide +kernel
theorem dX10_init_56 : decode cX10_init 56 = .ok (.putfield 29, 3) := by decide +kernel
theorem dX10_init_59 : decode cX10_init 59 = .ok (.aload_n 0, 1) := by decide +kernel
theorem dX10_init_60 : decode cX10_init 60 = .ok (.bipush 16, 2) := by decide +kernel
theorem dX10_init_62 : decode cX10_init 62 = .ok (.newarray .int, 2) := by decide +kernel
theorem dX10_init_64 : decode cX10_init 64 = .ok (.putfield 32, 3) := by decide +kernel
theorem dX10_init_67 : decode cX10_init 67 = .ok (.aload_n 0, 1) := by decide +kernel
theorem dX10_init_68 : decode cX10_init 68 = .ok (.sipush 2048, 3) := by decide +kernel
theorem dX10_init_71 : decode cX10_init 71 = .ok (.newarray .boolean, 2) := by decide +kernel
theorem dX10_init_73 : decode cX10_init 73 = .ok (.putfield 35, 3) := by decide +kernel
theorem dX10_init_76 : decode cX10_init 76 = .ok (.aload_n 0, 1) := by decide +kernel
theorem dX10_init_77 : decode cX10_init 77 = .ok (.bipush 8, 2) := by decide +kernel
theorem dX10_init_79 : decode cX10_init 79 = .ok (.newarray .int, 2) := by decide +kernel
theorem dX10_init_81 : decode cX10_init 81 = .ok (.putfield 38, 3) := by decide +kernel
theorem dX10_init_84 : decode cX10_init 84 = .ok (.aload_n 0, 1) := by decide +kernel
theorem dX10_init_85 : decode cX10_init 85 = .ok (.bipush 8, 2) := by decide +kernel
theorem dX10_init_87 : decode cX10_init 87 = .ok (.newarray .int, 2) := by decide +kernel
theorem dX10_init_89 : decode cX10_init 89 = .ok (.putfield 41, 3) := by decide +kernel
theorem dX10_init_92 : decode cX10_init 92 = .ok (.aload_n 0, 1) := by decide +kernel
theorem dX10_init_93 : decode cX10_init 93 = .ok (.bipush 8, 2) := by decide +kernel
theorem dX10_init_95 : decode cX10_init 95 = .ok (.newarray .int, 2) := by decide +kernel
theorem dX10_init_97 : decode cX10_init 97 = .ok (.putfield 44, 3) := by decide +kernel
theorem dX10_init_100 : decode cX10_init 100 = .ok (.aload_n 0, 1) := by decide +kernel
theorem dX10_init_101 : decode cX10_init 101 = .ok (.sipush 1024, 3) := by decide +kernel
theorem dX10_init_104 : decode cX10_init 104 = .ok (.newarray .boolean, 2) := by decide +kernel
theorem dX10_init_106 : decode cX10_init 106 = .ok (.putfield 47, 3) := by decide +kernel
theorem dX10_init_109 : decode cX10_init 109 = .ok (.aload_n 0, 1) := by decide +kernel
theorem dX10_init_110 : decode cX10_init 110 = .ok (.iconst 4, 1) := by decide +kernel
theorem dX10_init_111 : decode cX10_init 111 = .ok (.putfield 50, 3) := by decide +kernel
theorem dX10_init_114 : decode cX10_init 114 = .ok (.aload_n 0, 1) := by decide +kernel
theorem dX10_init_115 : decode cX10_init 115 = .ok (.bipush 12, 2) := by decide +kernel
theorem dX10_init_117 : decode cX10_init 117 = .ok (.newarray .int, 2) := by decide +kernel
theorem dX10_init_119 : decode cX10_init 119 = .ok (.putfield 54, 3) := by decide +kernel
theorem dX10_init_122 : decode cX10_init 122 = .ok (.aload_n 0, 1) := by decide +kernel
theorem dX10_init_123 : decode cX10_init 123 = .ok (.bipush 12, 2) := by decide +kernel
theorem dX10_init_125 : decode cX10_init 125 = .ok (.newarray .int, 2) := by decide +kernel
theorem dX10_init_127 : decode cX10_init 127 = .ok (.putfield 57, 3) := by decide +kernel
theorem dX10_init_130 : decode cX10_init 130 = .ok (.aload_n 0, 1) := by decide +kernel
theorem dX10_init_131 : decode cX10_init 131 = .ok (.bipush 12, 2) := by decide +kernel
theorem dX10_init_133 : decode cX10_init 133 = .ok (.newarray .int, 2) := by decide +kernel
theorem dX10_init_135 : decode cX10_init 135 = .ok (.putfield 60, 3) := by decide +kernel
theorem dX10_init_138 : decode cX10_init 138 = .ok (.aload_n 0, 1) := by decide +kernel
theorem dX10_init_139 : decode cX10_init 139 = .ok (.bipush 12, 2) := by decide +kernel
theorem dX10_init_141 : decode cX10_init 141 = .ok (.newarray .int, 2) := by decide +kernel
theorem dX10_init_143 : decode cX10_init 143 = .ok (.putfield 63, 3) := by decide +kernel
theorem dX10_init_146 : decode cX10_init 146 = .ok (.aload_n 0, 1) := by decide +kernel
theorem dX10_init_147 : decode cX10_init 147 = .ok (.bipush 12, 2) := by decide +kernel
theorem dX10_init_149 : decode cX10_init 149 = .ok (.newarray .int, 2) := by decide +kernel
theorem dX10_init_151 : decode cX10_init 151 = .ok (.putfield 66, 3) := by decide +kernel
theorem dX10_init_154 : decode cX10_init 154 = .ok (.aload_n 0, 1) := by decide +kernel
theorem dX10_init_155 : decode cX10_init 155 = .ok (.bipush 13, 2) := by decide +kernel
theorem dX10_init_157 : decode cX10_init 157 = .ok (.newarray .int, 2) := by decide +kernel
theorem dX10_init_159 : decode cX10_init 159 = .ok (.putfield 69, 3) := by decide +kernel
theorem dX10_init_162 : decode cX10_init 162 = .ok (.aload_n 0, 1) := by decide +kernel
theorem dX10_init_163 : decode cX10_init 163 = .ok (.bipush 12, 2) := by decide +kernel
theorem dX10_init_165 : decode cX10_init 165 = .ok (.newarray .int, 2) := by decide +kernel
theorem dX10_init_167 : decode cX10_init 167 = .ok (.putfield 72, 3) := by decide +kernel
theorem dX10_init_170 : decode cX10_init 170 = .ok (.aload_n 0, 1) := by decide +kernel
theorem dX10_init_171 : decode cX10_init 171 = .ok (.bipush 12, 2) := by decide +kernel
theorem dX10_init_173 : decode cX10_init 173 = .ok (.newarray .int, 2) := by decide +kernel
theorem dX10_init_175 : decode cX10_init 175 = .ok (.putfield 75, 3) := by decide +kernel
theorem dX10_init_178 : decode cX10_init 178 = .ok (.aload_n 0, 1) := by decide +kernel
theorem dX10_init_179 : decode cX10_init 179 = .ok (.bipush 48, 2) := by decide +kernel
theorem dX10_init_181 : decode cX10_init 181 = .ok (.newarray .int, 2) := by decide +kernel
theorem dX10_init_183 : decode cX10_init 183 = .ok (.putfield 78, 3) := by decide +kernel
theorem dX10_init_186 : decode cX10_init 186 = .ok (.aload_n 0, 1) := by decide +kernel
theorem dX10_init_187 : decode cX10_init 187 = .ok (.bipush 48, 2) := by decide +kernel
theorem dX10_init_189 : decode cX10_init 189 = .ok (.newarray .int, 2) := by decide +kernel
theorem dX10_init_191 : decode cX10_init 191 = .ok (.putfield 81, 3) := by decide +kernel
theorem dX10_init_194 : decode cX10_init 194 = .ok (.aload_n 0, 1) := by decide +kernel
theorem dX10_init_195 : decode cX10_init 195 = .ok (.bipush 48, 2) := by decide +kernel
theorem dX10_init_197 : decode cX10_init 197 = .ok (.newarray .int, 2) := by decide +kernel
theorem dX10_init_199 : decode cX10_init 199 = .ok (.putfield 84, 3) := by decide +kernel
theorem dX10_init_202 : decode cX10_init 202 = .ok (.aload_n 0, 1) := by decide +kernel
theorem dX10_init_203 : decode cX10_init 203 = .ok (.bipush 48, 2) := by decide +kernel
theorem dX10_init_205 : decode cX10_init 205 = .ok (.newarray .int, 2) := by decide +kernel
theorem dX10_init_207 : decode cX10_init 207 = .ok (.putfield 87, 3) := by decide +kernel
theorem dX10_init_210 : decode cX10_init 210 = .ok (.aload_n 0, 1) := by decide +kernel
theorem dX10_init_211 : decode cX10_init 211 = .ok (.iconst 3, 1) := by decide +kernel
theorem dX10_init_212 : decode cX10_init 212 = .ok (.newarray .int, 2) := by decide +kernel
theorem dX10_init_214 : decode cX10_init 214 = .ok (.putfield 90, 3) := by decide +kernel
theorem dX10_init_217 : decode cX10_init 217 = .ok (.aload_n 0, 1) := by decide +kernel
theorem dX10_init_218 : decode cX10_init 218 = .ok (.sipush 144, 3) := by decide +kernel
theorem dX10_init_221 : decode cX10_init 221 = .ok (.newarray .int, 2) := by decide +kernel
theorem dX10_init_223 : decode cX10_init 223 = .ok (.putfield 93, 3) := by decide +kernel
theorem dX10_init_226 : decode cX10_init 226 = .ok (.aload_n 0, 1) := by decide +kernel
theorem dX10_init_227 : decode cX10_init 227 = .ok (.bipush (-4), 2) := by decide +kernel
theorem dX10_init_229 : decode cX10_init 229 = .ok (.putfield 96, 3) := by decide +kernel
theorem dX10_init_232 : decode cX10_init 232 = .ok (.aload_n 0, 1) := by decide +kernel
theorem dX10_init_233 : decode cX10_init 233 = .ok (.bipush 6, 2) := by decide +kernel
theorem dX10_init_235 : decode cX10_init 235 = .ok (.newarray .int, 2) := by decide +kernel
theorem dX10_init_237 : decode cX10_init 237 = .ok (.putfield 99, 3) := by decide +kernel
theorem dX10_init_240 : decode cX10_init 240 = .ok (.aload_n 0, 1) := by decide +kernel
theorem dX10_init_241 : decode cX10_init 241 = .ok (.bipush 6, 2) := by decide +kernel
theorem dX10_init_243 : decode cX10_init 243 = .ok (.newarray .int, 2) := by decide +kernel
theorem dX10_init_245 : decode cX10_init 245 = .ok (.putfield 102, 3) := by decide +kernel
theorem dX10_init_248 : decode cX10_init 248 = .ok (.aload_n 0, 1) := by decide +kernel
theorem dX10_init_249 : decode cX10_init 249 = .ok (.bipush 6, 2) := by decide +kernel
theorem dX10_init_251 : decode cX10_init 251 = .ok (.newarray .int, 2) := by decide +kernel
theorem dX10_init_253 : decode cX10_init 253 = .ok (.putfield 105, 3) := by decide +kernel
theorem dX10_init_256 : decode cX10_init 256 = .ok (.aload_n 0, 1) := by decide +kernel
theorem dX10_init_257 : decode cX10_init 257 = .ok (.bipush 64, 2) := by decide +kernel
theorem dX10_init_259 : decode cX10_init 259 = .ok (.newarray .boolean, 2) := by decide +kernel
theorem dX10_init_261 : decode cX10_init 261 = .ok (.putfield 108, 3) := by decide +kernel
theorem dX10_init_264 : decode cX10_init 264 = .ok (.aload_n 0, 1) := by decide +kernel
theorem dX10_init_265 : decode cX10_init 265 = .ok (.sipush 512, 3) := by decide +kernel
theorem dX10_init_268 : decode cX10_init 268 = .ok (.newarray .boolean, 2) := by decide +kernel
theorem dX10_init_270 : decode cX10_init 270 = .ok (.putfield 111, 3) := by decide +kernel
theorem dX10_init_273 : decode cX10_init 273 = .ok (.aload_n 0, 1) := by decide +kernel
theorem dX10_init_274 : decode cX10_init 274 = .ok (.sipush 512, 3) := by decide +kernel
theorem dX10_init_277 : decode cX10_init 277 = .ok (.newarray .boolean, 2) := by decide +kernel
theorem dX10_init_279 : decode cX10_init 279 = .ok (.putfield 114, 3) := by decide +kernel
theorem dX10_init_282 : decode cX10_init 282 = .ok (.aload_n 0, 1) := by decide +kernel
theorem dX10_init_283 : decode cX10_init 283 = .ok (.iconst 4, 1) := by decide +kernel
theorem dX10_init_284 : decode cX10_init 284 = .ok (.newarray .int, 2) := by decide +kernel
theorem dX10_init_286 : decode cX10_init 286 = .ok (.putfield 117, 3) := by decide +kernel
theorem dX10_init_289 : decode cX10_init 289 = .ok (.aload_n 0, 1) := by decide +kernel
theorem dX10_init_290 : decode cX10_init 290 = .ok (.iconst 4, 1) := by decide +kernel
theorem dX10_init_291 : decode cX10_init 291 = .ok (.newarray .int, 2) := by decide +kernel
theorem dX10_init_293 : decode cX10_init 293 = .ok (.putfield 120, 3) := by decide +kernel
theorem dX10_init_296 : decode cX10_init 296 = .ok (.aload_n 0, 1) := by decide +kernel
theorem dX10_init_297 : decode cX10_init 297 = .ok (.sipush 192, 3) := by decide +kernel
theorem dX10_init_300 : decode cX10_init 300 = .ok (.newarray .int, 2) := by decide +kernel
theorem dX10_init_302 : decode cX10_init 302 = .ok (.putfield 123, 3) := by decide +kernel
theorem dX10_init_305 : decode cX10_init 305 = .ok (.aload_n 0, 1) := by decide +kernel
theorem dX10_init_306 : decode cX10_init 306 = .ok (.bipush 48, 2) := by decide +kernel
theorem dX10_init_308 : decode cX10_init 308 = .ok (.newarray .int, 2) := by decide +kernel
theorem dX10_init_310 : decode cX10_init 310 = .ok (.putfield 126, 3) := by decide +kernel
theorem dX10_init_313 : decode cX10_init 313 = .ok (.iconst 0, 1) := by decide +kernel
theorem dX10_init_314 : decode cX10_init 314 = .ok (.istore_n 1, 1) := by decide +kernel
theorem dX10_init_315 : decode cX10_init 315 = .ok (.iload_n 1, 1) := by decide +kernel
theorem dX10_init_316 : decode cX10_init 316 = .ok (.iconst 4, 1) := by decide +kernel
theorem dX10_init_317 : decode cX10_init 317 = .ok (.if_icmp .ge 16, 3) := by decide +kernel
theorem dX10_init_320 : decode cX10_init 320 = .ok (.aload_n 0, 1) := by decide +kernel
theorem dX10_init_321 : decode cX10_init 321 = .ok (.getfield 117, 3) := by decide +kernel
theorem dX10_init_324 : decode cX10_init 324 = .ok (.iload_n 1, 1) := by decide +kernel
theorem dX10_init_325 : decode cX10_init 325 = .ok (.iconst (-1), 1) := by decide +kernel
theorem dX10_init_326 : decode cX10_init 326 = .ok (.iastore, 1) := by decide +kernel
theorem dX10_init_327 : decode cX10_init 327 = .ok (.iinc 1 1, 3) := by decide +kernel
theorem dX10_init_330 : decode cX10_init 330 = .ok (.goto (-15), 3) := by decide +kernel
theorem dX10_init_333 : decode cX10_init 333 = .ok (.iconst 0, 1) := by decide +kernel
theorem dX10_init_334 : decode cX10_init 334 = .ok (.istore_n 1, 1) := by decide +kernel
theorem dX10_init_335 : decode cX10_init 335 = .ok (.iload_n 1, 1) := by decide +kernel
theorem dX10_init_336 : decode cX10_init 336 = .ok (.bipush 12, 2) := by decide +kernel
theorem dX10_init_338 : decode cX10_init 338 = .ok (.if_icmp .ge 17, 3) := by decide +kernel
theorem dX10_init_341 : decode cX10_init 341 = .ok (.aload_n 0, 1) := by decide +kernel
theorem dX10_init_342 : decode cX10_init 342 = .ok (.getfield 60, 3) := by decide +kernel
theorem dX10_init_345 : decode cX10_init 345 = .ok (.iload_n 1, 1) := by decide +kernel
theorem dX10_init_346 : decode cX10_init 346 = .ok (.bipush 15, 2) := by decide +kernel
theorem dX10_init_348 : decode cX10_init 348 = .ok (.iastore, 1) := by decide +kernel
theorem dX10_init_349 : decode cX10_init 349 = .ok (.iinc 1 1, 3) := by decide +kernel
theorem dX10_init_352 : decode cX10_init 352 = .ok (.goto (-17), 3) := by decide +kernel
theorem dX10_init_355 : decode cX10_init 355 = .ok (.return_, 1) := by decide +kernel
theorem dX10_type_0 : decode cX10_type 0 = .ok (.iload_n 3, 1) := by decide +kernel
theorem dX10_type_1 : decode cX10_type 1 = .ok (.i2l, 1) := by decide +kernel
theorem dX10_type_2 : decode cX10_type 2 = .ok (.lconst 1, 1) := by decide +kernel
theorem dX10_type_3 : decode cX10_type 3 = .ok (.ldc2_w 129, 3) := by decide +kernel
theorem dX10_type_6 : decode cX10_type 6 = .ok (.invokestatic 131, 3) := by decide +kernel
theorem dX10_type_9 : decode cX10_type 9 = .ok (.ifCond .ne 5, 3) := by decide +kernel
theorem dX10_type_12 : decode cX10_type 12 = .ok (.iconst (-1), 1) := by decide +kernel
theorem dX10_type_13 : decode cX10_type 13 = .ok (.ireturn, 1) := by decide +kernel
theorem dX10_type_14 : decode cX10_type 14 = .ok (.iconst 0, 1) := by decide +kernel
theorem dX10_type_15 : decode cX10_type 15 = .ok (.istore 4, 2) := by decide +kernel
theorem dX10_type_17 : decode cX10_type 17 = .ok (.iload 4, 2) := by decide +kernel
theorem dX10_type_19 : decode cX10_type 19 = .ok (.iload_n 3, 1) := by decide +kernel
theorem dX10_type_20 : decode cX10_type 20 = .ok (.if_icmp .ge 34, 3) := by decide +kernel
theorem dX10_type_23 : decode cX10_type 23 = .ok (.lload_n 1, 1) := by decide +kernel
theorem dX10_type_24 : decode cX10_type 24 = .ok (.bipush 8, 2) := by decide +kernel
theorem dX10_type_26 : decode cX10_type 26 = .ok (.iload 4, 2) := by decide +kernel
theorem dX10_type_28 : decode cX10_type 28 = .ok (.imul, 1) := by decide +kernel
theorem dX10_type_29 : decode cX10_type 29 = .ok (.lshr, 1) := by decide +kernel
theorem dX10_type_30 : decode cX10_type 30 = .ok (.ldc2_w 135, 3) := by decide +kernel
theorem dX10_type_33 : decode cX10_type 33 = .ok (.land, 1) := by decide +kernel
theorem dX10_type_34 : decode cX10_type 34 = .ok (.ldc2_w 137, 3) := by decide +kernel
theorem dX10_type_37 : decode cX10_type 37 = .ok (.ldc2_w 139, 3) := by decide +kernel
theorem dX10_type_40 : decode cX10_type 40 = .ok (.invokestatic 131, 3) := by decide +kernel
theorem dX10_type_43 : decode cX10_type 43 = .ok (.ifCond .ne 5, 3) := by decide +kernel
theorem dX10_type_46 : decode cX10_type 46 = .ok (.iconst (-1), 1) := by decide +kernel
theorem dX10_type_47 : decode cX10_type 47 = .ok (.ireturn, 1) := by decide +kernel
theorem dX10_type_48 : decode cX10_type 48 = .ok (.iinc 4 1, 3) := by decide +kernel
theorem dX10_type_51 : decode cX10_type 51 = .ok (.goto (-34), 3) := by decide +kernel
theorem dX10_type_54 : decode cX10_type 54 = .ok (.aload_n 0, 1) := by decide +kernel
theorem dX10_type_55 : decode cX10_type 55 = .ok (.getfield 141, 3) := by decide +kernel
theorem dX10_type_58 : decode cX10_type 58 = .ok (.iload_n 3, 1) := by decide +kernel
theorem dX10_type_59 : decode cX10_type 59 = .ok (.iadd, 1) := by decide +kernel
theorem dX10_type_60 : decode cX10_type 60 = .ok (.bipush 120, 2) := by decide +kernel
theorem dX10_type_62 : decode cX10_type 62 = .ok (.if_icmp .le 6, 3) := by decide +kernel
theorem dX10_type_65 : decode cX10_type 65 = .ok (.bipush (-3), 2) := by decide +kernel
theorem dX10_type_67 : decode cX10_type 67 = .ok (.ireturn, 1) := by decide +kernel
theorem dX10_type_68 : decode cX10_type 68 = .ok (.iload_n 3, 1) := by decide +kernel
theorem dX10_type_69 : decode cX10_type 69 = .ok (.iconst 1, 1) := by decide +kernel
theorem dX10_type_70 : decode cX10_type 70 = .ok (.isub, 1) := by decide +kernel
theorem dX10_type_71 : decode cX10_type 71 = .ok (.istore 4, 2) := by decide +kernel
theorem dX10_type_73 : decode cX10_type 73 = .ok (.iload 4, 2) := by decide +kernel
theorem dX10_type_75 : decode cX10_type 75 = .ok (.ifCond .lt 40, 3) := by decide +kernel
theorem dX10_type_78 : decode cX10_type 78 = .ok (.aload_n 0, 1) := by decide +kernel
theorem dX10_type_79 : decode cX10_type 79 = .ok (.getfield 7, 3) := by decide +kernel
theorem dX10_type_82 : decode cX10_type 82 = .ok (.aload_n 0, 1) := by decide +kernel
theorem dX10_type_83 : decode cX10_type 83 = .ok (.getfield 141, 3) := by decide +kernel
theorem dX10_type_86 : decode cX10_type 86 = .ok (.lload_n 1, 1) := by decide +kernel
theorem dX10_type_87 : decode cX10_type 87 = .ok (.bipush 8, 2) := by decide +kernel
theorem dX10_type_89 : decode cX10_type 89 = .ok (.iload 4, 2) := by decide +kernel
theorem dX10_type_91 : decode cX10_type 91 = .ok (.imul, 1) := by decide +kernel
theorem dX10_type_92 : decode cX10_type 92 = .ok (.lshr, 1) := by decide +kernel
theorem dX10_type_93 : decode cX10_type 93 = .ok (.ldc2_w 135, 3) := by decide +kernel
theorem dX10_type_96 : decode cX10_type 96 = .ok (.land, 1) := by decide +kernel
theorem dX10_type_97 : decode cX10_type 97 = .ok (.l2i, 1) := by decide +kernel
theorem dX10_type_98 : decode cX10_type 98 = .ok (.iastore, 1) := by decide +kernel
theorem dX10_type_99 : decode cX10_type 99 = .ok (.aload_n 0, 1) := by decide +kernel
theorem dX10_type_100 : decode cX10_type 100 = .ok (.dup, 1) := by decide +kernel
theorem dX10_type_101 : decode cX10_type 101 = .ok (.getfield 141, 3) := by decide +kernel
theorem dX10_type_104 : decode cX10_type 104 = .ok (.iconst 1, 1) := by decide +kernel
theorem dX10_type_105 : decode cX10_type 105 = .ok (.iadd, 1) := by decide +kernel
theorem dX10_type_106 : decode cX10_type 106 = .ok (.putfield 141, 3) := by decide +kernel
theorem dX10_type_109 : decode cX10_type 109 = .ok (.iinc 4 (-1), 3) := by decide +kernel
theorem dX10_type_112 : decode cX10_type 112 = .ok (.goto (-39), 3) := by decide +kernel
theorem dX10_type_115 : decode cX10_type 115 = .ok (.aload_n 0, 1) := by decide +kernel
theorem dX10_type_116 : decode cX10_type 116 = .ok (.getfield 141, 3) := by decide +kernel
theorem dX10_type_119 : decode cX10_type 119 = .ok (.ireturn, 1) := by decide +kernel
theorem dX10_next_0 : decode cX10_next 0 = .ok (.aload_n 0, 1) := by decide +kernel
theorem dX10_next_1 : decode cX10_next 1 = .ok (.getfield 144, 3) := by decide +kernel
theorem dX10_next_4 : decode cX10_next 4 = .ok (.aload_n 0, 1) := by decide +kernel
theorem dX10_next_5 : decode cX10_next 5 = .ok (.getfield 141, 3) := by decide +kernel
theorem dX10_next_8 : decode cX10_next 8 = .ok (.if_icmp .ge 30, 3) := by decide +kernel
theorem dX10_next_11 : decode cX10_next 11 = .ok (.aload_n 0, 1) := by decide +kernel
theorem dX10_next_12 : decode cX10_next 12 = .ok (.getfield 7, 3) := by decide +kernel
theorem dX10_next_15 : decode cX10_next 15 = .ok (.aload_n 0, 1) := by decide +kernel
theorem dX10_next_16 : decode cX10_next 16 = .ok (.getfield 144, 3) := by decide +kernel
theorem dX10_next_19 : decode cX10_next 19 = .ok (.iaload, 1) := by decide +kernel
theorem dX10_next_20 : decode cX10_next 20 = .ok (.bipush 32, 2) := by decide +kernel
theorem dX10_next_22 : decode cX10_next 22 = .ok (.if_icmp .ne 16, 3) := by decide +kernel
theorem dX10_next_25 : decode cX10_next 25 = .ok (.aload_n 0, 1) := by decide +kernel
theorem dX10_next_26 : decode cX10_next 26 = .ok (.dup, 1) := by decide +kernel
theorem dX10_next_27 : decode cX10_next 27 = .ok (.getfield 144, 3) := by decide +kernel
theorem dX10_next_30 : decode cX10_next 30 = .ok (.iconst 1, 1) := by decide +kernel
theorem dX10_next_31 : decode cX10_next 31 = .ok (.iadd, 1) := by decide +kernel
theorem dX10_next_32 : decode cX10_next 32 = .ok (.putfield 144, 3) := by decide +kernel
theorem dX10_next_35 : decode cX10_next 35 = .ok (.goto (-35), 3) := by decide +kernel
theorem dX10_next_38 : decode cX10_next 38 = .ok (.aload_n 0, 1) := by decide +kernel
theorem dX10_next_39 : decode cX10_next 39 = .ok (.getfield 144, 3) := by decide +kernel
theorem dX10_next_42 : decode cX10_next 42 = .ok (.aload_n 0, 1) := by decide +kernel
theorem dX10_next_43 : decode cX10_next 43 = .ok (.getfield 141, 3) := by decide +kernel
theorem dX10_next_46 : decode cX10_next 46 = .ok (.if_icmp .ge 15, 3) := by decide +kernel
theorem dX10_next_49 : decode cX10_next 49 = .ok (.aload_n 0, 1) := by decide +kernel
theorem dX10_next_50 : decode cX10_next 50 = .ok (.getfield 7, 3) := by decide +kernel
theorem dX10_next_53 : decode cX10_next 53 = .ok (.aload_n 0, 1) := by decide +kernel
theorem dX10_next_54 : decode cX10_next 54 = .ok (.getfield 144, 3) := by decide +kernel
theorem dX10_next_57 : decode cX10_next 57 = .ok (.iaload, 1) := by decide +kernel
theorem dX10_next_58 : decode cX10_next 58 = .ok (.goto 4, 3) := by decide +kernel
theorem dX10_next_61 : decode cX10_next 61 = .ok (.iconst 0, 1) := by decide +kernel
theorem dX10_next_62 : decode cX10_next 62 = .ok (.ireturn, 1) := by decide +kernel
theorem dX10_passes_0 : decode cX10_passes 0 = .ok (.aload_n 0, 1) := by decide +kernel
theorem dX10_passes_1 : decode cX10_passes 1 = .ok (.getfield 147, 3) := by decide +kernel
theorem dX10_passes_4 : decode cX10_passes 4 = .ok (.ifCond .ne 15, 3) := by decide +kernel
theorem dX10_passes_7 : decode cX10_passes 7 = .ok (.aload_n 0, 1) := by decide +kernel
theorem dX10_passes_8 : decode cX10_passes 8 = .ok (.invokevirtual 151, 3) := by decide +kernel
theorem dX10_passes_11 : decode cX10_passes 11 = .ok (.iload_n 1, 1) := by decide +kernel
theorem dX10_passes_12 : decode cX10_passes 12 = .ok (.if_icmp .ne 7, 3) := by decide +kernel
theorem dX10_passes_15 : decode cX10_passes 15 = .ok (.iconst 1, 1) := by decide +kernel
theorem dX10_passes_16 : decode cX10_passes 16 = .ok (.goto 4, 3) := by decide +kernel
theorem dX10_passes_19 : decode cX10_passes 19 = .ok (.iconst 0, 1) := by decide +kernel
theorem dX10_passes_20 : decode cX10_passes 20 = .ok (.istore_n 2, 1) := by decide +kernel
theorem dX10_passes_21 : decode cX10_passes 21 = .ok (.aload_n 0, 1) := by decide +kernel
theorem dX10_passes_22 : decode cX10_passes 22 = .ok (.dup, 1) := by decide +kernel
theorem dX10_passes_23 : decode cX10_passes 23 = .ok (.getfield 144, 3) := by decide +kernel
theorem dX10_passes_26 : decode cX10_passes 26 = .ok (.iload_n 2, 1) := by decide +kernel
theorem dX10_passes_27 : decode cX10_passes 27 = .ok (.ifCond .eq 7, 3) := by decide +kernel
theorem dX10_passes_30 : decode cX10_passes 30 = .ok (.iconst 1, 1) := by decide +kernel
theorem dX10_passes_31 : decode cX10_passes 31 = .ok (.goto 4, 3) := by decide +kernel
theorem dX10_passes_34 : decode cX10_passes 34 = .ok (.iconst 0, 1) := by decide +kernel
theorem dX10_passes_35 : decode cX10_passes 35 = .ok (.iadd, 1) := by decide +kernel
theorem dX10_passes_36 : decode cX10_passes 36 = .ok (.putfield 144, 3) := by decide +kernel
theorem dX10_passes_39 : decode cX10_passes 39 = .ok (.iload_n 2, 1) := by decide +kernel
theorem dX10_passes_40 : decode cX10_passes 40 = .ok (.ireturn, 1) := by decide +kernel
theorem dX10_digit_0 : decode cX10_digit 0 = .ok (.aload_n 0, 1) := by decide +kernel
theorem dX10_digit_1 : decode cX10_digit 1 = .ok (.aload_n 0, 1) := by decide +kernel
theorem dX10_digit_2 : decode cX10_digit 2 = .ok (.getfield 147, 3) := by decide +kernel
theorem dX10_digit_5 : decode cX10_digit 5 = .ok (.ifCond .ne 20, 3) := by decide +kernel
theorem dX10_digit_8 : decode cX10_digit 8 = .ok (.aload_n 0, 1) := by decide +kernel
theorem dX10_digit_9 : decode cX10_digit 9 = .ok (.invokevirtual 151, 3) := by decide +kernel
theorem dX10_digit_12 : decode cX10_digit 12 = .ok (.i2l, 1) := by decide +kernel
theorem dX10_digit_13 : decode cX10_digit 13 = .ok (.ldc2_w 155, 3) := by decide +kernel
theorem dX10_digit_16 : decode cX10_digit 16 = .ok (.ldc2_w 157, 3) := by decide +kernel
theorem dX10_digit_19 : decode cX10_digit 19 = .ok (.invokestatic 131, 3) := by decide +kernel
theorem dX10_digit_22 : decode cX10_digit 22 = .ok (.ifCond .ne 7, 3) := by decide +kernel
theorem dX10_digit_25 : decode cX10_digit 25 = .ok (.iconst 1, 1) := by decide +kernel
theorem dX10_digit_26 : decode cX10_digit 26 = .ok (.goto 4, 3) := by decide +kernel
theorem dX10_digit_29 : decode cX10_digit 29 = .ok (.iconst 0, 1) := by decide +kernel
theorem dX10_digit_30 : decode cX10_digit 30 = .ok (.putfield 147, 3) := by decide +kernel
theorem dX10_digit_33 : decode cX10_digit 33 = .ok (.aload_n 0, 1) := by decide +kernel
theorem dX10_digit_34 : decode cX10_digit 34 = .ok (.getfield 147, 3) := by decide +kernel
theorem dX10_digit_37 : decode cX10_digit 37 = .ok (.ifCond .eq 7, 3) := by decide +kernel
theorem dX10_digit_40 : decode cX10_digit 40 = .ok (.iconst 0, 1) := by decide +kernel
theorem dX10_digit_41 : decode cX10_digit 41 = .ok (.goto 10, 3) := by decide +kernel
theorem dX10_digit_44 : decode cX10_digit 44 = .ok (.aload_n 0, 1) := by decide +kernel
theorem dX10_digit_45 : decode cX10_digit 45 = .ok (.invokevirtual 151, 3) := by decide +kernel
theorem dX10_digit_48 : decode cX10_digit 48 = .ok (.bipush 48, 2) := by decide +kernel
theorem dX10_digit_50 : decode cX10_digit 50 = .ok (.isub, 1) := by decide +kernel
theorem dX10_digit_51 : decode cX10_digit 51 = .ok (.istore_n 1, 1) := by decide +kernel
theorem dX10_digit_52 : decode cX10_digit 52 = .ok (.aload_n 0, 1) := by decide +kernel
theorem dX10_digit_53 : decode cX10_digit 53 = .ok (.dup, 1) := by decide +kernel
theorem dX10_digit_54 : decode cX10_digit 54 = .ok (.getfield 144, 3) := by decide +kernel
theorem dX10_digit_57 : decode cX10_digit 57 = .ok (.aload_n 0, 1) := by decide +kernel
theorem dX10_digit_58 : decode cX10_digit 58 = .ok (.getfield 147, 3) := by decide +kernel
theorem dX10_digit_61 : decode cX10_digit 61 = .ok (.ifCond .eq 7, 3) := by decide +kernel
theorem dX10_digit_64 : decode cX10_digit 64 = .ok (.iconst 0, 1) := by decide +kernel
theorem dX10_digit_65 : decode cX10_digit 65 = .ok (.goto 4, 3) := by decide +kernel
theorem dX10_digit_68 : decode cX10_digit 68 = .ok (.iconst 1, 1) := by decide +kernel
theorem dX10_digit_69 : decode cX10_digit 69 = .ok (.iadd, 1) := by decide +kernel
theorem dX10_digit_70 : decode cX10_digit 70 = .ok (.putfield 144, 3) := by decide +kernel
theorem dX10_digit_73 : decode cX10_digit 73 = .ok (.iload_n 1, 1) := by decide +kernel
theorem dX10_digit_74 : decode cX10_digit 74 = .ok (.ireturn, 1) := by decide +kernel
theorem dX10_claim_0 : decode cX10_claim 0 = .ok (.aload_n 0, 1) := by decide +kernel
theorem dX10_claim_1 : decode cX10_claim 1 = .ok (.invokevirtual 151, 3) := by decide +kernel
theorem dX10_claim_4 : decode cX10_claim 4 = .ok (.istore 4, 2) := by decide +kernel
theorem dX10_claim_6 : decode cX10_claim 6 = .ok (.iload 4, 2) := by decide +kernel
theorem dX10_claim_8 : decode cX10_claim 8 = .ok (.bipush 102, 2) := by decide +kernel
theorem dX10_claim_10 : decode cX10_claim 10 = .ok (.if_icmp .eq 35, 3) := by decide +kernel
theorem dX10_claim_13 : decode cX10_claim 13 = .ok (.iload 4, 2) := by decide +kernel
theorem dX10_claim_15 : decode cX10_claim 15 = .ok (.bipush 115, 2) := by decide +kernel
theorem dX10_claim_17 : decode cX10_claim 17 = .ok (.if_icmp .eq 28, 3) := by decide +kernel
theorem dX10_claim_20 : decode cX10_claim 20 = .ok (.iload 4, 2) := by decide +kernel
theorem dX10_claim_22 : decode cX10_claim 22 = .ok (.bipush 108, 2) := by decide +kernel
theorem dX10_claim_24 : decode cX10_claim 24 = .ok (.if_icmp .eq 21, 3) := by decide +kernel
theorem dX10_claim_27 : decode cX10_claim 27 = .ok (.iload 4, 2) := by decide +kernel
theorem dX10_claim_29 : decode cX10_claim 29 = .ok (.bipush 42, 2) := by decide +kernel
theorem dX10_claim_31 : decode cX10_claim 31 = .ok (.if_icmp .eq 14, 3) := by decide +kernel
theorem dX10_claim_34 : decode cX10_claim 34 = .ok (.iload 4, 2) := by decide +kernel
theorem dX10_claim_36 : decode cX10_claim 36 = .ok (.bipush 97, 2) := by decide +kernel
theorem dX10_claim_38 : decode cX10_claim 38 = .ok (.if_icmp .ne 11, 3) := by decide +kernel
theorem dX10_claim_41 : decode cX10_claim 41 = .ok (.iload_n 3, 1) := by decide +kernel
theorem dX10_claim_42 : decode cX10_claim 42 = .ok (.ifCond .eq 7, 3) := by decide +kernel
theorem dX10_claim_45 : decode cX10_claim 45 = .ok (.iconst 1, 1) := by decide +kernel
theorem dX10_claim_46 : decode cX10_claim 46 = .ok (.goto 4, 3) := by decide +kernel
theorem dX10_claim_49 : decode cX10_claim 49 = .ok (.iconst 0, 1) := by decide +kernel
theorem dX10_claim_50 : decode cX10_claim 50 = .ok (.istore 5, 2) := by decide +kernel
theorem dX10_claim_52 : decode cX10_claim 52 = .ok (.aload_n 0, 1) := by decide +kernel
theorem dX10_claim_53 : decode cX10_claim 53 = .ok (.iload 5, 2) := by decide +kernel
theorem dX10_claim_55 : decode cX10_claim 55 = .ok (.ifCond .ne 7, 3) := by decide +kernel
theorem dX10_claim_58 : decode cX10_claim 58 = .ok (.iconst 1, 1) := by decide +kernel
theorem dX10_claim_59 : decode cX10_claim 59 = .ok (.goto 4, 3) := by decide +kernel
theorem dX10_claim_62 : decode cX10_claim 62 = .ok (.iconst 0, 1) := by decide +kernel
theorem dX10_claim_63 : decode cX10_claim 63 = .ok (.putfield 147, 3) := by decide +kernel
theorem dX10_claim_66 : decode cX10_claim 66 = .ok (.aload_n 0, 1) := by decide +kernel
theorem dX10_claim_67 : decode cX10_claim 67 = .ok (.dup, 1) := by decide +kernel
theorem dX10_claim_68 : decode cX10_claim 68 = .ok (.getfield 144, 3) := by decide +kernel
theorem dX10_claim_71 : decode cX10_claim 71 = .ok (.iload 5, 2) := by decide +kernel
theorem dX10_claim_73 : decode cX10_claim 73 = .ok (.ifCond .eq 7, 3) := by decide +kernel
theorem dX10_claim_76 : decode cX10_claim 76 = .ok (.iconst 1, 1) := by decide +kernel
theorem dX10_claim_77 : decode cX10_claim 77 = .ok (.goto 4, 3) := by decide +kernel
theorem dX10_claim_80 : decode cX10_claim 80 = .ok (.iconst 0, 1) := by decide +kernel
theorem dX10_claim_81 : decode cX10_claim 81 = .ok (.iadd, 1) := by decide +kernel
theorem dX10_claim_82 : decode cX10_claim 82 = .ok (.putfield 144, 3) := by decide +kernel
theorem dX10_claim_85 : decode cX10_claim 85 = .ok (.iload 4, 2) := by decide +kernel
theorem dX10_claim_87 : decode cX10_claim 87 = .ok (.bipush 108, 2) := by decide +kernel
theorem dX10_claim_89 : decode cX10_claim 89 = .ok (.if_icmp .eq 10, 3) := by decide +kernel
theorem dX10_claim_92 : decode cX10_claim 92 = .ok (.iload 4, 2) := by decide +kernel
theorem dX10_claim_94 : decode cX10_claim 94 = .ok (.bipush 42, 2) := by decide +kernel
theorem dX10_claim_96 : decode cX10_claim 96 = .ok (.if_icmp .ne 23, 3) := by decide +kernel
theorem dX10_claim_99 : decode cX10_claim 99 = .ok (.iload 4, 2) := by decide +kernel
theorem dX10_claim_101 : decode cX10_claim 101 = .ok (.bipush 42, 2) := by decide +kernel
theorem dX10_claim_103 : decode cX10_claim 103 = .ok (.if_icmp .eq 10, 3) := by decide +kernel
theorem dX10_claim_106 : decode cX10_claim 106 = .ok (.iload_n 1, 1) := by decide +kernel
theorem dX10_claim_107 : decode cX10_claim 107 = .ok (.iconst 1, 1) := by decide +kernel
theorem dX10_claim_108 : decode cX10_claim 108 = .ok (.iand, 1) := by decide +kernel
theorem dX10_claim_109 : decode cX10_claim 109 = .ok (.iconst 1, 1) := by decide +kernel
theorem dX10_claim_110 : decode cX10_claim 110 = .ok (.if_icmp .ne 7, 3) := by decide +kernel
theorem dX10_claim_113 : decode cX10_claim 113 = .ok (.iconst 1, 1) := by decide +kernel
theorem dX10_claim_114 : decode cX10_claim 114 = .ok (.goto 4, 3) := by decide +kernel
theorem dX10_claim_117 : decode cX10_claim 117 = .ok (.iconst 0, 1) := by decide +kernel
theorem dX10_claim_118 : decode cX10_claim 118 = .ok (.ireturn, 1) := by decide +kernel
theorem dX10_claim_119 : decode cX10_claim 119 = .ok (.aload_n 0, 1) := by decide +kernel
theorem dX10_claim_120 : decode cX10_claim 120 = .ok (.invokevirtual 159, 3) := by decide +kernel
theorem dX10_claim_123 : decode cX10_claim 123 = .ok (.istore 6, 2) := by decide +kernel
theorem dX10_claim_125 : decode cX10_claim 125 = .ok (.iload 4, 2) := by decide +kernel
theorem dX10_claim_127 : decode cX10_claim 127 = .ok (.bipush 102, 2) := by decide +kernel
theorem dX10_claim_129 : decode cX10_claim 129 = .ok (.if_icmp .ne 23, 3) := by decide +kernel
theorem dX10_claim_132 : decode cX10_claim 132 = .ok (.iload_n 1, 1) := by decide +kernel
theorem dX10_claim_133 : decode cX10_claim 133 = .ok (.iload 6, 2) := by decide +kernel
theorem dX10_claim_135 : decode cX10_claim 135 = .ok (.iconst 1, 1) := by decide +kernel
theorem dX10_claim_136 : decode cX10_claim 136 = .ok (.iadd, 1) := by decide +kernel
theorem dX10_claim_137 : decode cX10_claim 137 = .ok (.ishr, 1) := by decide +kernel
theorem dX10_claim_138 : decode cX10_claim 138 = .ok (.iconst 1, 1) := by decide +kernel
theorem dX10_claim_139 : decode cX10_claim 139 = .ok (.iand, 1) := by decide +kernel
theorem dX10_claim_140 : decode cX10_claim 140 = .ok (.iconst 1, 1) := by decide +kernel
theorem dX10_claim_141 : decode cX10_claim 141 = .ok (.if_icmp .ne 7, 3) := by decide +kernel
theorem dX10_claim_144 : decode cX10_claim 144 = .ok (.iconst 1, 1) := by decide +kernel
theorem dX10_claim_145 : decode cX10_claim 145 = .ok (.goto 41, 3) := by decide +kernel
theorem dX10_claim_148 : decode cX10_claim 148 = .ok (.iconst 0, 1) := by decide +kernel
theorem dX10_claim_149 : decode cX10_claim 149 = .ok (.goto 37, 3) := by decide +kernel
theorem dX10_claim_152 : decode cX10_claim 152 = .ok (.iload 4, 2) := by decide +kernel
theorem dX10_claim_154 : decode cX10_claim 154 = .ok (.bipush 115, 2) := by decide +kernel
theorem dX10_claim_156 : decode cX10_claim 156 = .ok (.if_icmp .ne 19, 3) := by decide +kernel
theorem dX10_claim_159 : decode cX10_claim 159 = .ok (.iload_n 1, 1) := by decide +kernel
theorem dX10_claim_160 : decode cX10_claim 160 = .ok (.iconst 5, 1) := by decide +kernel
theorem dX10_claim_161 : decode cX10_claim 161 = .ok (.ishr, 1) := by decide +kernel
theorem dX10_claim_162 : decode cX10_claim 162 = .ok (.iload 6, 2) := by decide +kernel
theorem dX10_claim_164 : decode cX10_claim 164 = .ok (.if_icmp .ne 7, 3) := by decide +kernel
theorem dX10_claim_167 : decode cX10_claim 167 = .ok (.iconst 1, 1) := by decide +kernel
theorem dX10_claim_168 : decode cX10_claim 168 = .ok (.goto 18, 3) := by decide +kernel
theorem dX10_claim_171 : decode cX10_claim 171 = .ok (.iconst 0, 1) := by decide +kernel
theorem dX10_claim_172 : decode cX10_claim 172 = .ok (.goto 14, 3) := by decide +kernel
theorem dX10_claim_175 : decode cX10_claim 175 = .ok (.iload_n 2, 1) := by decide +kernel
theorem dX10_claim_176 : decode cX10_claim 176 = .ok (.iload 6, 2) := by decide +kernel
theorem dX10_claim_178 : decode cX10_claim 178 = .ok (.if_icmp .ne 7, 3) := by decide +kernel
theorem dX10_claim_181 : decode cX10_claim 181 = .ok (.iconst 1, 1) := by decide +kernel
theorem dX10_claim_182 : decode cX10_claim 182 = .ok (.goto 4, 3) := by decide +kernel
theorem dX10_claim_185 : decode cX10_claim 185 = .ok (.iconst 0, 1) := by decide +kernel
theorem dX10_claim_186 : decode cX10_claim 186 = .ok (.ireturn, 1) := by decide +kernel
theorem dX10_test_0 : decode cX10_test 0 = .ok (.iconst 0, 1) := by decide +kernel
theorem dX10_test_1 : decode cX10_test 1 = .ok (.istore 4, 2) := by decide +kernel
theorem dX10_test_3 : decode cX10_test 3 = .ok (.aload_n 0, 1) := by decide +kernel
theorem dX10_test_4 : decode cX10_test 4 = .ok (.getfield 13, 3) := by decide +kernel
theorem dX10_test_7 : decode cX10_test 7 = .ok (.iconst 0, 1) := by decide +kernel
theorem dX10_test_8 : decode cX10_test 8 = .ok (.iconst 0, 1) := by decide +kernel
theorem dX10_test_9 : decode cX10_test 9 = .ok (.bastore, 1) := by decide +kernel
theorem dX10_test_10 : decode cX10_test 10 = .ok (.aload_n 0, 1) := by decide +kernel
theorem dX10_test_11 : decode cX10_test 11 = .ok (.getfield 17, 3) := by decide +kernel
theorem dX10_test_14 : decode cX10_test 14 = .ok (.iconst 0, 1) := by decide +kernel
theorem dX10_test_15 : decode cX10_test 15 = .ok (.iconst 1, 1) := by decide +kernel
theorem dX10_test_16 : decode cX10_test 16 = .ok (.bastore, 1) := by decide +kernel
theorem dX10_test_17 : decode cX10_test 17 = .ok (.iconst 1, 1) := by decide +kernel
theorem dX10_test_18 : decode cX10_test 18 = .ok (.istore 5, 2) := by decide +kernel
theorem dX10_test_20 : decode cX10_test 20 = .ok (.aload_n 0, 1) := by decide +kernel
theorem dX10_test_21 : decode cX10_test 21 = .ok (.getfield 147, 3) := by decide +kernel
theorem dX10_test_24 : decode cX10_test 24 = .ok (.ifCond .ne 300, 3) := by decide +kernel
theorem dX10_test_27 : decode cX10_test 27 = .ok (.iload 5, 2) := by decide +kernel
theorem dX10_test_29 : decode cX10_test 29 = .ok (.ifCond .eq 111, 3) := by decide +kernel
theorem dX10_test_32 : decode cX10_test 32 = .ok (.aload_n 0, 1) := by decide +kernel
theorem dX10_test_33 : decode cX10_test 33 = .ok (.bipush 33, 2) := by decide +kernel
theorem dX10_test_35 : decode cX10_test 35 = .ok (.invokevirtual 162, 3) := by decide +kernel
theorem dX10_test_38 : decode cX10_test 38 = .ok (.istore 6, 2) := by decide +kernel
theorem dX10_test_40 : decode cX10_test 40 = .ok (.aload_n 0, 1) := by decide +kernel
theorem dX10_test_41 : decode cX10_test 41 = .ok (.invokevirtual 151, 3) := by decide +kernel
theorem dX10_test_44 : decode cX10_test 44 = .ok (.bipush 40, 2) := by decide +kernel
theorem dX10_test_46 : decode cX10_test 46 = .ok (.if_icmp .ne 50, 3) := by decide +kernel
theorem dX10_test_49 : decode cX10_test 49 = .ok (.iload 4, 2) := by decide +kernel
theorem dX10_test_51 : decode cX10_test 51 = .ok (.iconst 5, 1) := by decide +kernel
theorem dX10_test_52 : decode cX10_test 52 = .ok (.if_icmp .ge 44, 3) := by decide +kernel
theorem dX10_test_55 : decode cX10_test 55 = .ok (.aload_n 0, 1) := by decide +kernel
theorem dX10_test_56 : decode cX10_test 56 = .ok (.dup, 1) := by decide +kernel
theorem dX10_test_57 : decode cX10_test 57 = .ok (.getfield 144, 3) := by decide +kernel
theorem dX10_test_60 : decode cX10_test 60 = .ok (.iconst 1, 1) := by decide +kernel
theorem dX10_test_61 : decode cX10_test 61 = .ok (.iadd, 1) := by decide +kernel
theorem dX10_test_62 : decode cX10_test 62 = .ok (.putfield 144, 3) := by decide +kernel
theorem dX10_test_65 : decode cX10_test 65 = .ok (.aload_n 0, 1) := by decide +kernel
theorem dX10_test_66 : decode cX10_test 66 = .ok (.getfield 20, 3) := by decide +kernel
theorem dX10_test_69 : decode cX10_test 69 = .ok (.iload 4, 2) := by decide +kernel
theorem dX10_test_71 : decode cX10_test 71 = .ok (.iload 6, 2) := by decide +kernel
theorem dX10_test_73 : decode cX10_test 73 = .ok (.bastore, 1) := by decide +kernel
theorem dX10_test_74 : decode cX10_test 74 = .ok (.iinc 4 1, 3) := by decide +kernel
theorem dX10_test_77 : decode cX10_test 77 = .ok (.aload_n 0, 1) := by decide +kernel
theorem dX10_test_78 : decode cX10_test 78 = .ok (.getfield 13, 3) := by decide +kernel
theorem dX10_test_81 : decode cX10_test 81 = .ok (.iload 4, 2) := by decide +kernel
theorem dX10_test_83 : decode cX10_test 83 = .ok (.iconst 0, 1) := by decide +kernel
theorem dX10_test_84 : decode cX10_test 84 = .ok (.bastore, 1) := by decide +kernel
theorem dX10_test_85 : decode cX10_test 85 = .ok (.aload_n 0, 1) := by decide +kernel
theorem dX10_test_86 : decode cX10_test 86 = .ok (.getfield 17, 3) := by decide +kernel
theorem dX10_test_89 : decode cX10_test 89 = .ok (.iload 4, 2) := by decide +kernel
theorem dX10_test_91 : decode cX10_test 91 = .ok (.iconst 1, 1) := by decide +kernel
theorem dX10_test_92 : decode cX10_test 92 = .ok (.bastore, 1) := by decide +kernel
theorem dX10_test_93 : decode cX10_test 93 = .ok (.goto 44, 3) := by decide +kernel
theorem dX10_test_96 : decode cX10_test 96 = .ok (.aload_n 0, 1) := by decide +kernel
theorem dX10_test_97 : decode cX10_test 97 = .ok (.iload_n 1, 1) := by decide +kernel
theorem dX10_test_98 : decode cX10_test 98 = .ok (.iload_n 2, 1) := by decide +kernel
theorem dX10_test_99 : decode cX10_test 99 = .ok (.iload_n 3, 1) := by decide +kernel
theorem dX10_test_100 : decode cX10_test 100 = .ok (.invokevirtual 166, 3) := by decide +kernel
theorem dX10_test_103 : decode cX10_test 103 = .ok (.istore 7, 2) := by decide +kernel
theorem dX10_test_105 : decode cX10_test 105 = .ok (.aload_n 0, 1) := by decide +kernel
theorem dX10_test_106 : decode cX10_test 106 = .ok (.getfield 17, 3) := by decide +kernel
theorem dX10_test_109 : decode cX10_test 109 = .ok (.iload 4, 2) := by decide +kernel
theorem dX10_test_111 : decode cX10_test 111 = .ok (.aload_n 0, 1) := by decide +kernel
theorem dX10_test_112 : decode cX10_test 112 = .ok (.getfield 17, 3) := by decide +kernel
theorem dX10_test_115 : decode cX10_test 115 = .ok (.iload 4, 2) := by decide +kernel
theorem dX10_test_117 : decode cX10_test 117 = .ok (.baload, 1) := by decide +kernel
theorem dX10_test_118 : decode cX10_test 118 = .ok (.ifCond .eq 14, 3) := by decide +kernel
theorem dX10_test_121 : decode cX10_test 121 = .ok (.iload 7, 2) := by decide +kernel
theorem dX10_test_123 : decode cX10_test 123 = .ok (.iload 6, 2) := by decide +kernel
theorem dX10_test_125 : decode cX10_test 125 = .ok (.if_icmp .eq 7, 3) := by decide +kernel
theorem dX10_test_128 : decode cX10_test 128 = .ok (.iconst 1, 1) := by decide +kernel
theorem dX10_test_129 : decode cX10_test 129 = .ok (.goto 4, 3) := by decide +kernel
theorem dX10_test_132 : decode cX10_test 132 = .ok (.iconst 0, 1) := by decide +kernel
theorem dX10_test_133 : decode cX10_test 133 = .ok (.bastore, 1) := by decide +kernel
theorem dX10_test_134 : decode cX10_test 134 = .ok (.iconst 0, 1) := by decide +kernel
theorem dX10_test_135 : decode cX10_test 135 = .ok (.istore 5, 2) := by decide +kernel
theorem dX10_test_137 : decode cX10_test 137 = .ok (.goto (-117), 3) := by decide +kernel
theorem dX10_test_140 : decode cX10_test 140 = .ok (.aload_n 0, 1) := by decide +kernel
theorem dX10_test_141 : decode cX10_test 141 = .ok (.bipush 38, 2) := by decide +kernel
theorem dX10_test_143 : decode cX10_test 143 = .ok (.invokevirtual 162, 3) := by decide +kernel
theorem dX10_test_146 : decode cX10_test 146 = .ok (.ifCond .eq 9, 3) := by decide +kernel
theorem dX10_test_149 : decode cX10_test 149 = .ok (.iconst 1, 1) := by decide +kernel
theorem dX10_test_150 : decode cX10_test 150 = .ok (.istore 5, 2) := by decide +kernel
theorem dX10_test_152 : decode cX10_test 152 = .ok (.goto (-132), 3) := by decide +kernel
theorem dX10_test_155 : decode cX10_test 155 = .ok (.aload_n 0, 1) := by decide +kernel
theorem dX10_test_156 : decode cX10_test 156 = .ok (.bipush 124, 2) := by decide +kernel
theorem dX10_test_158 : decode cX10_test 158 = .ok (.invokevirtual 162, 3) := by decide +kernel
theorem dX10_test_161 : decode cX10_test 161 = .ok (.ifCond .eq 49, 3) := by decide +kernel
theorem dX10_test_164 : decode cX10_test 164 = .ok (.aload_n 0, 1) := by decide +kernel
theorem dX10_test_165 : decode cX10_test 165 = .ok (.getfield 13, 3) := by decide +kernel
theorem dX10_test_168 : decode cX10_test 168 = .ok (.iload 4, 2) := by decide +kernel
theorem dX10_test_170 : decode cX10_test 170 = .ok (.aload_n 0, 1) := by decide +kernel
theorem dX10_test_171 : decode cX10_test 171 = .ok (.getfield 13, 3) := by decide +kernel
theorem dX10_test_174 : decode cX10_test 174 = .ok (.iload 4, 2) := by decide +kernel
theorem dX10_test_176 : decode cX10_test 176 = .ok (.baload, 1) := by decide +kernel
theorem dX10_test_177 : decode cX10_test 177 = .ok (.ifCond .ne 13, 3) := by decide +kernel
theorem dX10_test_180 : decode cX10_test 180 = .ok (.aload_n 0, 1) := by decide +kernel
theorem dX10_test_181 : decode cX10_test 181 = .ok (.getfield 17, 3) := by decide +kernel
theorem dX10_test_184 : decode cX10_test 184 = .ok (.iload 4, 2) := by decide +kernel
theorem dX10_test_186 : decode cX10_test 186 = .ok (.baload, 1) := by decide +kernel
theorem dX10_test_187 : decode cX10_test 187 = .ok (.ifCond .eq 7, 3) := by decide +kernel
theorem dX10_test_190 : decode cX10_test 190 = .ok (.iconst 1, 1) := by decide +kernel
theorem dX10_test_191 : decode cX10_test 191 = .ok (.goto 4, 3) := by decide +kernel
theorem dX10_test_194 : decode cX10_test 194 = .ok (.iconst 0, 1) := by decide +kernel
theorem dX10_test_195 : decode cX10_test 195 = .ok (.bastore, 1) := by decide +kernel
theorem dX10_test_196 : decode cX10_test 196 = .ok (.aload_n 0, 1) := by decide +kernel
theorem dX10_test_197 : decode cX10_test 197 = .ok (.getfield 17, 3) := by decide +kernel
theorem dX10_test_200 : decode cX10_test 200 = .ok (.iload 4, 2) := by decide +kernel
theorem dX10_test_202 : decode cX10_test 202 = .ok (.iconst 1, 1) := by decide +kernel
theorem dX10_test_203 : decode cX10_test 203 = .ok (.bastore, 1) := by decide +kernel
theorem dX10_test_204 : decode cX10_test 204 = .ok (.iconst 1, 1) := by decide +kernel
theorem dX10_test_205 : decode cX10_test 205 = .ok (.istore 5, 2) := by decide +kernel
theorem dX10_test_207 : decode cX10_test 207 = .ok (.goto (-187), 3) := by decide +kernel
theorem dX10_test_210 : decode cX10_test 210 = .ok (.iload 4, 2) := by decide +kernel
theorem dX10_test_212 : decode cX10_test 212 = .ok (.ifCond .ne 27, 3) := by decide +kernel
theorem dX10_test_215 : decode cX10_test 215 = .ok (.aload_n 0, 1) := by decide +kernel
theorem dX10_test_216 : decode cX10_test 216 = .ok (.getfield 13, 3) := by decide +kernel
theorem dX10_test_219 : decode cX10_test 219 = .ok (.iconst 0, 1) := by decide +kernel
theorem dX10_test_220 : decode cX10_test 220 = .ok (.baload, 1) := by decide +kernel
theorem dX10_test_221 : decode cX10_test 221 = .ok (.ifCond .ne 12, 3) := by decide +kernel
theorem dX10_test_224 : decode cX10_test 224 = .ok (.aload_n 0, 1) := by decide +kernel
theorem dX10_test_225 : decode cX10_test 225 = .ok (.getfield 17, 3) := by decide +kernel
theorem dX10_test_228 : decode cX10_test 228 = .ok (.iconst 0, 1) := by decide +kernel
theorem dX10_test_229 : decode cX10_test 229 = .ok (.baload, 1) := by decide +kernel
theorem dX10_test_230 : decode cX10_test 230 = .ok (.ifCond .eq 7, 3) := by decide +kernel
theorem dX10_test_233 : decode cX10_test 233 = .ok (.iconst 1, 1) := by decide +kernel
theorem dX10_test_234 : decode cX10_test 234 = .ok (.goto 4, 3) := by decide +kernel
theorem dX10_test_237 : decode cX10_test 237 = .ok (.iconst 0, 1) := by decide +kernel
theorem dX10_test_238 : decode cX10_test 238 = .ok (.ireturn, 1) := by decide +kernel
theorem dX10_test_239 : decode cX10_test 239 = .ok (.aload_n 0, 1) := by decide +kernel
theorem dX10_test_240 : decode cX10_test 240 = .ok (.aload_n 0, 1) := by decide +kernel
theorem dX10_test_241 : decode cX10_test 241 = .ok (.bipush 41, 2) := by decide +kernel
theorem dX10_test_243 : decode cX10_test 243 = .ok (.invokevirtual 162, 3) := by decide +kernel
theorem dX10_test_246 : decode cX10_test 246 = .ok (.ifCond .ne 7, 3) := by decide +kernel
theorem dX10_test_249 : decode cX10_test 249 = .ok (.iconst 1, 1) := by decide +kernel
theorem dX10_test_250 : decode cX10_test 250 = .ok (.goto 4, 3) := by decide +kernel
theorem dX10_test_253 : decode cX10_test 253 = .ok (.iconst 0, 1) := by decide +kernel
theorem dX10_test_254 : decode cX10_test 254 = .ok (.putfield 147, 3) := by decide +kernel
theorem dX10_test_257 : decode cX10_test 257 = .ok (.aload_n 0, 1) := by decide +kernel
theorem dX10_test_258 : decode cX10_test 258 = .ok (.getfield 13, 3) := by decide +kernel
theorem dX10_test_261 : decode cX10_test 261 = .ok (.iload 4, 2) := by decide +kernel
theorem dX10_test_263 : decode cX10_test 263 = .ok (.baload, 1) := by decide +kernel
theorem dX10_test_264 : decode cX10_test 264 = .ok (.ifCond .ne 13, 3) := by decide +kernel
theorem dX10_test_267 : decode cX10_test 267 = .ok (.aload_n 0, 1) := by decide +kernel
theorem dX10_test_268 : decode cX10_test 268 = .ok (.getfield 17, 3) := by decide +kernel
theorem dX10_test_271 : decode cX10_test 271 = .ok (.iload 4, 2) := by decide +kernel
theorem dX10_test_273 : decode cX10_test 273 = .ok (.baload, 1) := by decide +kernel
theorem dX10_test_274 : decode cX10_test 274 = .ok (.ifCond .eq 7, 3) := by decide +kernel
theorem dX10_test_277 : decode cX10_test 277 = .ok (.iconst 1, 1) := by decide +kernel
theorem dX10_test_278 : decode cX10_test 278 = .ok (.goto 4, 3) := by decide +kernel
theorem dX10_test_281 : decode cX10_test 281 = .ok (.iconst 0, 1) := by decide +kernel
theorem dX10_test_282 : decode cX10_test 282 = .ok (.istore 6, 2) := by decide +kernel
theorem dX10_test_284 : decode cX10_test 284 = .ok (.iinc 4 (-1), 3) := by decide +kernel
theorem dX10_test_287 : decode cX10_test 287 = .ok (.aload_n 0, 1) := by decide +kernel
theorem dX10_test_288 : decode cX10_test 288 = .ok (.getfield 17, 3) := by decide +kernel
theorem dX10_test_291 : decode cX10_test 291 = .ok (.iload 4, 2) := by decide +kernel
theorem dX10_test_293 : decode cX10_test 293 = .ok (.aload_n 0, 1) := by decide +kernel
theorem dX10_test_294 : decode cX10_test 294 = .ok (.getfield 17, 3) := by decide +kernel
theorem dX10_test_297 : decode cX10_test 297 = .ok (.iload 4, 2) := by decide +kernel
theorem dX10_test_299 : decode cX10_test 299 = .ok (.baload, 1) := by decide +kernel
theorem dX10_test_300 : decode cX10_test 300 = .ok (.ifCond .eq 19, 3) := by decide +kernel
theorem dX10_test_303 : decode cX10_test 303 = .ok (.iload 6, 2) := by decide +kernel
theorem dX10_test_305 : decode cX10_test 305 = .ok (.aload_n 0, 1) := by decide +kernel
theorem dX10_test_306 : decode cX10_test 306 = .ok (.getfield 20, 3) := by decide +kernel
theorem dX10_test_309 : decode cX10_test 309 = .ok (.iload 4, 2) := by decide +kernel
theorem dX10_test_311 : decode cX10_test 311 = .ok (.baload, 1) := by decide +kernel
theorem dX10_test_312 : decode cX10_test 312 = .ok (.if_icmp .eq 7, 3) := by decide +kernel
theorem dX10_test_315 : decode cX10_test 315 = .ok (.iconst 1, 1) := by decide +kernel
theorem dX10_test_316 : decode cX10_test 316 = .ok (.goto 4, 3) := by decide +kernel
theorem dX10_test_319 : decode cX10_test 319 = .ok (.iconst 0, 1) := by decide +kernel
theorem dX10_test_320 : decode cX10_test 320 = .ok (.bastore, 1) := by decide +kernel
theorem dX10_test_321 : decode cX10_test 321 = .ok (.goto (-301), 3) := by decide +kernel
theorem dX10_test_324 : decode cX10_test 324 = .ok (.iconst 0, 1) := by decide +kernel
theorem dX10_test_325 : decode cX10_test 325 = .ok (.ireturn, 1) := by decide +kernel
theorem dX10_isMachine_0 : decode cX10_isMachine 0 = .ok (.iload_n 0, 1) := by decide +kernel
theorem dX10_isMachine_1 : decode cX10_isMachine 1 = .ok (.i2l, 1) := by decide +kernel
theorem dX10_isMachine_2 : decode cX10_isMachine 2 = .ok (.lconst 0, 1) := by decide +kernel
theorem dX10_isMachine_3 : decode cX10_isMachine 3 = .ok (.lconst 1, 1) := by decide +kernel
theorem dX10_isMachine_4 : decode cX10_isMachine 4 = .ok (.invokestatic 131, 3) := by decide +kernel
theorem dX10_isMachine_7 : decode cX10_isMachine 7 = .ok (.ireturn, 1) := by decide +kernel
theorem dX10_clause_0 : decode cX10_clause 0 = .ok (.aload_n 0, 1) := by decide +kernel
theorem dX10_clause_1 : decode cX10_clause 1 = .ok (.getfield 38, 3) := by decide +kernel
theorem dX10_clause_4 : decode cX10_clause 4 = .ok (.iload_n 1, 1) := by decide +kernel
theorem dX10_clause_5 : decode cX10_clause 5 = .ok (.aload_n 0, 1) := by decide +kernel
theorem dX10_clause_6 : decode cX10_clause 6 = .ok (.invokevirtual 159, 3) := by decide +kernel
theorem dX10_clause_9 : decode cX10_clause 9 = .ok (.iastore, 1) := by decide +kernel
theorem dX10_clause_10 : decode cX10_clause 10 = .ok (.aload_n 0, 1) := by decide +kernel
theorem dX10_clause_11 : decode cX10_clause 11 = .ok (.getfield 144, 3) := by decide +kernel
theorem dX10_clause_14 : decode cX10_clause 14 = .ok (.istore_n 2, 1) := by decide +kernel
theorem dX10_clause_15 : decode cX10_clause 15 = .ok (.aload_n 0, 1) := by decide +kernel
theorem dX10_clause_16 : decode cX10_clause 16 = .ok (.getfield 144, 3) := by decide +kernel
theorem dX10_clause_19 : decode cX10_clause 19 = .ok (.istore_n 3, 1) := by decide +kernel
theorem dX10_clause_20 : decode cX10_clause 20 = .ok (.iconst 0, 1) := by decide +kernel
theorem dX10_clause_21 : decode cX10_clause 21 = .ok (.istore 4, 2) := by decide +kernel
theorem dX10_clause_23 : decode cX10_clause 23 = .ok (.iload 4, 2) := by decide +kernel
theorem dX10_clause_25 : decode cX10_clause 25 = .ok (.sipush 128, 3) := by decide +kernel
theorem dX10_clause_28 : decode cX10_clause 28 = .ok (.if_icmp .ge 47, 3) := by decide +kernel
theorem dX10_clause_31 : decode cX10_clause 31 = .ok (.aload_n 0, 1) := by decide +kernel
theorem dX10_clause_32 : decode cX10_clause 32 = .ok (.getfield 147, 3) := by decide +kernel
theorem dX10_clause_35 : decode cX10_clause 35 = .ok (.ifCond .ne 40, 3) := by decide +kernel
theorem dX10_clause_38 : decode cX10_clause 38 = .ok (.aload_n 0, 1) := by decide +kernel
theorem dX10_clause_39 : decode cX10_clause 39 = .ok (.iload_n 2, 1) := by decide +kernel
theorem dX10_clause_40 : decode cX10_clause 40 = .ok (.putfield 144, 3) := by decide +kernel
theorem dX10_clause_43 : decode cX10_clause 43 = .ok (.aload_n 0, 1) := by decide +kernel
theorem dX10_clause_44 : decode cX10_clause 44 = .ok (.getfield 47, 3) := by decide +kernel
theorem dX10_clause_47 : decode cX10_clause 47 = .ok (.sipush 128, 3) := by decide +kernel
theorem dX10_clause_50 : decode cX10_clause 50 = .ok (.iload_n 1, 1) := by decide +kernel
theorem dX10_clause_51 : decode cX10_clause 51 = .ok (.imul, 1) := by decide +kernel
theorem dX10_clause_52 : decode cX10_clause 52 = .ok (.iload 4, 2) := by decide +kernel
theorem dX10_clause_54 : decode cX10_clause 54 = .ok (.iadd, 1) := by decide +kernel
theorem dX10_clause_55 : decode cX10_clause 55 = .ok (.aload_n 0, 1) := by decide +kernel
theorem dX10_clause_56 : decode cX10_clause 56 = .ok (.iload 4, 2) := by decide +kernel
theorem dX10_clause_58 : decode cX10_clause 58 = .ok (.iconst 0, 1) := by decide +kernel
theorem dX10_clause_59 : decode cX10_clause 59 = .ok (.iconst 0, 1) := by decide +kernel
theorem dX10_clause_60 : decode cX10_clause 60 = .ok (.invokevirtual 170, 3) := by decide +kernel
theorem dX10_clause_63 : decode cX10_clause 63 = .ok (.bastore, 1) := by decide +kernel
theorem dX10_clause_64 : decode cX10_clause 64 = .ok (.aload_n 0, 1) := by decide +kernel
theorem dX10_clause_65 : decode cX10_clause 65 = .ok (.getfield 144, 3) := by decide +kernel
theorem dX10_clause_68 : decode cX10_clause 68 = .ok (.istore_n 3, 1) := by decide +kernel
theorem dX10_clause_69 : decode cX10_clause 69 = .ok (.iinc 4 1, 3) := by decide +kernel
theorem dX10_clause_72 : decode cX10_clause 72 = .ok (.goto (-49), 3) := by decide +kernel
theorem dX10_clause_75 : decode cX10_clause 75 = .ok (.aload_n 0, 1) := by decide +kernel
theorem dX10_clause_76 : decode cX10_clause 76 = .ok (.aload_n 0, 1) := by decide +kernel
theorem dX10_clause_77 : decode cX10_clause 77 = .ok (.getfield 147, 3) := by decide +kernel
theorem dX10_clause_80 : decode cX10_clause 80 = .ok (.ifCond .eq 10, 3) := by decide +kernel
theorem dX10_clause_83 : decode cX10_clause 83 = .ok (.aload_n 0, 1) := by decide +kernel
theorem dX10_clause_84 : decode cX10_clause 84 = .ok (.getfield 144, 3) := by decide +kernel
theorem dX10_clause_87 : decode cX10_clause 87 = .ok (.goto 4, 3) := by decide +kernel
theorem dX10_clause_90 : decode cX10_clause 90 = .ok (.iload_n 3, 1) := by decide +kernel
theorem dX10_clause_91 : decode cX10_clause 91 = .ok (.putfield 144, 3) := by decide +kernel
theorem dX10_clause_94 : decode cX10_clause 94 = .ok (.aload_n 0, 1) := by decide +kernel
theorem dX10_clause_95 : decode cX10_clause 95 = .ok (.aload_n 0, 1) := by decide +kernel
theorem dX10_clause_96 : decode cX10_clause 96 = .ok (.getfield 147, 3) := by decide +kernel
theorem dX10_clause_99 : decode cX10_clause 99 = .ok (.ifCond .ne 12, 3) := by decide +kernel
theorem dX10_clause_102 : decode cX10_clause 102 = .ok (.aload_n 0, 1) := by decide +kernel
theorem dX10_clause_103 : decode cX10_clause 103 = .ok (.bipush 58, 2) := by decide +kernel
theorem dX10_clause_105 : decode cX10_clause 105 = .ok (.invokevirtual 162, 3) := by decide +kernel
theorem dX10_clause_108 : decode cX10_clause 108 = .ok (.ifCond .ne 7, 3) := by decide +kernel
theorem dX10_clause_111 : decode cX10_clause 111 = .ok (.iconst 1, 1) := by decide +kernel
theorem dX10_clause_112 : decode cX10_clause 112 = .ok (.goto 4, 3) := by decide +kernel
theorem dX10_clause_115 : decode cX10_clause 115 = .ok (.iconst 0, 1) := by decide +kernel
theorem dX10_clause_116 : decode cX10_clause 116 = .ok (.putfield 147, 3) := by decide +kernel
theorem dX10_clause_119 : decode cX10_clause 119 = .ok (.aload_n 0, 1) := by decide +kernel
theorem dX10_clause_120 : decode cX10_clause 120 = .ok (.getfield 41, 3) := by decide +kernel
theorem dX10_clause_123 : decode cX10_clause 123 = .ok (.iload_n 1, 1) := by decide +kernel
theorem dX10_clause_124 : decode cX10_clause 124 = .ok (.aload_n 0, 1) := by decide +kernel
theorem dX10_clause_125 : decode cX10_clause 125 = .ok (.invokevirtual 159, 3) := by decide +kernel
theorem dX10_clause_128 : decode cX10_clause 128 = .ok (.iastore, 1) := by decide +kernel
theorem dX10_clause_129 : decode cX10_clause 129 = .ok (.aload_n 0, 1) := by decide +kernel
theorem dX10_clause_130 : decode cX10_clause 130 = .ok (.getfield 44, 3) := by decide +kernel
theorem dX10_clause_133 : decode cX10_clause 133 = .ok (.iload_n 1, 1) := by decide +kernel
theorem dX10_clause_134 : decode cX10_clause 134 = .ok (.aload_n 0, 1) := by decide +kernel
theorem dX10_clause_135 : decode cX10_clause 135 = .ok (.bipush 62, 2) := by decide +kernel
theorem dX10_clause_137 : decode cX10_clause 137 = .ok (.invokevirtual 162, 3) := by decide +kernel
theorem dX10_clause_140 : decode cX10_clause 140 = .ok (.ifCond .eq 10, 3) := by decide +kernel
theorem dX10_clause_143 : decode cX10_clause 143 = .ok (.aload_n 0, 1) := by decide +kernel
theorem dX10_clause_144 : decode cX10_clause 144 = .ok (.invokevirtual 159, 3) := by decide +kernel
theorem dX10_clause_147 : decode cX10_clause 147 = .ok (.goto 5, 3) := by decide +kernel
theorem dX10_clause_150 : decode cX10_clause 150 = .ok (.bipush (-4), 2) := by decide +kernel
theorem dX10_clause_152 : decode cX10_clause 152 = .ok (.iastore, 1) := by decide +kernel
theorem dX10_clause_153 : decode cX10_clause 153 = .ok (.return_, 1) := by decide +kernel
theorem dX10_rules_0 : decode cX10_rules 0 = .ok (.iload_n 1, 1) := by decide +kernel
theorem dX10_rules_1 : decode cX10_rules 1 = .ok (.invokestatic 173, 3) := by decide +kernel
theorem dX10_rules_4 : decode cX10_rules 4 = .ok (.ifCond .ne 5, 3) := by decide +kernel
theorem dX10_rules_7 : decode cX10_rules 7 = .ok (.iconst (-1), 1) := by decide +kernel
theorem dX10_rules_8 : decode cX10_rules 8 = .ok (.ireturn, 1) := by decide +kernel
theorem dX10_rules_9 : decode cX10_rules 9 = .ok (.aload_n 0, 1) := by decide +kernel
theorem dX10_rules_10 : decode cX10_rules 10 = .ok (.iconst 0, 1) := by decide +kernel
theorem dX10_rules_11 : decode cX10_rules 11 = .ok (.putfield 144, 3) := by decide +kernel
theorem dX10_rules_14 : decode cX10_rules 14 = .ok (.aload_n 0, 1) := by decide +kernel
theorem dX10_rules_15 : decode cX10_rules 15 = .ok (.iconst 0, 1) := by decide +kernel
theorem dX10_rules_16 : decode cX10_rules 16 = .ok (.putfield 147, 3) := by decide +kernel
theorem dX10_rules_19 : decode cX10_rules 19 = .ok (.iconst 0, 1) := by decide +kernel
theorem dX10_rules_20 : decode cX10_rules 20 = .ok (.istore_n 2, 1) := by decide +kernel
theorem dX10_rules_21 : decode cX10_rules 21 = .ok (.iconst 1, 1) := by decide +kernel
theorem dX10_rules_22 : decode cX10_rules 22 = .ok (.istore_n 3, 1) := by decide +kernel
theorem dX10_rules_23 : decode cX10_rules 23 = .ok (.iload_n 3, 1) := by decide +kernel
theorem dX10_rules_24 : decode cX10_rules 24 = .ok (.ifCond .eq 35, 3) := by decide +kernel
theorem dX10_rules_27 : decode cX10_rules 27 = .ok (.aload_n 0, 1) := by decide +kernel
theorem dX10_rules_28 : decode cX10_rules 28 = .ok (.iload_n 2, 1) := by decide +kernel
theorem dX10_rules_29 : decode cX10_rules 29 = .ok (.invokevirtual 176, 3) := by decide +kernel
theorem dX10_rules_32 : decode cX10_rules 32 = .ok (.iinc 2 1, 3) := by decide +kernel
theorem dX10_rules_35 : decode cX10_rules 35 = .ok (.iload_n 2, 1) := by decide +kernel
theorem dX10_rules_36 : decode cX10_rules 36 = .ok (.bipush 8, 2) := by decide +kernel
theorem dX10_rules_38 : decode cX10_rules 38 = .ok (.if_icmp .ge 16, 3) := by decide +kernel
theorem dX10_rules_41 : decode cX10_rules 41 = .ok (.aload_n 0, 1) := by decide +kernel
theorem dX10_rules_42 : decode cX10_rules 42 = .ok (.bipush 59, 2) := by decide +kernel
theorem dX10_rules_44 : decode cX10_rules 44 = .ok (.invokevirtual 162, 3) := by decide +kernel
theorem dX10_rules_47 : decode cX10_rules 47 = .ok (.ifCond .eq 7, 3) := by decide +kernel
theorem dX10_rules_50 : decode cX10_rules 50 = .ok (.iconst 1, 1) := by decide +kernel
theorem dX10_rules_51 : decode cX10_rules 51 = .ok (.goto 4, 3) := by decide +kernel
theorem dX10_rules_54 : decode cX10_rules 54 = .ok (.iconst 0, 1) := by decide +kernel
theorem dX10_rules_55 : decode cX10_rules 55 = .ok (.istore_n 3, 1) := by decide +kernel
theorem dX10_rules_56 : decode cX10_rules 56 = .ok (.goto (-33), 3) := by decide +kernel
theorem dX10_rules_59 : decode cX10_rules 59 = .ok (.aload_n 0, 1) := by decide +kernel
theorem dX10_rules_60 : decode cX10_rules 60 = .ok (.aload_n 0, 1) := by decide +kernel
theorem dX10_rules_61 : decode cX10_rules 61 = .ok (.getfield 147, 3) := by decide +kernel
theorem dX10_rules_64 : decode cX10_rules 64 = .ok (.ifCond .ne 10, 3) := by decide +kernel
theorem dX10_rules_67 : decode cX10_rules 67 = .ok (.aload_n 0, 1) := by decide +kernel
theorem dX10_rules_68 : decode cX10_rules 68 = .ok (.invokevirtual 151, 3) := by decide +kernel
theorem dX10_rules_71 : decode cX10_rules 71 = .ok (.ifCond .eq 7, 3) := by decide +kernel
theorem dX10_rules_74 : decode cX10_rules 74 = .ok (.iconst 1, 1) := by decide +kernel
theorem dX10_rules_75 : decode cX10_rules 75 = .ok (.goto 4, 3) := by decide +kernel
theorem dX10_rules_78 : decode cX10_rules 78 = .ok (.iconst 0, 1) := by decide +kernel
theorem dX10_rules_79 : decode cX10_rules 79 = .ok (.putfield 147, 3) := by decide +kernel
theorem dX10_rules_82 : decode cX10_rules 82 = .ok (.aload_n 0, 1) := by decide +kernel
theorem dX10_rules_83 : decode cX10_rules 83 = .ok (.iconst 0, 1) := by decide +kernel
theorem dX10_rules_84 : decode cX10_rules 84 = .ok (.putfield 141, 3) := by decide +kernel
theorem dX10_rules_87 : decode cX10_rules 87 = .ok (.aload_n 0, 1) := by decide +kernel
theorem dX10_rules_88 : decode cX10_rules 88 = .ok (.getfield 147, 3) := by decide +kernel
theorem dX10_rules_91 : decode cX10_rules 91 = .ok (.ifCond .eq 11, 3) := by decide +kernel
theorem dX10_rules_94 : decode cX10_rules 94 = .ok (.bipush (-20), 2) := by decide +kernel
theorem dX10_rules_96 : decode cX10_rules 96 = .ok (.aload_n 0, 1) := by decide +kernel
theorem dX10_rules_97 : decode cX10_rules 97 = .ok (.getfield 144, 3) := by decide +kernel
theorem dX10_rules_100 : decode cX10_rules 100 = .ok (.isub, 1) := by decide +kernel
theorem dX10_rules_101 : decode cX10_rules 101 = .ok (.ireturn, 1) := by decide +kernel
theorem dX10_rules_102 : decode cX10_rules 102 = .ok (.aload_n 0, 1) := by decide +kernel
theorem dX10_rules_103 : decode cX10_rules 103 = .ok (.getfield 23, 3) := by decide +kernel
theorem dX10_rules_106 : decode cX10_rules 106 = .ok (.iload_n 1, 1) := by decide +kernel
theorem dX10_rules_107 : decode cX10_rules 107 = .ok (.iload_n 2, 1) := by decide +kernel
theorem dX10_rules_108 : decode cX10_rules 108 = .ok (.iastore, 1) := by decide +kernel
theorem dX10_rules_109 : decode cX10_rules 109 = .ok (.iconst 0, 1) := by decide +kernel
theorem dX10_rules_110 : decode cX10_rules 110 = .ok (.istore 4, 2) := by decide +kernel
theorem dX10_rules_112 : decode cX10_rules 112 = .ok (.iload 4, 2) := by decide +kernel
theorem dX10_rules_114 : decode cX10_rules 114 = .ok (.iload_n 2, 1) := by decide +kernel
theorem dX10_rules_115 : decode cX10_rules 115 = .ok (.if_icmp .ge 116, 3) := by decide +kernel
theorem dX10_rules_118 : decode cX10_rules 118 = .ok (.aload_n 0, 1) := by decide +kernel
theorem dX10_rules_119 : decode cX10_rules 119 = .ok (.getfield 26, 3) := by decide +kernel
theorem dX10_rules_122 : decode cX10_rules 122 = .ok (.bipush 8, 2) := by decide +kernel
theorem dX10_rules_124 : decode cX10_rules 124 = .ok (.iload_n 1, 1) := by decide +kernel
theorem dX10_rules_125 : decode cX10_rules 125 = .ok (.imul, 1) := by decide +kernel
theorem dX10_rules_126 : decode cX10_rules 126 = .ok (.iload 4, 2) := by decide +kernel
theorem dX10_rules_128 : decode cX10_rules 128 = .ok (.iadd, 1) := by decide +kernel
theorem dX10_rules_129 : decode cX10_rules 129 = .ok (.aload_n 0, 1) := by decide +kernel
theorem dX10_rules_130 : decode cX10_rules 130 = .ok (.getfield 38, 3) := by decide +kernel
theorem dX10_rules_133 : decode cX10_rules 133 = .ok (.iload 4, 2) := by decide +kernel
theorem dX10_rules_135 : decode cX10_rules 135 = .ok (.iaload, 1) := by decide +kernel
theorem dX10_rules_136 : decode cX10_rules 136 = .ok (.iastore, 1) := by decide +kernel
theorem dX10_rules_137 : decode cX10_rules 137 = .ok (.aload_n 0, 1) := by decide +kernel
theorem dX10_rules_138 : decode cX10_rules 138 = .ok (.getfield 29, 3) := by decide +kernel
theorem dX10_rules_141 : decode cX10_rules 141 = .ok (.bipush 8, 2) := by decide +kernel
theorem dX10_rules_143 : decode cX10_rules 143 = .ok (.iload_n 1, 1) := by decide +kernel
theorem dX10_rules_144 : decode cX10_rules 144 = .ok (.imul, 1) := by decide +kernel
theorem dX10_rules_145 : decode cX10_rules 145 = .ok (.iload 4, 2) := by decide +kernel
theorem dX10_rules_147 : decode cX10_rules 147 = .ok (.iadd, 1) := by decide +kernel
theorem dX10_rules_148 : decode cX10_rules 148 = .ok (.aload_n 0, 1) := by decide +kernel
theorem dX10_rules_149 : decode cX10_rules 149 = .ok (.getfield 41, 3) := by decide +kernel
theorem dX10_rules_152 : decode cX10_rules 152 = .ok (.iload 4, 2) := by decide +kernel
theorem dX10_rules_154 : decode cX10_rules 154 = .ok (.iaload, 1) := by decide +kernel
theorem dX10_rules_155 : decode cX10_rules 155 = .ok (.iastore, 1) := by decide +kernel
theorem dX10_rules_156 : decode cX10_rules 156 = .ok (.aload_n 0, 1) := by decide +kernel
theorem dX10_rules_157 : decode cX10_rules 157 = .ok (.getfield 32, 3) := by decide +kernel
theorem dX10_rules_160 : decode cX10_rules 160 = .ok (.bipush 8, 2) := by decide +kernel
theorem dX10_rules_162 : decode cX10_rules 162 = .ok (.iload_n 1, 1) := by decide +kernel
theorem dX10_rules_163 : decode cX10_rules 163 = .ok (.imul, 1) := by decide +kernel
theorem dX10_rules_164 : decode cX10_rules 164 = .ok (.iload 4, 2) := by decide +kernel
theorem dX10_rules_166 : decode cX10_rules 166 = .ok (.iadd, 1) := by decide +kernel
theorem dX10_rules_167 : decode cX10_rules 167 = .ok (.aload_n 0, 1) := by decide +kernel
theorem dX10_rules_168 : decode cX10_rules 168 = .ok (.getfield 44, 3) := by decide +kernel
theorem dX10_rules_171 : decode cX10_rules 171 = .ok (.iload 4, 2) := by decide +kernel
theorem dX10_rules_173 : decode cX10_rules 173 = .ok (.iaload, 1) := by decide +kernel
theorem dX10_rules_174 : decode cX10_rules 174 = .ok (.iastore, 1) := by decide +kernel
theorem dX10_rules_175 : decode cX10_rules 175 = .ok (.iconst 0, 1) := by decide +kernel
theorem dX10_rules_176 : decode cX10_rules 176 = .ok (.istore 5, 2) := by decide +kernel
theorem dX10_rules_178 : decode cX10_rules 178 = .ok (.iload 5, 2) := by decide +kernel
theorem dX10_rules_180 : decode cX10_rules 180 = .ok (.sipush 128, 3) := by decide +kernel
theorem dX10_rules_183 : decode cX10_rules 183 = .ok (.if_icmp .ge 42, 3) := by decide +kernel
theorem dX10_rules_186 : decode cX10_rules 186 = .ok (.aload_n 0, 1) := by decide +kernel
theorem dX10_rules_187 : decode cX10_rules 187 = .ok (.getfield 35, 3) := by decide +kernel
theorem dX10_rules_190 : decode cX10_rules 190 = .ok (.sipush 128, 3) := by decide +kernel
theorem dX10_rules_193 : decode cX10_rules 193 = .ok (.bipush 8, 2) := by decide +kernel
theorem dX10_rules_195 : decode cX10_rules 195 = .ok (.iload_n 1, 1) := by decide +kernel
theorem dX10_rules_196 : decode cX10_rules 196 = .ok (.imul, 1) := by decide +kernel
theorem dX10_rules_197 : decode cX10_rules 197 = .ok (.iload 4, 2) := by decide +kernel
theorem dX10_rules_199 : decode cX10_rules 199 = .ok (.iadd, 1) := by decide +kernel
theorem dX10_rules_200 : decode cX10_rules 200 = .ok (.imul, 1) := by decide +kernel
theorem dX10_rules_201 : decode cX10_rules 201 = .ok (.iload 5, 2) := by decide +kernel
theorem dX10_rules_203 : decode cX10_rules 203 = .ok (.iadd, 1) := by decide +kernel
theorem dX10_rules_204 : decode cX10_rules 204 = .ok (.aload_n 0, 1) := by decide +kernel
theorem dX10_rules_205 : decode cX10_rules 205 = .ok (.getfield 47, 3) := by decide +kernel
theorem dX10_rules_208 : decode cX10_rules 208 = .ok (.sipush 128, 3) := by decide +kernel
theorem dX10_rules_211 : decode cX10_rules 211 = .ok (.iload 4, 2) := by decide +kernel
theorem dX10_rules_213 : decode cX10_rules 213 = .ok (.imul, 1) := by decide +kernel
theorem dX10_rules_214 : decode cX10_rules 214 = .ok (.iload 5, 2) := by decide +kernel
theorem dX10_rules_216 : decode cX10_rules 216 = .ok (.iadd, 1) := by decide +kernel
theorem dX10_rules_217 : decode cX10_rules 217 = .ok (.baload, 1) := by decide +kernel
theorem dX10_rules_218 : decode cX10_rules 218 = .ok (.bastore, 1) := by decide +kernel
theorem dX10_rules_219 : decode cX10_rules 219 = .ok (.iinc 5 1, 3) := by decide +kernel
theorem dX10_rules_222 : decode cX10_rules 222 = .ok (.goto (-44), 3) := by decide +kernel
theorem dX10_rules_225 : decode cX10_rules 225 = .ok (.iinc 4 1, 3) := by decide +kernel
theorem dX10_rules_228 : decode cX10_rules 228 = .ok (.goto (-116), 3) := by decide +kernel
theorem dX10_rules_231 : decode cX10_rules 231 = .ok (.iload_n 2, 1) := by decide +kernel
theorem dX10_rules_232 : decode cX10_rules 232 = .ok (.ireturn, 1) := by decide +kernel
theorem dX10_rule_0 : decode cX10_rule 0 = .ok (.iload_n 1, 1) := by decide +kernel
theorem dX10_rule_1 : decode cX10_rule 1 = .ok (.invokestatic 173, 3) := by decide +kernel
theorem dX10_rule_4 : decode cX10_rule 4 = .ok (.ifCond .eq 33, 3) := by decide +kernel
theorem dX10_rule_7 : decode cX10_rule 7 = .ok (.iload_n 2, 1) := by decide +kernel
theorem dX10_rule_8 : decode cX10_rule 8 = .ok (.i2l, 1) := by decide +kernel
theorem dX10_rule_9 : decode cX10_rule 9 = .ok (.lconst 0, 1) := by decide +kernel
theorem dX10_rule_10 : decode cX10_rule 10 = .ok (.aload_n 0, 1) := by decide +kernel
theorem dX10_rule_11 : decode cX10_rule 11 = .ok (.getfield 23, 3) := by decide +kernel
theorem dX10_rule_14 : decode cX10_rule 14 = .ok (.iload_n 1, 1) := by decide +kernel
theorem dX10_rule_15 : decode cX10_rule 15 = .ok (.iaload, 1) := by decide +kernel
theorem dX10_rule_16 : decode cX10_rule 16 = .ok (.iconst 1, 1) := by decide +kernel
theorem dX10_rule_17 : decode cX10_rule 17 = .ok (.isub, 1) := by decide +kernel
theorem dX10_rule_18 : decode cX10_rule 18 = .ok (.i2l, 1) := by decide +kernel
theorem dX10_rule_19 : decode cX10_rule 19 = .ok (.invokestatic 131, 3) := by decide +kernel
theorem dX10_rule_22 : decode cX10_rule 22 = .ok (.ifCond .eq 15, 3) := by decide +kernel
theorem dX10_rule_25 : decode cX10_rule 25 = .ok (.iload_n 3, 1) := by decide +kernel
theorem dX10_rule_26 : decode cX10_rule 26 = .ok (.i2l, 1) := by decide +kernel
theorem dX10_rule_27 : decode cX10_rule 27 = .ok (.lconst 0, 1) := by decide +kernel
theorem dX10_rule_28 : decode cX10_rule 28 = .ok (.ldc2_w 180, 3) := by decide +kernel
theorem dX10_rule_31 : decode cX10_rule 31 = .ok (.invokestatic 131, 3) := by decide +kernel
theorem dX10_rule_34 : decode cX10_rule 34 = .ok (.ifCond .ne 5, 3) := by decide +kernel
theorem dX10_rule_37 : decode cX10_rule 37 = .ok (.iconst (-1), 1) := by decide +kernel
theorem dX10_rule_38 : decode cX10_rule 38 = .ok (.ireturn, 1) := by decide +kernel
theorem dX10_rule_39 : decode cX10_rule 39 = .ok (.bipush 8, 2) := by decide +kernel
theorem dX10_rule_41 : decode cX10_rule 41 = .ok (.iload_n 1, 1) := by decide +kernel
theorem dX10_rule_42 : decode cX10_rule 42 = .ok (.imul, 1) := by decide +kernel
theorem dX10_rule_43 : decode cX10_rule 43 = .ok (.iload_n 2, 1) := by decide +kernel
theorem dX10_rule_44 : decode cX10_rule 44 = .ok (.iadd, 1) := by decide +kernel
theorem dX10_rule_45 : decode cX10_rule 45 = .ok (.istore 4, 2) := by decide +kernel
theorem dX10_rule_47 : decode cX10_rule 47 = .ok (.iload_n 3, 1) := by decide +kernel
end
section
theorem dX10_rule_48 : decode cX10_rule 48 = .ok (.ifCond .ne 13, 3) := by decide +kernel
theorem dX10_rule_51 : decode cX10_rule 51 = .ok (.aload_n 0, 1) := by decide +kernel
theorem dX10_rule_52 : decode cX10_rule 52 = .ok (.getfield 26, 3) := by decide +kernel
theorem dX10_rule_55 : decode cX10_rule 55 = .ok (.iload 4, 2) := by decide +kernel
theorem dX10_rule_57 : decode cX10_rule 57 = .ok (.iaload, 1) := by decide +kernel
theorem dX10_rule_58 : decode cX10_rule 58 = .ok (.goto 25, 3) := by decide +kernel
theorem dX10_rule_61 : decode cX10_rule 61 = .ok (.iload_n 3, 1) := by decide +kernel
theorem dX10_rule_62 : decode cX10_rule 62 = .ok (.iconst 1, 1) := by decide +kernel
theorem dX10_rule_63 : decode cX10_rule 63 = .ok (.if_icmp .ne 13, 3) := by decide +kernel
theorem dX10_rule_66 : decode cX10_rule 66 = .ok (.aload_n 0, 1) := by decide +kernel
theorem dX10_rule_67 : decode cX10_rule 67 = .ok (.getfield 29, 3) := by decide +kernel
theorem dX10_rule_70 : decode cX10_rule 70 = .ok (.iload 4, 2) := by decide +kernel
theorem dX10_rule_72 : decode cX10_rule 72 = .ok (.iaload, 1) := by decide +kernel
theorem dX10_rule_73 : decode cX10_rule 73 = .ok (.goto 10, 3) := by decide +kernel
theorem dX10_rule_76 : decode cX10_rule 76 = .ok (.aload_n 0, 1) := by decide +kernel
theorem dX10_rule_77 : decode cX10_rule 77 = .ok (.getfield 32, 3) := by decide +kernel
theorem dX10_rule_80 : decode cX10_rule 80 = .ok (.iload 4, 2) := by decide +kernel
theorem dX10_rule_82 : decode cX10_rule 82 = .ok (.iaload, 1) := by decide +kernel
theorem dX10_rule_83 : decode cX10_rule 83 = .ok (.ireturn, 1) := by decide +kernel
theorem dX10_ticks_0 : decode cX10_ticks 0 = .ok (.iload_n 1, 1) := by decide +kernel
theorem dX10_ticks_1 : decode cX10_ticks 1 = .ok (.i2l, 1) := by decide +kernel
theorem dX10_ticks_2 : decode cX10_ticks 2 = .ok (.lconst 1, 1) := by decide +kernel
theorem dX10_ticks_3 : decode cX10_ticks 3 = .ok (.ldc2_w 182, 3) := by decide +kernel
theorem dX10_ticks_6 : decode cX10_ticks 6 = .ok (.invokestatic 131, 3) := by decide +kernel
theorem dX10_ticks_9 : decode cX10_ticks 9 = .ok (.ifCond .ne 5, 3) := by decide +kernel
theorem dX10_ticks_12 : decode cX10_ticks 12 = .ok (.iconst (-1), 1) := by decide +kernel
theorem dX10_ticks_13 : decode cX10_ticks 13 = .ok (.ireturn, 1) := by decide +kernel
theorem dX10_ticks_14 : decode cX10_ticks 14 = .ok (.aload_n 0, 1) := by decide +kernel
theorem dX10_ticks_15 : decode cX10_ticks 15 = .ok (.getfield 50, 3) := by decide +kernel
theorem dX10_ticks_18 : decode cX10_ticks 18 = .ok (.istore_n 2, 1) := by decide +kernel
theorem dX10_ticks_19 : decode cX10_ticks 19 = .ok (.iload_n 2, 1) := by decide +kernel
theorem dX10_ticks_20 : decode cX10_ticks 20 = .ok (.iload_n 1, 1) := by decide +kernel
theorem dX10_ticks_21 : decode cX10_ticks 21 = .ok (.if_icmp .ge 31, 3) := by decide +kernel
theorem dX10_ticks_24 : decode cX10_ticks 24 = .ok (.aload_n 0, 1) := by decide +kernel
theorem dX10_ticks_25 : decode cX10_ticks 25 = .ok (.getfield 54, 3) := by decide +kernel
theorem dX10_ticks_28 : decode cX10_ticks 28 = .ok (.iload_n 2, 1) := by decide +kernel
theorem dX10_ticks_29 : decode cX10_ticks 29 = .ok (.iconst 0, 1) := by decide +kernel
theorem dX10_ticks_30 : decode cX10_ticks 30 = .ok (.iastore, 1) := by decide +kernel
theorem dX10_ticks_31 : decode cX10_ticks 31 = .ok (.aload_n 0, 1) := by decide +kernel
theorem dX10_ticks_32 : decode cX10_ticks 32 = .ok (.getfield 57, 3) := by decide +kernel
theorem dX10_ticks_35 : decode cX10_ticks 35 = .ok (.iload_n 2, 1) := by decide +kernel
theorem dX10_ticks_36 : decode cX10_ticks 36 = .ok (.iconst 0, 1) := by decide +kernel
theorem dX10_ticks_37 : decode cX10_ticks 37 = .ok (.iastore, 1) := by decide +kernel
theorem dX10_ticks_38 : decode cX10_ticks 38 = .ok (.aload_n 0, 1) := by decide +kernel
theorem dX10_ticks_39 : decode cX10_ticks 39 = .ok (.getfield 60, 3) := by decide +kernel
theorem dX10_ticks_42 : decode cX10_ticks 42 = .ok (.iload_n 2, 1) := by decide +kernel
theorem dX10_ticks_43 : decode cX10_ticks 43 = .ok (.bipush 15, 2) := by decide +kernel
theorem dX10_ticks_45 : decode cX10_ticks 45 = .ok (.iastore, 1) := by decide +kernel
theorem dX10_ticks_46 : decode cX10_ticks 46 = .ok (.iinc 2 1, 3) := by decide +kernel
theorem dX10_ticks_49 : decode cX10_ticks 49 = .ok (.goto (-30), 3) := by decide +kernel
theorem dX10_ticks_52 : decode cX10_ticks 52 = .ok (.aload_n 0, 1) := by decide +kernel
theorem dX10_ticks_53 : decode cX10_ticks 53 = .ok (.getfield 50, 3) := by decide +kernel
theorem dX10_ticks_56 : decode cX10_ticks 56 = .ok (.istore_n 2, 1) := by decide +kernel
theorem dX10_ticks_57 : decode cX10_ticks 57 = .ok (.aload_n 0, 1) := by decide +kernel
theorem dX10_ticks_58 : decode cX10_ticks 58 = .ok (.iload_n 1, 1) := by decide +kernel
theorem dX10_ticks_59 : decode cX10_ticks 59 = .ok (.putfield 50, 3) := by decide +kernel
theorem dX10_ticks_62 : decode cX10_ticks 62 = .ok (.iload_n 2, 1) := by decide +kernel
theorem dX10_ticks_63 : decode cX10_ticks 63 = .ok (.ireturn, 1) := by decide +kernel
theorem dX10_isTick_0 : decode cX10_isTick 0 = .ok (.iload_n 1, 1) := by decide +kernel
theorem dX10_isTick_1 : decode cX10_isTick 1 = .ok (.i2l, 1) := by decide +kernel
theorem dX10_isTick_2 : decode cX10_isTick 2 = .ok (.lconst 0, 1) := by decide +kernel
theorem dX10_isTick_3 : decode cX10_isTick 3 = .ok (.aload_n 0, 1) := by decide +kernel
theorem dX10_isTick_4 : decode cX10_isTick 4 = .ok (.getfield 50, 3) := by decide +kernel
theorem dX10_isTick_7 : decode cX10_isTick 7 = .ok (.iconst 1, 1) := by decide +kernel
theorem dX10_isTick_8 : decode cX10_isTick 8 = .ok (.isub, 1) := by decide +kernel
theorem dX10_isTick_9 : decode cX10_isTick 9 = .ok (.i2l, 1) := by decide +kernel
theorem dX10_isTick_10 : decode cX10_isTick 10 = .ok (.invokestatic 131, 3) := by decide +kernel
theorem dX10_isTick_13 : decode cX10_isTick 13 = .ok (.ireturn, 1) := by decide +kernel
theorem dX10_world_0 : decode cX10_world 0 = .ok (.aload_n 0, 1) := by decide +kernel
theorem dX10_world_1 : decode cX10_world 1 = .ok (.iload_n 1, 1) := by decide +kernel
theorem dX10_world_2 : decode cX10_world 2 = .ok (.invokevirtual 184, 3) := by decide +kernel
theorem dX10_world_5 : decode cX10_world 5 = .ok (.ifCond .eq 36, 3) := by decide +kernel
theorem dX10_world_8 : decode cX10_world 8 = .ok (.iload_n 2, 1) := by decide +kernel
theorem dX10_world_9 : decode cX10_world 9 = .ok (.i2l, 1) := by decide +kernel
theorem dX10_world_10 : decode cX10_world 10 = .ok (.lconst 0, 1) := by decide +kernel
theorem dX10_world_11 : decode cX10_world 11 = .ok (.ldc2_w 180, 3) := by decide +kernel
theorem dX10_world_14 : decode cX10_world 14 = .ok (.invokestatic 131, 3) := by decide +kernel
theorem dX10_world_17 : decode cX10_world 17 = .ok (.ifCond .eq 24, 3) := by decide +kernel
theorem dX10_world_20 : decode cX10_world 20 = .ok (.iload_n 3, 1) := by decide +kernel
theorem dX10_world_21 : decode cX10_world 21 = .ok (.i2l, 1) := by decide +kernel
theorem dX10_world_22 : decode cX10_world 22 = .ok (.lconst 0, 1) := by decide +kernel
theorem dX10_world_23 : decode cX10_world 23 = .ok (.iload_n 2, 1) := by decide +kernel
theorem dX10_world_24 : decode cX10_world 24 = .ok (.iconst 1, 1) := by decide +kernel
theorem dX10_world_25 : decode cX10_world 25 = .ok (.if_icmp .ne 7, 3) := by decide +kernel
theorem dX10_world_28 : decode cX10_world 28 = .ok (.lconst 1, 1) := by decide +kernel
theorem dX10_world_29 : decode cX10_world 29 = .ok (.goto 6, 3) := by decide +kernel
theorem dX10_world_32 : decode cX10_world 32 = .ok (.ldc2_w 187, 3) := by decide +kernel
theorem dX10_world_35 : decode cX10_world 35 = .ok (.invokestatic 131, 3) := by decide +kernel
theorem dX10_world_38 : decode cX10_world 38 = .ok (.ifCond .ne 5, 3) := by decide +kernel
theorem dX10_world_41 : decode cX10_world 41 = .ok (.iconst (-1), 1) := by decide +kernel
theorem dX10_world_42 : decode cX10_world 42 = .ok (.ireturn, 1) := by decide +kernel
theorem dX10_world_43 : decode cX10_world 43 = .ok (.iload_n 2, 1) := by decide +kernel
theorem dX10_world_44 : decode cX10_world 44 = .ok (.ifCond .ne 12, 3) := by decide +kernel
theorem dX10_world_47 : decode cX10_world 47 = .ok (.aload_n 0, 1) := by decide +kernel
theorem dX10_world_48 : decode cX10_world 48 = .ok (.getfield 54, 3) := by decide +kernel
theorem dX10_world_51 : decode cX10_world 51 = .ok (.iload_n 1, 1) := by decide +kernel
theorem dX10_world_52 : decode cX10_world 52 = .ok (.iaload, 1) := by decide +kernel
theorem dX10_world_53 : decode cX10_world 53 = .ok (.goto 23, 3) := by decide +kernel
theorem dX10_world_56 : decode cX10_world 56 = .ok (.iload_n 2, 1) := by decide +kernel
theorem dX10_world_57 : decode cX10_world 57 = .ok (.iconst 1, 1) := by decide +kernel
theorem dX10_world_58 : decode cX10_world 58 = .ok (.if_icmp .ne 12, 3) := by decide +kernel
theorem dX10_world_61 : decode cX10_world 61 = .ok (.aload_n 0, 1) := by decide +kernel
theorem dX10_world_62 : decode cX10_world 62 = .ok (.getfield 57, 3) := by decide +kernel
theorem dX10_world_65 : decode cX10_world 65 = .ok (.iload_n 1, 1) := by decide +kernel
theorem dX10_world_66 : decode cX10_world 66 = .ok (.iaload, 1) := by decide +kernel
theorem dX10_world_67 : decode cX10_world 67 = .ok (.goto 9, 3) := by decide +kernel
theorem dX10_world_70 : decode cX10_world 70 = .ok (.aload_n 0, 1) := by decide +kernel
theorem dX10_world_71 : decode cX10_world 71 = .ok (.getfield 60, 3) := by decide +kernel
theorem dX10_world_74 : decode cX10_world 74 = .ok (.iload_n 1, 1) := by decide +kernel
theorem dX10_world_75 : decode cX10_world 75 = .ok (.iaload, 1) := by decide +kernel
theorem dX10_world_76 : decode cX10_world 76 = .ok (.istore 4, 2) := by decide +kernel
theorem dX10_world_78 : decode cX10_world 78 = .ok (.iload_n 2, 1) := by decide +kernel
theorem dX10_world_79 : decode cX10_world 79 = .ok (.ifCond .ne 13, 3) := by decide +kernel
theorem dX10_world_82 : decode cX10_world 82 = .ok (.aload_n 0, 1) := by decide +kernel
theorem dX10_world_83 : decode cX10_world 83 = .ok (.getfield 54, 3) := by decide +kernel
theorem dX10_world_86 : decode cX10_world 86 = .ok (.iload_n 1, 1) := by decide +kernel
theorem dX10_world_87 : decode cX10_world 87 = .ok (.iload_n 3, 1) := by decide +kernel
theorem dX10_world_88 : decode cX10_world 88 = .ok (.iastore, 1) := by decide +kernel
theorem dX10_world_89 : decode cX10_world 89 = .ok (.goto 25, 3) := by decide +kernel
theorem dX10_world_92 : decode cX10_world 92 = .ok (.iload_n 2, 1) := by decide +kernel
theorem dX10_world_93 : decode cX10_world 93 = .ok (.iconst 1, 1) := by decide +kernel
theorem dX10_world_94 : decode cX10_world 94 = .ok (.if_icmp .ne 13, 3) := by decide +kernel
theorem dX10_world_97 : decode cX10_world 97 = .ok (.aload_n 0, 1) := by decide +kernel
theorem dX10_world_98 : decode cX10_world 98 = .ok (.getfield 57, 3) := by decide +kernel
theorem dX10_world_101 : decode cX10_world 101 = .ok (.iload_n 1, 1) := by decide +kernel
theorem dX10_world_102 : decode cX10_world 102 = .ok (.iload_n 3, 1) := by decide +kernel
theorem dX10_world_103 : decode cX10_world 103 = .ok (.iastore, 1) := by decide +kernel
theorem dX10_world_104 : decode cX10_world 104 = .ok (.goto 10, 3) := by decide +kernel
theorem dX10_world_107 : decode cX10_world 107 = .ok (.aload_n 0, 1) := by decide +kernel
theorem dX10_world_108 : decode cX10_world 108 = .ok (.getfield 60, 3) := by decide +kernel
theorem dX10_world_111 : decode cX10_world 111 = .ok (.iload_n 1, 1) := by decide +kernel
theorem dX10_world_112 : decode cX10_world 112 = .ok (.iload_n 3, 1) := by decide +kernel
theorem dX10_world_113 : decode cX10_world 113 = .ok (.iastore, 1) := by decide +kernel
theorem dX10_world_114 : decode cX10_world 114 = .ok (.iload 4, 2) := by decide +kernel
theorem dX10_world_116 : decode cX10_world 116 = .ok (.ireturn, 1) := by decide +kernel
theorem dX10_sights_0 : decode cX10_sights 0 = .ok (.iload_n 1, 1) := by decide +kernel
theorem dX10_sights_1 : decode cX10_sights 1 = .ok (.invokestatic 189, 3) := by decide +kernel
theorem dX10_sights_4 : decode cX10_sights 4 = .ok (.ifCond .eq 15, 3) := by decide +kernel
theorem dX10_sights_7 : decode cX10_sights 7 = .ok (.iload_n 2, 1) := by decide +kernel
theorem dX10_sights_8 : decode cX10_sights 8 = .ok (.i2l, 1) := by decide +kernel
theorem dX10_sights_9 : decode cX10_sights 9 = .ok (.lconst 1, 1) := by decide +kernel
theorem dX10_sights_10 : decode cX10_sights 10 = .ok (.ldc2_w 180, 3) := by decide +kernel
theorem dX10_sights_13 : decode cX10_sights 13 = .ok (.invokestatic 131, 3) := by decide +kernel
theorem dX10_sights_16 : decode cX10_sights 16 = .ok (.ifCond .ne 5, 3) := by decide +kernel
theorem dX10_sights_19 : decode cX10_sights 19 = .ok (.iconst (-1), 1) := by decide +kernel
theorem dX10_sights_20 : decode cX10_sights 20 = .ok (.ireturn, 1) := by decide +kernel
theorem dX10_sights_21 : decode cX10_sights 21 = .ok (.aload_n 0, 1) := by decide +kernel
theorem dX10_sights_22 : decode cX10_sights 22 = .ok (.iload_n 1, 1) := by decide +kernel
theorem dX10_sights_23 : decode cX10_sights 23 = .ok (.iload_n 2, 1) := by decide +kernel
theorem dX10_sights_24 : decode cX10_sights 24 = .ok (.iload_n 3, 1) := by decide +kernel
theorem dX10_sights_25 : decode cX10_sights 25 = .ok (.aload_n 0, 1) := by decide +kernel
theorem dX10_sights_26 : decode cX10_sights 26 = .ok (.getfield 50, 3) := by decide +kernel
theorem dX10_sights_29 : decode cX10_sights 29 = .ok (.invokevirtual 192, 3) := by decide +kernel
theorem dX10_sights_32 : decode cX10_sights 32 = .ok (.istore 4, 2) := by decide +kernel
theorem dX10_sights_34 : decode cX10_sights 34 = .ok (.iload 4, 2) := by decide +kernel
theorem dX10_sights_36 : decode cX10_sights 36 = .ok (.ifCond .ge 6, 3) := by decide +kernel
theorem dX10_sights_39 : decode cX10_sights 39 = .ok (.iload 4, 2) := by decide +kernel
theorem dX10_sights_41 : decode cX10_sights 41 = .ok (.ireturn, 1) := by decide +kernel
theorem dX10_sights_42 : decode cX10_sights 42 = .ok (.iconst 0, 1) := by decide +kernel
theorem dX10_sights_43 : decode cX10_sights 43 = .ok (.istore 5, 2) := by decide +kernel
theorem dX10_sights_45 : decode cX10_sights 45 = .ok (.iload 5, 2) := by decide +kernel
theorem dX10_sights_47 : decode cX10_sights 47 = .ok (.aload_n 0, 1) := by decide +kernel
theorem dX10_sights_48 : decode cX10_sights 48 = .ok (.getfield 50, 3) := by decide +kernel
theorem dX10_sights_51 : decode cX10_sights 51 = .ok (.if_icmp .ge 37, 3) := by decide +kernel
theorem dX10_sights_54 : decode cX10_sights 54 = .ok (.aload_n 0, 1) := by decide +kernel
theorem dX10_sights_55 : decode cX10_sights 55 = .ok (.getfield 123, 3) := by decide +kernel
theorem dX10_sights_58 : decode cX10_sights 58 = .ok (.bipush 48, 2) := by decide +kernel
theorem dX10_sights_60 : decode cX10_sights 60 = .ok (.iload_n 1, 1) := by decide +kernel
theorem dX10_sights_61 : decode cX10_sights 61 = .ok (.imul, 1) := by decide +kernel
theorem dX10_sights_62 : decode cX10_sights 62 = .ok (.iload_n 3, 1) := by decide +kernel
theorem dX10_sights_63 : decode cX10_sights 63 = .ok (.iadd, 1) := by decide +kernel
theorem dX10_sights_64 : decode cX10_sights 64 = .ok (.iload 5, 2) := by decide +kernel
theorem dX10_sights_66 : decode cX10_sights 66 = .ok (.iadd, 1) := by decide +kernel
theorem dX10_sights_67 : decode cX10_sights 67 = .ok (.iaload, 1) := by decide +kernel
theorem dX10_sights_68 : decode cX10_sights 68 = .ok (.i2l, 1) := by decide +kernel
theorem dX10_sights_69 : decode cX10_sights 69 = .ok (.lconst 0, 1) := by decide +kernel
theorem dX10_sights_70 : decode cX10_sights 70 = .ok (.ldc2_w 187, 3) := by decide +kernel
theorem dX10_sights_73 : decode cX10_sights 73 = .ok (.invokestatic 131, 3) := by decide +kernel
theorem dX10_sights_76 : decode cX10_sights 76 = .ok (.ifCond .ne 6, 3) := by decide +kernel
theorem dX10_sights_79 : decode cX10_sights 79 = .ok (.bipush (-2), 2) := by decide +kernel
theorem dX10_sights_81 : decode cX10_sights 81 = .ok (.ireturn, 1) := by decide +kernel
theorem dX10_sights_82 : decode cX10_sights 82 = .ok (.iinc 5 1, 3) := by decide +kernel
theorem dX10_sights_85 : decode cX10_sights 85 = .ok (.goto (-40), 3) := by decide +kernel
theorem dX10_sights_88 : decode cX10_sights 88 = .ok (.iconst 0, 1) := by decide +kernel
theorem dX10_sights_89 : decode cX10_sights 89 = .ok (.istore 5, 2) := by decide +kernel
theorem dX10_sights_91 : decode cX10_sights 91 = .ok (.iload 5, 2) := by decide +kernel
theorem dX10_sights_93 : decode cX10_sights 93 = .ok (.aload_n 0, 1) := by decide +kernel
theorem dX10_sights_94 : decode cX10_sights 94 = .ok (.getfield 50, 3) := by decide +kernel
theorem dX10_sights_97 : decode cX10_sights 97 = .ok (.if_icmp .ge 30, 3) := by decide +kernel
theorem dX10_sights_100 : decode cX10_sights 100 = .ok (.aload_n 0, 1) := by decide +kernel
theorem dX10_sights_101 : decode cX10_sights 101 = .ok (.getfield 54, 3) := by decide +kernel
theorem dX10_sights_104 : decode cX10_sights 104 = .ok (.iload 5, 2) := by decide +kernel
theorem dX10_sights_106 : decode cX10_sights 106 = .ok (.aload_n 0, 1) := by decide +kernel
theorem dX10_sights_107 : decode cX10_sights 107 = .ok (.getfield 123, 3) := by decide +kernel
theorem dX10_sights_110 : decode cX10_sights 110 = .ok (.bipush 48, 2) := by decide +kernel
theorem dX10_sights_112 : decode cX10_sights 112 = .ok (.iload_n 1, 1) := by decide +kernel
theorem dX10_sights_113 : decode cX10_sights 113 = .ok (.imul, 1) := by decide +kernel
theorem dX10_sights_114 : decode cX10_sights 114 = .ok (.iload_n 3, 1) := by decide +kernel
theorem dX10_sights_115 : decode cX10_sights 115 = .ok (.iadd, 1) := by decide +kernel
theorem dX10_sights_116 : decode cX10_sights 116 = .ok (.iload 5, 2) := by decide +kernel
theorem dX10_sights_118 : decode cX10_sights 118 = .ok (.iadd, 1) := by decide +kernel
theorem dX10_sights_119 : decode cX10_sights 119 = .ok (.iaload, 1) := by decide +kernel
theorem dX10_sights_120 : decode cX10_sights 120 = .ok (.iastore, 1) := by decide +kernel
theorem dX10_sights_121 : decode cX10_sights 121 = .ok (.iinc 5 1, 3) := by decide +kernel
theorem dX10_sights_124 : decode cX10_sights 124 = .ok (.goto (-33), 3) := by decide +kernel
theorem dX10_sights_127 : decode cX10_sights 127 = .ok (.aload_n 0, 1) := by decide +kernel
theorem dX10_sights_128 : decode cX10_sights 128 = .ok (.getfield 50, 3) := by decide +kernel
theorem dX10_sights_131 : decode cX10_sights 131 = .ok (.ireturn, 1) := by decide +kernel
theorem dX10_lots_0 : decode cX10_lots 0 = .ok (.iload_n 1, 1) := by decide +kernel
theorem dX10_lots_1 : decode cX10_lots 1 = .ok (.invokestatic 189, 3) := by decide +kernel
theorem dX10_lots_4 : decode cX10_lots 4 = .ok (.ifCond .ne 5, 3) := by decide +kernel
theorem dX10_lots_7 : decode cX10_lots 7 = .ok (.iconst (-1), 1) := by decide +kernel
theorem dX10_lots_8 : decode cX10_lots 8 = .ok (.ireturn, 1) := by decide +kernel
theorem dX10_lots_9 : decode cX10_lots 9 = .ok (.aload_n 0, 1) := by decide +kernel
theorem dX10_lots_10 : decode cX10_lots 10 = .ok (.iload_n 1, 1) := by decide +kernel
theorem dX10_lots_11 : decode cX10_lots 11 = .ok (.iconst 0, 1) := by decide +kernel
theorem dX10_lots_12 : decode cX10_lots 12 = .ok (.iload_n 2, 1) := by decide +kernel
theorem dX10_lots_13 : decode cX10_lots 13 = .ok (.aload_n 0, 1) := by decide +kernel
theorem dX10_lots_14 : decode cX10_lots 14 = .ok (.getfield 50, 3) := by decide +kernel
theorem dX10_lots_17 : decode cX10_lots 17 = .ok (.invokevirtual 192, 3) := by decide +kernel
theorem dX10_lots_20 : decode cX10_lots 20 = .ok (.istore_n 3, 1) := by decide +kernel
theorem dX10_lots_21 : decode cX10_lots 21 = .ok (.iload_n 3, 1) := by decide +kernel
theorem dX10_lots_22 : decode cX10_lots 22 = .ok (.ifCond .ge 5, 3) := by decide +kernel
theorem dX10_lots_25 : decode cX10_lots 25 = .ok (.iload_n 3, 1) := by decide +kernel
theorem dX10_lots_26 : decode cX10_lots 26 = .ok (.ireturn, 1) := by decide +kernel
theorem dX10_lots_27 : decode cX10_lots 27 = .ok (.iconst 0, 1) := by decide +kernel
theorem dX10_lots_28 : decode cX10_lots 28 = .ok (.istore 4, 2) := by decide +kernel
theorem dX10_lots_30 : decode cX10_lots 30 = .ok (.iconst 0, 1) := by decide +kernel
theorem dX10_lots_31 : decode cX10_lots 31 = .ok (.istore 5, 2) := by decide +kernel
theorem dX10_lots_33 : decode cX10_lots 33 = .ok (.iload 5, 2) := by decide +kernel
theorem dX10_lots_35 : decode cX10_lots 35 = .ok (.aload_n 0, 1) := by decide +kernel
theorem dX10_lots_36 : decode cX10_lots 36 = .ok (.getfield 50, 3) := by decide +kernel
theorem dX10_lots_39 : decode cX10_lots 39 = .ok (.if_icmp .ge 42, 3) := by decide +kernel
theorem dX10_lots_42 : decode cX10_lots 42 = .ok (.aload_n 0, 1) := by decide +kernel
theorem dX10_lots_43 : decode cX10_lots 43 = .ok (.getfield 57, 3) := by decide +kernel
theorem dX10_lots_46 : decode cX10_lots 46 = .ok (.iload 5, 2) := by decide +kernel
theorem dX10_lots_48 : decode cX10_lots 48 = .ok (.aload_n 0, 1) := by decide +kernel
theorem dX10_lots_49 : decode cX10_lots 49 = .ok (.getfield 123, 3) := by decide +kernel
theorem dX10_lots_52 : decode cX10_lots 52 = .ok (.bipush 48, 2) := by decide +kernel
theorem dX10_lots_54 : decode cX10_lots 54 = .ok (.iload_n 1, 1) := by decide +kernel
theorem dX10_lots_55 : decode cX10_lots 55 = .ok (.imul, 1) := by decide +kernel
theorem dX10_lots_56 : decode cX10_lots 56 = .ok (.iload_n 2, 1) := by decide +kernel
theorem dX10_lots_57 : decode cX10_lots 57 = .ok (.iadd, 1) := by decide +kernel
theorem dX10_lots_58 : decode cX10_lots 58 = .ok (.iload 5, 2) := by decide +kernel
theorem dX10_lots_60 : decode cX10_lots 60 = .ok (.iadd, 1) := by decide +kernel
theorem dX10_lots_61 : decode cX10_lots 61 = .ok (.iaload, 1) := by decide +kernel
theorem dX10_lots_62 : decode cX10_lots 62 = .ok (.iastore, 1) := by decide +kernel
theorem dX10_lots_63 : decode cX10_lots 63 = .ok (.iload 4, 2) := by decide +kernel
theorem dX10_lots_65 : decode cX10_lots 65 = .ok (.aload_n 0, 1) := by decide +kernel
theorem dX10_lots_66 : decode cX10_lots 66 = .ok (.getfield 57, 3) := by decide +kernel
theorem dX10_lots_69 : decode cX10_lots 69 = .ok (.iload 5, 2) := by decide +kernel
theorem dX10_lots_71 : decode cX10_lots 71 = .ok (.iaload, 1) := by decide +kernel
theorem dX10_lots_72 : decode cX10_lots 72 = .ok (.iadd, 1) := by decide +kernel
theorem dX10_lots_73 : decode cX10_lots 73 = .ok (.istore 4, 2) := by decide +kernel
theorem dX10_lots_75 : decode cX10_lots 75 = .ok (.iinc 5 1, 3) := by decide +kernel
theorem dX10_lots_78 : decode cX10_lots 78 = .ok (.goto (-45), 3) := by decide +kernel
theorem dX10_lots_81 : decode cX10_lots 81 = .ok (.iload 4, 2) := by decide +kernel
theorem dX10_lots_83 : decode cX10_lots 83 = .ok (.ireturn, 1) := by decide +kernel
theorem dX10_chosen_0 : decode cX10_chosen 0 = .ok (.iconst 0, 1) := by decide +kernel
theorem dX10_chosen_1 : decode cX10_chosen 1 = .ok (.istore 4, 2) := by decide +kernel
theorem dX10_chosen_3 : decode cX10_chosen 3 = .ok (.iload 4, 2) := by decide +kernel
theorem dX10_chosen_5 : decode cX10_chosen 5 = .ok (.aload_n 0, 1) := by decide +kernel
theorem dX10_chosen_6 : decode cX10_chosen 6 = .ok (.getfield 23, 3) := by decide +kernel
theorem dX10_chosen_9 : decode cX10_chosen 9 = .ok (.iload_n 1, 1) := by decide +kernel
theorem dX10_chosen_10 : decode cX10_chosen 10 = .ok (.iaload, 1) := by decide +kernel
theorem dX10_chosen_11 : decode cX10_chosen 11 = .ok (.if_icmp .ge 42, 3) := by decide +kernel
theorem dX10_chosen_14 : decode cX10_chosen 14 = .ok (.iload_n 3, 1) := by decide +kernel
theorem dX10_chosen_15 : decode cX10_chosen 15 = .ok (.iload 4, 2) := by decide +kernel
theorem dX10_chosen_17 : decode cX10_chosen 17 = .ok (.ishr, 1) := by decide +kernel
theorem dX10_chosen_18 : decode cX10_chosen 18 = .ok (.iconst 1, 1) := by decide +kernel
theorem dX10_chosen_19 : decode cX10_chosen 19 = .ok (.iand, 1) := by decide +kernel
theorem dX10_chosen_20 : decode cX10_chosen 20 = .ok (.ifCond .ne 27, 3) := by decide +kernel
theorem dX10_chosen_23 : decode cX10_chosen 23 = .ok (.aload_n 0, 1) := by decide +kernel
theorem dX10_chosen_24 : decode cX10_chosen 24 = .ok (.getfield 35, 3) := by decide +kernel
theorem dX10_chosen_27 : decode cX10_chosen 27 = .ok (.sipush 128, 3) := by decide +kernel
theorem dX10_chosen_30 : decode cX10_chosen 30 = .ok (.bipush 8, 2) := by decide +kernel
theorem dX10_chosen_32 : decode cX10_chosen 32 = .ok (.iload_n 1, 1) := by decide +kernel
theorem dX10_chosen_33 : decode cX10_chosen 33 = .ok (.imul, 1) := by decide +kernel
theorem dX10_chosen_34 : decode cX10_chosen 34 = .ok (.iload 4, 2) := by decide +kernel
theorem dX10_chosen_36 : decode cX10_chosen 36 = .ok (.iadd, 1) := by decide +kernel
theorem dX10_chosen_37 : decode cX10_chosen 37 = .ok (.imul, 1) := by decide +kernel
theorem dX10_chosen_38 : decode cX10_chosen 38 = .ok (.iload_n 2, 1) := by decide +kernel
theorem dX10_chosen_39 : decode cX10_chosen 39 = .ok (.iadd, 1) := by decide +kernel
theorem dX10_chosen_40 : decode cX10_chosen 40 = .ok (.baload, 1) := by decide +kernel
theorem dX10_chosen_41 : decode cX10_chosen 41 = .ok (.ifCond .eq 6, 3) := by decide +kernel
theorem dX10_chosen_44 : decode cX10_chosen 44 = .ok (.iload 4, 2) := by decide +kernel
theorem dX10_chosen_46 : decode cX10_chosen 46 = .ok (.ireturn, 1) := by decide +kernel
theorem dX10_chosen_47 : decode cX10_chosen 47 = .ok (.iinc 4 1, 3) := by decide +kernel
theorem dX10_chosen_50 : decode cX10_chosen 50 = .ok (.goto (-47), 3) := by decide +kernel
theorem dX10_chosen_53 : decode cX10_chosen 53 = .ok (.bipush 8, 2) := by decide +kernel
theorem dX10_chosen_55 : decode cX10_chosen 55 = .ok (.ireturn, 1) := by decide +kernel
theorem dX10_plays_0 : decode cX10_plays 0 = .ok (.aload_n 0, 1) := by decide +kernel
theorem dX10_plays_1 : decode cX10_plays 1 = .ok (.getfield 69, 3) := by decide +kernel
theorem dX10_plays_4 : decode cX10_plays 4 = .ok (.iconst 0, 1) := by decide +kernel
theorem dX10_plays_5 : decode cX10_plays 5 = .ok (.iconst 0, 1) := by decide +kernel
theorem dX10_plays_6 : decode cX10_plays 6 = .ok (.iastore, 1) := by decide +kernel
theorem dX10_plays_7 : decode cX10_plays 7 = .ok (.iconst 0, 1) := by decide +kernel
theorem dX10_plays_8 : decode cX10_plays 8 = .ok (.istore_n 3, 1) := by decide +kernel
theorem dX10_plays_9 : decode cX10_plays 9 = .ok (.iload_n 3, 1) := by decide +kernel
theorem dX10_plays_10 : decode cX10_plays 10 = .ok (.aload_n 0, 1) := by decide +kernel
theorem dX10_plays_11 : decode cX10_plays 11 = .ok (.getfield 50, 3) := by decide +kernel
theorem dX10_plays_14 : decode cX10_plays 14 = .ok (.if_icmp .ge 124, 3) := by decide +kernel
theorem dX10_plays_17 : decode cX10_plays 17 = .ok (.aload_n 0, 1) := by decide +kernel
theorem dX10_plays_18 : decode cX10_plays 18 = .ok (.getfield 69, 3) := by decide +kernel
theorem dX10_plays_21 : decode cX10_plays 21 = .ok (.iload_n 3, 1) := by decide +kernel
theorem dX10_plays_22 : decode cX10_plays 22 = .ok (.iaload, 1) := by decide +kernel
theorem dX10_plays_23 : decode cX10_plays 23 = .ok (.istore 4, 2) := by decide +kernel
theorem dX10_plays_25 : decode cX10_plays 25 = .ok (.aload_n 0, 1) := by decide +kernel
theorem dX10_plays_26 : decode cX10_plays 26 = .ok (.iload_n 1, 1) := by decide +kernel
theorem dX10_plays_27 : decode cX10_plays 27 = .ok (.bipush 32, 2) := by decide +kernel
theorem dX10_plays_29 : decode cX10_plays 29 = .ok (.iload 4, 2) := by decide +kernel
theorem dX10_plays_31 : decode cX10_plays 31 = .ok (.imul, 1) := by decide +kernel
theorem dX10_plays_32 : decode cX10_plays 32 = .ok (.iconst 2, 1) := by decide +kernel
theorem dX10_plays_33 : decode cX10_plays 33 = .ok (.aload_n 0, 1) := by decide +kernel
theorem dX10_plays_34 : decode cX10_plays 34 = .ok (.getfield 63, 3) := by decide +kernel
theorem dX10_plays_37 : decode cX10_plays 37 = .ok (.iload_n 3, 1) := by decide +kernel
theorem dX10_plays_38 : decode cX10_plays 38 = .ok (.iaload, 1) := by decide +kernel
theorem dX10_plays_39 : decode cX10_plays 39 = .ok (.imul, 1) := by decide +kernel
theorem dX10_plays_40 : decode cX10_plays 40 = .ok (.iadd, 1) := by decide +kernel
theorem dX10_plays_41 : decode cX10_plays 41 = .ok (.aload_n 0, 1) := by decide +kernel
theorem dX10_plays_42 : decode cX10_plays 42 = .ok (.getfield 66, 3) := by decide +kernel
theorem dX10_plays_45 : decode cX10_plays 45 = .ok (.iload_n 3, 1) := by decide +kernel
theorem dX10_plays_46 : decode cX10_plays 46 = .ok (.iaload, 1) := by decide +kernel
theorem dX10_plays_47 : decode cX10_plays 47 = .ok (.iadd, 1) := by decide +kernel
theorem dX10_plays_48 : decode cX10_plays 48 = .ok (.iload_n 2, 1) := by decide +kernel
theorem dX10_plays_49 : decode cX10_plays 49 = .ok (.invokevirtual 196, 3) := by decide +kernel
theorem dX10_plays_52 : decode cX10_plays 52 = .ok (.istore 5, 2) := by decide +kernel
theorem dX10_plays_54 : decode cX10_plays 54 = .ok (.bipush 8, 2) := by decide +kernel
theorem dX10_plays_56 : decode cX10_plays 56 = .ok (.iload_n 1, 1) := by decide +kernel
theorem dX10_plays_57 : decode cX10_plays 57 = .ok (.imul, 1) := by decide +kernel
theorem dX10_plays_58 : decode cX10_plays 58 = .ok (.iload 5, 2) := by decide +kernel
theorem dX10_plays_60 : decode cX10_plays 60 = .ok (.iadd, 1) := by decide +kernel
theorem dX10_plays_61 : decode cX10_plays 61 = .ok (.istore 6, 2) := by decide +kernel
theorem dX10_plays_63 : decode cX10_plays 63 = .ok (.aload_n 0, 1) := by decide +kernel
theorem dX10_plays_64 : decode cX10_plays 64 = .ok (.getfield 72, 3) := by decide +kernel
theorem dX10_plays_67 : decode cX10_plays 67 = .ok (.iload_n 3, 1) := by decide +kernel
theorem dX10_plays_68 : decode cX10_plays 68 = .ok (.iload 5, 2) := by decide +kernel
theorem dX10_plays_70 : decode cX10_plays 70 = .ok (.iastore, 1) := by decide +kernel
theorem dX10_plays_71 : decode cX10_plays 71 = .ok (.aload_n 0, 1) := by decide +kernel
theorem dX10_plays_72 : decode cX10_plays 72 = .ok (.getfield 75, 3) := by decide +kernel
theorem dX10_plays_75 : decode cX10_plays 75 = .ok (.iload_n 3, 1) := by decide +kernel
theorem dX10_plays_76 : decode cX10_plays 76 = .ok (.iload 5, 2) := by decide +kernel
theorem dX10_plays_78 : decode cX10_plays 78 = .ok (.bipush 8, 2) := by decide +kernel
theorem dX10_plays_80 : decode cX10_plays 80 = .ok (.if_icmp .ne 7, 3) := by decide +kernel
theorem dX10_plays_83 : decode cX10_plays 83 = .ok (.iconst 0, 1) := by decide +kernel
theorem dX10_plays_84 : decode cX10_plays 84 = .ok (.goto 10, 3) := by decide +kernel
theorem dX10_plays_87 : decode cX10_plays 87 = .ok (.aload_n 0, 1) := by decide +kernel
theorem dX10_plays_88 : decode cX10_plays 88 = .ok (.getfield 29, 3) := by decide +kernel
theorem dX10_plays_91 : decode cX10_plays 91 = .ok (.iload 6, 2) := by decide +kernel
theorem dX10_plays_93 : decode cX10_plays 93 = .ok (.iaload, 1) := by decide +kernel
theorem dX10_plays_94 : decode cX10_plays 94 = .ok (.iastore, 1) := by decide +kernel
theorem dX10_plays_95 : decode cX10_plays 95 = .ok (.aload_n 0, 1) := by decide +kernel
theorem dX10_plays_96 : decode cX10_plays 96 = .ok (.getfield 69, 3) := by decide +kernel
theorem dX10_plays_99 : decode cX10_plays 99 = .ok (.iload_n 3, 1) := by decide +kernel
theorem dX10_plays_100 : decode cX10_plays 100 = .ok (.iconst 1, 1) := by decide +kernel
theorem dX10_plays_101 : decode cX10_plays 101 = .ok (.iadd, 1) := by decide +kernel
theorem dX10_plays_102 : decode cX10_plays 102 = .ok (.iload 5, 2) := by decide +kernel
theorem dX10_plays_104 : decode cX10_plays 104 = .ok (.bipush 8, 2) := by decide +kernel
theorem dX10_plays_106 : decode cX10_plays 106 = .ok (.if_icmp .eq 13, 3) := by decide +kernel
theorem dX10_plays_109 : decode cX10_plays 109 = .ok (.aload_n 0, 1) := by decide +kernel
theorem dX10_plays_110 : decode cX10_plays 110 = .ok (.getfield 32, 3) := by decide +kernel
theorem dX10_plays_113 : decode cX10_plays 113 = .ok (.iload 6, 2) := by decide +kernel
theorem dX10_plays_115 : decode cX10_plays 115 = .ok (.iaload, 1) := by decide +kernel
theorem dX10_plays_116 : decode cX10_plays 116 = .ok (.ifCond .ge 8, 3) := by decide +kernel
theorem dX10_plays_119 : decode cX10_plays 119 = .ok (.iload 4, 2) := by decide +kernel
theorem dX10_plays_121 : decode cX10_plays 121 = .ok (.goto 10, 3) := by decide +kernel
theorem dX10_plays_124 : decode cX10_plays 124 = .ok (.aload_n 0, 1) := by decide +kernel
theorem dX10_plays_125 : decode cX10_plays 125 = .ok (.getfield 32, 3) := by decide +kernel
theorem dX10_plays_128 : decode cX10_plays 128 = .ok (.iload 6, 2) := by decide +kernel
theorem dX10_plays_130 : decode cX10_plays 130 = .ok (.iaload, 1) := by decide +kernel
theorem dX10_plays_131 : decode cX10_plays 131 = .ok (.iastore, 1) := by decide +kernel
theorem dX10_plays_132 : decode cX10_plays 132 = .ok (.iinc 3 1, 3) := by decide +kernel
theorem dX10_plays_135 : decode cX10_plays 135 = .ok (.goto (-126), 3) := by decide +kernel
theorem dX10_plays_138 : decode cX10_plays 138 = .ok (.return_, 1) := by decide +kernel
theorem dX10_lays_0 : decode cX10_lays 0 = .ok (.iconst 0, 1) := by decide +kernel
theorem dX10_lays_1 : decode cX10_lays 1 = .ok (.istore_n 1, 1) := by decide +kernel
theorem dX10_lays_2 : decode cX10_lays 2 = .ok (.iload_n 1, 1) := by decide +kernel
theorem dX10_lays_3 : decode cX10_lays 3 = .ok (.bipush 12, 2) := by decide +kernel
theorem dX10_lays_5 : decode cX10_lays 5 = .ok (.if_icmp .ge 33, 3) := by decide +kernel
theorem dX10_lays_8 : decode cX10_lays 8 = .ok (.aload_n 0, 1) := by decide +kernel
theorem dX10_lays_9 : decode cX10_lays 9 = .ok (.getfield 63, 3) := by decide +kernel
theorem dX10_lays_12 : decode cX10_lays 12 = .ok (.iload_n 1, 1) := by decide +kernel
theorem dX10_lays_13 : decode cX10_lays 13 = .ok (.aload_n 0, 1) := by decide +kernel
theorem dX10_lays_14 : decode cX10_lays 14 = .ok (.getfield 54, 3) := by decide +kernel
theorem dX10_lays_17 : decode cX10_lays 17 = .ok (.iload_n 1, 1) := by decide +kernel
theorem dX10_lays_18 : decode cX10_lays 18 = .ok (.iaload, 1) := by decide +kernel
theorem dX10_lays_19 : decode cX10_lays 19 = .ok (.iastore, 1) := by decide +kernel
theorem dX10_lays_20 : decode cX10_lays 20 = .ok (.aload_n 0, 1) := by decide +kernel
theorem dX10_lays_21 : decode cX10_lays 21 = .ok (.getfield 66, 3) := by decide +kernel
theorem dX10_lays_24 : decode cX10_lays 24 = .ok (.iload_n 1, 1) := by decide +kernel
theorem dX10_lays_25 : decode cX10_lays 25 = .ok (.aload_n 0, 1) := by decide +kernel
theorem dX10_lays_26 : decode cX10_lays 26 = .ok (.getfield 57, 3) := by decide +kernel
theorem dX10_lays_29 : decode cX10_lays 29 = .ok (.iload_n 1, 1) := by decide +kernel
theorem dX10_lays_30 : decode cX10_lays 30 = .ok (.iaload, 1) := by decide +kernel
theorem dX10_lays_31 : decode cX10_lays 31 = .ok (.iastore, 1) := by decide +kernel
theorem dX10_lays_32 : decode cX10_lays 32 = .ok (.iinc 1 1, 3) := by decide +kernel
theorem dX10_lays_35 : decode cX10_lays 35 = .ok (.goto (-33), 3) := by decide +kernel
theorem dX10_lays_38 : decode cX10_lays 38 = .ok (.return_, 1) := by decide +kernel
theorem dX10_play_0 : decode cX10_play 0 = .ok (.iload_n 1, 1) := by decide +kernel
theorem dX10_play_1 : decode cX10_play 1 = .ok (.invokestatic 173, 3) := by decide +kernel
theorem dX10_play_4 : decode cX10_play 4 = .ok (.ifCond .eq 23, 3) := by decide +kernel
theorem dX10_play_7 : decode cX10_play 7 = .ok (.aload_n 0, 1) := by decide +kernel
theorem dX10_play_8 : decode cX10_play 8 = .ok (.iload_n 2, 1) := by decide +kernel
theorem dX10_play_9 : decode cX10_play 9 = .ok (.invokevirtual 184, 3) := by decide +kernel
theorem dX10_play_12 : decode cX10_play 12 = .ok (.ifCond .eq 15, 3) := by decide +kernel
theorem dX10_play_15 : decode cX10_play 15 = .ok (.iload_n 3, 1) := by decide +kernel
theorem dX10_play_16 : decode cX10_play 16 = .ok (.i2l, 1) := by decide +kernel
theorem dX10_play_17 : decode cX10_play 17 = .ok (.lconst 0, 1) := by decide +kernel
theorem dX10_play_18 : decode cX10_play 18 = .ok (.ldc2_w 180, 3) := by decide +kernel
theorem dX10_play_21 : decode cX10_play 21 = .ok (.invokestatic 131, 3) := by decide +kernel
theorem dX10_play_24 : decode cX10_play 24 = .ok (.ifCond .ne 5, 3) := by decide +kernel
theorem dX10_play_27 : decode cX10_play 27 = .ok (.iconst (-1), 1) := by decide +kernel
theorem dX10_play_28 : decode cX10_play 28 = .ok (.ireturn, 1) := by decide +kernel
theorem dX10_play_29 : decode cX10_play 29 = .ok (.aload_n 0, 1) := by decide +kernel
theorem dX10_play_30 : decode cX10_play 30 = .ok (.invokevirtual 200, 3) := by decide +kernel
theorem dX10_play_33 : decode cX10_play 33 = .ok (.aload_n 0, 1) := by decide +kernel
theorem dX10_play_34 : decode cX10_play 34 = .ok (.iload_n 1, 1) := by decide +kernel
theorem dX10_play_35 : decode cX10_play 35 = .ok (.iconst 0, 1) := by decide +kernel
theorem dX10_play_36 : decode cX10_play 36 = .ok (.invokevirtual 203, 3) := by decide +kernel
theorem dX10_play_39 : decode cX10_play 39 = .ok (.iload_n 3, 1) := by decide +kernel
theorem dX10_play_40 : decode cX10_play 40 = .ok (.ifCond .ne 12, 3) := by decide +kernel
theorem dX10_play_43 : decode cX10_play 43 = .ok (.aload_n 0, 1) := by decide +kernel
theorem dX10_play_44 : decode cX10_play 44 = .ok (.getfield 69, 3) := by decide +kernel
theorem dX10_play_47 : decode cX10_play 47 = .ok (.iload_n 2, 1) := by decide +kernel
theorem dX10_play_48 : decode cX10_play 48 = .ok (.iaload, 1) := by decide +kernel
theorem dX10_play_49 : decode cX10_play 49 = .ok (.goto 23, 3) := by decide +kernel
theorem dX10_play_52 : decode cX10_play 52 = .ok (.iload_n 3, 1) := by decide +kernel
theorem dX10_play_53 : decode cX10_play 53 = .ok (.iconst 1, 1) := by decide +kernel
theorem dX10_play_54 : decode cX10_play 54 = .ok (.if_icmp .ne 12, 3) := by decide +kernel
theorem dX10_play_57 : decode cX10_play 57 = .ok (.aload_n 0, 1) := by decide +kernel
theorem dX10_play_58 : decode cX10_play 58 = .ok (.getfield 72, 3) := by decide +kernel
theorem dX10_play_61 : decode cX10_play 61 = .ok (.iload_n 2, 1) := by decide +kernel
theorem dX10_play_62 : decode cX10_play 62 = .ok (.iaload, 1) := by decide +kernel
theorem dX10_play_63 : decode cX10_play 63 = .ok (.goto 9, 3) := by decide +kernel
theorem dX10_play_66 : decode cX10_play 66 = .ok (.aload_n 0, 1) := by decide +kernel
theorem dX10_play_67 : decode cX10_play 67 = .ok (.getfield 75, 3) := by decide +kernel
theorem dX10_play_70 : decode cX10_play 70 = .ok (.iload_n 2, 1) := by decide +kernel
theorem dX10_play_71 : decode cX10_play 71 = .ok (.iaload, 1) := by decide +kernel
theorem dX10_play_72 : decode cX10_play 72 = .ok (.ireturn, 1) := by decide +kernel
theorem dX10_chooses_0 : decode cX10_chooses 0 = .ok (.iload_n 1, 1) := by decide +kernel
theorem dX10_chooses_1 : decode cX10_chooses 1 = .ok (.invokestatic 173, 3) := by decide +kernel
theorem dX10_chooses_4 : decode cX10_chooses 4 = .ok (.ifCond .eq 38, 3) := by decide +kernel
theorem dX10_chooses_7 : decode cX10_chooses 7 = .ok (.iload_n 2, 1) := by decide +kernel
theorem dX10_chooses_8 : decode cX10_chooses 8 = .ok (.i2l, 1) := by decide +kernel
theorem dX10_chooses_9 : decode cX10_chooses 9 = .ok (.lconst 0, 1) := by decide +kernel
theorem dX10_chooses_10 : decode cX10_chooses 10 = .ok (.ldc2_w 207, 3) := by decide +kernel
theorem dX10_chooses_13 : decode cX10_chooses 13 = .ok (.invokestatic 131, 3) := by decide +kernel
theorem dX10_chooses_16 : decode cX10_chooses 16 = .ok (.ifCond .eq 26, 3) := by decide +kernel
theorem dX10_chooses_19 : decode cX10_chooses 19 = .ok (.iload_n 3, 1) := by decide +kernel
theorem dX10_chooses_20 : decode cX10_chooses 20 = .ok (.i2l, 1) := by decide +kernel
theorem dX10_chooses_21 : decode cX10_chooses 21 = .ok (.lconst 0, 1) := by decide +kernel
theorem dX10_chooses_22 : decode cX10_chooses 22 = .ok (.ldc2_w 187, 3) := by decide +kernel
theorem dX10_chooses_25 : decode cX10_chooses 25 = .ok (.invokestatic 131, 3) := by decide +kernel
theorem dX10_chooses_28 : decode cX10_chooses 28 = .ok (.ifCond .eq 14, 3) := by decide +kernel
theorem dX10_chooses_31 : decode cX10_chooses 31 = .ok (.iload 4, 2) := by decide +kernel
theorem dX10_chooses_33 : decode cX10_chooses 33 = .ok (.i2l, 1) := by decide +kernel
theorem dX10_chooses_34 : decode cX10_chooses 34 = .ok (.lconst 0, 1) := by decide +kernel
theorem dX10_chooses_35 : decode cX10_chooses 35 = .ok (.lconst 1, 1) := by decide +kernel
theorem dX10_chooses_36 : decode cX10_chooses 36 = .ok (.invokestatic 131, 3) := by decide +kernel
theorem dX10_chooses_39 : decode cX10_chooses 39 = .ok (.ifCond .ne 5, 3) := by decide +kernel
theorem dX10_chooses_42 : decode cX10_chooses 42 = .ok (.iconst (-1), 1) := by decide +kernel
theorem dX10_chooses_43 : decode cX10_chooses 43 = .ok (.ireturn, 1) := by decide +kernel
theorem dX10_chooses_44 : decode cX10_chooses 44 = .ok (.aload_n 0, 1) := by decide +kernel
theorem dX10_chooses_45 : decode cX10_chooses 45 = .ok (.iload_n 1, 1) := by decide +kernel
theorem dX10_chooses_46 : decode cX10_chooses 46 = .ok (.bipush 32, 2) := by decide +kernel
theorem dX10_chooses_48 : decode cX10_chooses 48 = .ok (.iload_n 2, 1) := by decide +kernel
theorem dX10_chooses_49 : decode cX10_chooses 49 = .ok (.imul, 1) := by decide +kernel
theorem dX10_chooses_50 : decode cX10_chooses 50 = .ok (.iconst 2, 1) := by decide +kernel
theorem dX10_chooses_51 : decode cX10_chooses 51 = .ok (.iload_n 3, 1) := by decide +kernel
theorem dX10_chooses_52 : decode cX10_chooses 52 = .ok (.imul, 1) := by decide +kernel
theorem dX10_chooses_53 : decode cX10_chooses 53 = .ok (.iadd, 1) := by decide +kernel
theorem dX10_chooses_54 : decode cX10_chooses 54 = .ok (.iload 4, 2) := by decide +kernel
theorem dX10_chooses_56 : decode cX10_chooses 56 = .ok (.iadd, 1) := by decide +kernel
theorem dX10_chooses_57 : decode cX10_chooses 57 = .ok (.iconst 0, 1) := by decide +kernel
theorem dX10_chooses_58 : decode cX10_chooses 58 = .ok (.invokevirtual 196, 3) := by decide +kernel
theorem dX10_chooses_61 : decode cX10_chooses 61 = .ok (.ireturn, 1) := by decide +kernel
theorem dX10_writes_0 : decode cX10_writes 0 = .ok (.aload_n 0, 1) := by decide +kernel
theorem dX10_writes_1 : decode cX10_writes 1 = .ok (.getfield 78, 3) := by decide +kernel
theorem dX10_writes_4 : decode cX10_writes 4 = .ok (.aload_n 0, 1) := by decide +kernel
theorem dX10_writes_5 : decode cX10_writes 5 = .ok (.getfield 209, 3) := by decide +kernel
theorem dX10_writes_8 : decode cX10_writes 8 = .ok (.iload_n 1, 1) := by decide +kernel
theorem dX10_writes_9 : decode cX10_writes 9 = .ok (.iastore, 1) := by decide +kernel
theorem dX10_writes_10 : decode cX10_writes 10 = .ok (.aload_n 0, 1) := by decide +kernel
theorem dX10_writes_11 : decode cX10_writes 11 = .ok (.getfield 81, 3) := by decide +kernel
theorem dX10_writes_14 : decode cX10_writes 14 = .ok (.aload_n 0, 1) := by decide +kernel
theorem dX10_writes_15 : decode cX10_writes 15 = .ok (.getfield 209, 3) := by decide +kernel
theorem dX10_writes_18 : decode cX10_writes 18 = .ok (.iload_n 2, 1) := by decide +kernel
theorem dX10_writes_19 : decode cX10_writes 19 = .ok (.iastore, 1) := by decide +kernel
theorem dX10_writes_20 : decode cX10_writes 20 = .ok (.aload_n 0, 1) := by decide +kernel
theorem dX10_writes_21 : decode cX10_writes 21 = .ok (.getfield 84, 3) := by decide +kernel
theorem dX10_writes_24 : decode cX10_writes 24 = .ok (.aload_n 0, 1) := by decide +kernel
theorem dX10_writes_25 : decode cX10_writes 25 = .ok (.getfield 209, 3) := by decide +kernel
theorem dX10_writes_28 : decode cX10_writes 28 = .ok (.iload_n 3, 1) := by decide +kernel
theorem dX10_writes_29 : decode cX10_writes 29 = .ok (.iastore, 1) := by decide +kernel
theorem dX10_writes_30 : decode cX10_writes 30 = .ok (.aload_n 0, 1) := by decide +kernel
theorem dX10_writes_31 : decode cX10_writes 31 = .ok (.dup, 1) := by decide +kernel
theorem dX10_writes_32 : decode cX10_writes 32 = .ok (.getfield 209, 3) := by decide +kernel
theorem dX10_writes_35 : decode cX10_writes 35 = .ok (.iconst 1, 1) := by decide +kernel
theorem dX10_writes_36 : decode cX10_writes 36 = .ok (.iadd, 1) := by decide +kernel
theorem dX10_writes_37 : decode cX10_writes 37 = .ok (.putfield 209, 3) := by decide +kernel
theorem dX10_writes_40 : decode cX10_writes 40 = .ok (.return_, 1) := by decide +kernel
theorem dX10_loses_0 : decode cX10_loses 0 = .ok (.iload_n 2, 1) := by decide +kernel
theorem dX10_loses_1 : decode cX10_loses 1 = .ok (.istore_n 3, 1) := by decide +kernel
theorem dX10_loses_2 : decode cX10_loses 2 = .ok (.aload_n 0, 1) := by decide +kernel
theorem dX10_loses_3 : decode cX10_loses 3 = .ok (.getfield 209, 3) := by decide +kernel
theorem dX10_loses_6 : decode cX10_loses 6 = .ok (.iconst 1, 1) := by decide +kernel
theorem dX10_loses_7 : decode cX10_loses 7 = .ok (.isub, 1) := by decide +kernel
theorem dX10_loses_8 : decode cX10_loses 8 = .ok (.istore 4, 2) := by decide +kernel
theorem dX10_loses_10 : decode cX10_loses 10 = .ok (.iload 4, 2) := by decide +kernel
theorem dX10_loses_12 : decode cX10_loses 12 = .ok (.ifCond .lt 43, 3) := by decide +kernel
theorem dX10_loses_15 : decode cX10_loses 15 = .ok (.iload_n 3, 1) := by decide +kernel
theorem dX10_loses_16 : decode cX10_loses 16 = .ok (.ifCond .le 33, 3) := by decide +kernel
theorem dX10_loses_19 : decode cX10_loses 19 = .ok (.aload_n 0, 1) := by decide +kernel
theorem dX10_loses_20 : decode cX10_loses 20 = .ok (.getfield 78, 3) := by decide +kernel
theorem dX10_loses_23 : decode cX10_loses 23 = .ok (.iload 4, 2) := by decide +kernel
theorem dX10_loses_25 : decode cX10_loses 25 = .ok (.iaload, 1) := by decide +kernel
theorem dX10_loses_26 : decode cX10_loses 26 = .ok (.iload_n 1, 1) := by decide +kernel
theorem dX10_loses_27 : decode cX10_loses 27 = .ok (.if_icmp .ne 22, 3) := by decide +kernel
theorem dX10_loses_30 : decode cX10_loses 30 = .ok (.aload_n 0, 1) := by decide +kernel
theorem dX10_loses_31 : decode cX10_loses 31 = .ok (.getfield 78, 3) := by decide +kernel
theorem dX10_loses_34 : decode cX10_loses 34 = .ok (.iload 4, 2) := by decide +kernel
theorem dX10_loses_36 : decode cX10_loses 36 = .ok (.iconst 5, 1) := by decide +kernel
theorem dX10_loses_37 : decode cX10_loses 37 = .ok (.iastore, 1) := by decide +kernel
theorem dX10_loses_38 : decode cX10_loses 38 = .ok (.aload_n 0, 1) := by decide +kernel
theorem dX10_loses_39 : decode cX10_loses 39 = .ok (.getfield 84, 3) := by decide +kernel
theorem dX10_loses_42 : decode cX10_loses 42 = .ok (.iload 4, 2) := by decide +kernel
theorem dX10_loses_44 : decode cX10_loses 44 = .ok (.iconst 0, 1) := by decide +kernel
theorem dX10_loses_45 : decode cX10_loses 45 = .ok (.iastore, 1) := by decide +kernel
theorem dX10_loses_46 : decode cX10_loses 46 = .ok (.iinc 3 (-1), 3) := by decide +kernel
theorem dX10_loses_49 : decode cX10_loses 49 = .ok (.iinc 4 (-1), 3) := by decide +kernel
theorem dX10_loses_52 : decode cX10_loses 52 = .ok (.goto (-42), 3) := by decide +kernel
theorem dX10_loses_55 : decode cX10_loses 55 = .ok (.iload_n 3, 1) := by decide +kernel
theorem dX10_loses_56 : decode cX10_loses 56 = .ok (.ireturn, 1) := by decide +kernel
theorem dX10_write_0 : decode cX10_write 0 = .ok (.iload_n 1, 1) := by decide +kernel
theorem dX10_write_1 : decode cX10_write 1 = .ok (.i2l, 1) := by decide +kernel
theorem dX10_write_2 : decode cX10_write 2 = .ok (.lconst 0, 1) := by decide +kernel
theorem dX10_write_3 : decode cX10_write 3 = .ok (.ldc2_w 155, 3) := by decide +kernel
theorem dX10_write_6 : decode cX10_write 6 = .ok (.invokestatic 131, 3) := by decide +kernel
theorem dX10_write_9 : decode cX10_write 9 = .ok (.ifCond .ne 5, 3) := by decide +kernel
theorem dX10_write_12 : decode cX10_write 12 = .ok (.iconst (-1), 1) := by decide +kernel
theorem dX10_write_13 : decode cX10_write 13 = .ok (.ireturn, 1) := by decide +kernel
theorem dX10_write_14 : decode cX10_write 14 = .ok (.aload_n 0, 1) := by decide +kernel
theorem dX10_write_15 : decode cX10_write 15 = .ok (.invokevirtual 200, 3) := by decide +kernel
theorem dX10_write_18 : decode cX10_write 18 = .ok (.aload_n 0, 1) := by decide +kernel
theorem dX10_write_19 : decode cX10_write 19 = .ok (.iconst 0, 1) := by decide +kernel
theorem dX10_write_20 : decode cX10_write 20 = .ok (.iconst 0, 1) := by decide +kernel
theorem dX10_write_21 : decode cX10_write 21 = .ok (.invokevirtual 203, 3) := by decide +kernel
theorem dX10_write_24 : decode cX10_write 24 = .ok (.aload_n 0, 1) := by decide +kernel
theorem dX10_write_25 : decode cX10_write 25 = .ok (.iconst 0, 1) := by decide +kernel
theorem dX10_write_26 : decode cX10_write 26 = .ok (.putfield 209, 3) := by decide +kernel
theorem dX10_write_29 : decode cX10_write 29 = .ok (.iconst 0, 1) := by decide +kernel
theorem dX10_write_30 : decode cX10_write 30 = .ok (.istore_n 2, 1) := by decide +kernel
theorem dX10_write_31 : decode cX10_write 31 = .ok (.iload_n 2, 1) := by decide +kernel
theorem dX10_write_32 : decode cX10_write 32 = .ok (.aload_n 0, 1) := by decide +kernel
theorem dX10_write_33 : decode cX10_write 33 = .ok (.getfield 50, 3) := by decide +kernel
theorem dX10_write_36 : decode cX10_write 36 = .ok (.if_icmp .ge 57, 3) := by decide +kernel
theorem dX10_write_39 : decode cX10_write 39 = .ok (.aload_n 0, 1) := by decide +kernel
theorem dX10_write_40 : decode cX10_write 40 = .ok (.iconst 0, 1) := by decide +kernel
theorem dX10_write_41 : decode cX10_write 41 = .ok (.iload_n 2, 1) := by decide +kernel
theorem dX10_write_42 : decode cX10_write 42 = .ok (.aload_n 0, 1) := by decide +kernel
theorem dX10_write_43 : decode cX10_write 43 = .ok (.getfield 54, 3) := by decide +kernel
theorem dX10_write_46 : decode cX10_write 46 = .ok (.iload_n 2, 1) := by decide +kernel
theorem dX10_write_47 : decode cX10_write 47 = .ok (.iaload, 1) := by decide +kernel
theorem dX10_write_48 : decode cX10_write 48 = .ok (.invokevirtual 212, 3) := by decide +kernel
theorem dX10_write_51 : decode cX10_write 51 = .ok (.aload_n 0, 1) := by decide +kernel
theorem dX10_write_52 : decode cX10_write 52 = .ok (.iconst 3, 1) := by decide +kernel
theorem dX10_write_53 : decode cX10_write 53 = .ok (.iload_n 2, 1) := by decide +kernel
theorem dX10_write_54 : decode cX10_write 54 = .ok (.aload_n 0, 1) := by decide +kernel
theorem dX10_write_55 : decode cX10_write 55 = .ok (.getfield 57, 3) := by decide +kernel
theorem dX10_write_58 : decode cX10_write 58 = .ok (.iload_n 2, 1) := by decide +kernel
theorem dX10_write_59 : decode cX10_write 59 = .ok (.iaload, 1) := by decide +kernel
theorem dX10_write_60 : decode cX10_write 60 = .ok (.invokevirtual 212, 3) := by decide +kernel
theorem dX10_write_63 : decode cX10_write 63 = .ok (.aload_n 0, 1) := by decide +kernel
theorem dX10_write_64 : decode cX10_write 64 = .ok (.iconst 1, 1) := by decide +kernel
theorem dX10_write_65 : decode cX10_write 65 = .ok (.iload_n 2, 1) := by decide +kernel
theorem dX10_write_66 : decode cX10_write 66 = .ok (.aload_n 0, 1) := by decide +kernel
theorem dX10_write_67 : decode cX10_write 67 = .ok (.getfield 72, 3) := by decide +kernel
theorem dX10_write_70 : decode cX10_write 70 = .ok (.iload_n 2, 1) := by decide +kernel
theorem dX10_write_71 : decode cX10_write 71 = .ok (.iaload, 1) := by decide +kernel
theorem dX10_write_72 : decode cX10_write 72 = .ok (.invokevirtual 212, 3) := by decide +kernel
theorem dX10_write_75 : decode cX10_write 75 = .ok (.aload_n 0, 1) := by decide +kernel
theorem dX10_write_76 : decode cX10_write 76 = .ok (.iconst 2, 1) := by decide +kernel
theorem dX10_write_77 : decode cX10_write 77 = .ok (.iload_n 2, 1) := by decide +kernel
theorem dX10_write_78 : decode cX10_write 78 = .ok (.aload_n 0, 1) := by decide +kernel
theorem dX10_write_79 : decode cX10_write 79 = .ok (.getfield 75, 3) := by decide +kernel
theorem dX10_write_82 : decode cX10_write 82 = .ok (.iload_n 2, 1) := by decide +kernel
theorem dX10_write_83 : decode cX10_write 83 = .ok (.iaload, 1) := by decide +kernel
theorem dX10_write_84 : decode cX10_write 84 = .ok (.invokevirtual 212, 3) := by decide +kernel
theorem dX10_write_87 : decode cX10_write 87 = .ok (.iinc 2 1, 3) := by decide +kernel
theorem dX10_write_90 : decode cX10_write 90 = .ok (.goto (-59), 3) := by decide +kernel
theorem dX10_write_93 : decode cX10_write 93 = .ok (.aload_n 0, 1) := by decide +kernel
theorem dX10_write_94 : decode cX10_write 94 = .ok (.getfield 209, 3) := by decide +kernel
theorem dX10_write_97 : decode cX10_write 97 = .ok (.iload_n 1, 1) := by decide +kernel
theorem dX10_write_98 : decode cX10_write 98 = .ok (.if_icmp .le 12, 3) := by decide +kernel
theorem dX10_write_101 : decode cX10_write 101 = .ok (.aload_n 0, 1) := by decide +kernel
theorem dX10_write_102 : decode cX10_write 102 = .ok (.getfield 209, 3) := by decide +kernel
theorem dX10_write_105 : decode cX10_write 105 = .ok (.iload_n 1, 1) := by decide +kernel
theorem dX10_write_106 : decode cX10_write 106 = .ok (.isub, 1) := by decide +kernel
theorem dX10_write_107 : decode cX10_write 107 = .ok (.goto 4, 3) := by decide +kernel
theorem dX10_write_110 : decode cX10_write 110 = .ok (.iconst 0, 1) := by decide +kernel
theorem dX10_write_111 : decode cX10_write 111 = .ok (.istore_n 2, 1) := by decide +kernel
theorem dX10_write_112 : decode cX10_write 112 = .ok (.aload_n 0, 1) := by decide +kernel
theorem dX10_write_113 : decode cX10_write 113 = .ok (.iconst 2, 1) := by decide +kernel
theorem dX10_write_114 : decode cX10_write 114 = .ok (.aload_n 0, 1) := by decide +kernel
theorem dX10_write_115 : decode cX10_write 115 = .ok (.iconst 0, 1) := by decide +kernel
theorem dX10_write_116 : decode cX10_write 116 = .ok (.aload_n 0, 1) := by decide +kernel
theorem dX10_write_117 : decode cX10_write 117 = .ok (.iconst 3, 1) := by decide +kernel
theorem dX10_write_118 : decode cX10_write 118 = .ok (.aload_n 0, 1) := by decide +kernel
theorem dX10_write_119 : decode cX10_write 119 = .ok (.iconst 1, 1) := by decide +kernel
theorem dX10_write_120 : decode cX10_write 120 = .ok (.iload_n 2, 1) := by decide +kernel
theorem dX10_write_121 : decode cX10_write 121 = .ok (.invokevirtual 216, 3) := by decide +kernel
theorem dX10_write_124 : decode cX10_write 124 = .ok (.invokevirtual 216, 3) := by decide +kernel
theorem dX10_write_127 : decode cX10_write 127 = .ok (.invokevirtual 216, 3) := by decide +kernel
theorem dX10_write_130 : decode cX10_write 130 = .ok (.invokevirtual 216, 3) := by decide +kernel
theorem dX10_write_133 : decode cX10_write 133 = .ok (.istore_n 3, 1) := by decide +kernel
theorem dX10_write_134 : decode cX10_write 134 = .ok (.iload_n 2, 1) := by decide +kernel
theorem dX10_write_135 : decode cX10_write 135 = .ok (.iload_n 3, 1) := by decide +kernel
theorem dX10_write_136 : decode cX10_write 136 = .ok (.isub, 1) := by decide +kernel
theorem dX10_write_137 : decode cX10_write 137 = .ok (.ireturn, 1) := by decide +kernel
theorem dX10_tell_0 : decode cX10_tell 0 = .ok (.iload_n 1, 1) := by decide +kernel
theorem dX10_tell_1 : decode cX10_tell 1 = .ok (.i2l, 1) := by decide +kernel
theorem dX10_tell_2 : decode cX10_tell 2 = .ok (.lconst 0, 1) := by decide +kernel
theorem dX10_tell_3 : decode cX10_tell 3 = .ok (.ldc2_w 220, 3) := by decide +kernel
theorem dX10_tell_6 : decode cX10_tell 6 = .ok (.invokestatic 131, 3) := by decide +kernel
theorem dX10_tell_9 : decode cX10_tell 9 = .ok (.ifCond .eq 15, 3) := by decide +kernel
theorem dX10_tell_12 : decode cX10_tell 12 = .ok (.iload_n 2, 1) := by decide +kernel
theorem dX10_tell_13 : decode cX10_tell 13 = .ok (.i2l, 1) := by decide +kernel
theorem dX10_tell_14 : decode cX10_tell 14 = .ok (.lconst 0, 1) := by decide +kernel
theorem dX10_tell_15 : decode cX10_tell 15 = .ok (.ldc2_w 222, 3) := by decide +kernel
theorem dX10_tell_18 : decode cX10_tell 18 = .ok (.invokestatic 131, 3) := by decide +kernel
theorem dX10_tell_21 : decode cX10_tell 21 = .ok (.ifCond .ne 5, 3) := by decide +kernel
theorem dX10_tell_24 : decode cX10_tell 24 = .ok (.iconst (-1), 1) := by decide +kernel
theorem dX10_tell_25 : decode cX10_tell 25 = .ok (.ireturn, 1) := by decide +kernel
theorem dX10_tell_26 : decode cX10_tell 26 = .ok (.aload_n 0, 1) := by decide +kernel
theorem dX10_tell_27 : decode cX10_tell 27 = .ok (.getfield 209, 3) := by decide +kernel
theorem dX10_tell_30 : decode cX10_tell 30 = .ok (.bipush 48, 2) := by decide +kernel
theorem dX10_tell_32 : decode cX10_tell 32 = .ok (.if_icmp .ne 6, 3) := by decide +kernel
theorem dX10_tell_35 : decode cX10_tell 35 = .ok (.bipush (-3), 2) := by decide +kernel
theorem dX10_tell_37 : decode cX10_tell 37 = .ok (.ireturn, 1) := by decide +kernel
theorem dX10_tell_38 : decode cX10_tell 38 = .ok (.aload_n 0, 1) := by decide +kernel
theorem dX10_tell_39 : decode cX10_tell 39 = .ok (.iconst 4, 1) := by decide +kernel
theorem dX10_tell_40 : decode cX10_tell 40 = .ok (.iload_n 1, 1) := by decide +kernel
theorem dX10_tell_41 : decode cX10_tell 41 = .ok (.iload_n 2, 1) := by decide +kernel
theorem dX10_tell_42 : decode cX10_tell 42 = .ok (.invokevirtual 212, 3) := by decide +kernel
theorem dX10_tell_45 : decode cX10_tell 45 = .ok (.aload_n 0, 1) := by decide +kernel
theorem dX10_tell_46 : decode cX10_tell 46 = .ok (.getfield 209, 3) := by decide +kernel
theorem dX10_tell_49 : decode cX10_tell 49 = .ok (.iconst 1, 1) := by decide +kernel
theorem dX10_tell_50 : decode cX10_tell 50 = .ok (.isub, 1) := by decide +kernel
theorem dX10_tell_51 : decode cX10_tell 51 = .ok (.ireturn, 1) := by decide +kernel
theorem dX10_isLine_0 : decode cX10_isLine 0 = .ok (.iload_n 1, 1) := by decide +kernel
theorem dX10_isLine_1 : decode cX10_isLine 1 = .ok (.i2l, 1) := by decide +kernel
theorem dX10_isLine_2 : decode cX10_isLine 2 = .ok (.lconst 0, 1) := by decide +kernel
theorem dX10_isLine_3 : decode cX10_isLine 3 = .ok (.aload_n 0, 1) := by decide +kernel
theorem dX10_isLine_4 : decode cX10_isLine 4 = .ok (.getfield 209, 3) := by decide +kernel
theorem dX10_isLine_7 : decode cX10_isLine 7 = .ok (.iconst 1, 1) := by decide +kernel
theorem dX10_isLine_8 : decode cX10_isLine 8 = .ok (.isub, 1) := by decide +kernel
theorem dX10_isLine_9 : decode cX10_isLine 9 = .ok (.i2l, 1) := by decide +kernel
theorem dX10_isLine_10 : decode cX10_isLine 10 = .ok (.invokestatic 131, 3) := by decide +kernel
theorem dX10_isLine_13 : decode cX10_isLine 13 = .ok (.ireturn, 1) := by decide +kernel
theorem dX10_seal_0 : decode cX10_seal 0 = .ok (.iconst 1, 1) := by decide +kernel
theorem dX10_seal_1 : decode cX10_seal 1 = .ok (.istore_n 1, 1) := by decide +kernel
theorem dX10_seal_2 : decode cX10_seal 2 = .ok (.iconst 0, 1) := by decide +kernel
theorem dX10_seal_3 : decode cX10_seal 3 = .ok (.istore_n 2, 1) := by decide +kernel
theorem dX10_seal_4 : decode cX10_seal 4 = .ok (.iload_n 2, 1) := by decide +kernel
theorem dX10_seal_5 : decode cX10_seal 5 = .ok (.aload_n 0, 1) := by decide +kernel
theorem dX10_seal_6 : decode cX10_seal 6 = .ok (.getfield 209, 3) := by decide +kernel
theorem dX10_seal_9 : decode cX10_seal 9 = .ok (.if_icmp .ge 58, 3) := by decide +kernel
theorem dX10_seal_12 : decode cX10_seal 12 = .ok (.bipush 31, 2) := by decide +kernel
theorem dX10_seal_14 : decode cX10_seal 14 = .ok (.iload_n 1, 1) := by decide +kernel
theorem dX10_seal_15 : decode cX10_seal 15 = .ok (.imul, 1) := by decide +kernel
theorem dX10_seal_16 : decode cX10_seal 16 = .ok (.sipush 131, 3) := by decide +kernel
theorem dX10_seal_19 : decode cX10_seal 19 = .ok (.aload_n 0, 1) := by decide +kernel
theorem dX10_seal_20 : decode cX10_seal 20 = .ok (.getfield 78, 3) := by decide +kernel
theorem dX10_seal_23 : decode cX10_seal 23 = .ok (.iload_n 2, 1) := by decide +kernel
theorem dX10_seal_24 : decode cX10_seal 24 = .ok (.iaload, 1) := by decide +kernel
theorem dX10_seal_25 : decode cX10_seal 25 = .ok (.imul, 1) := by decide +kernel
theorem dX10_seal_26 : decode cX10_seal 26 = .ok (.iadd, 1) := by decide +kernel
theorem dX10_seal_27 : decode cX10_seal 27 = .ok (.bipush 17, 2) := by decide +kernel
theorem dX10_seal_29 : decode cX10_seal 29 = .ok (.aload_n 0, 1) := by decide +kernel
theorem dX10_seal_30 : decode cX10_seal 30 = .ok (.getfield 81, 3) := by decide +kernel
theorem dX10_seal_33 : decode cX10_seal 33 = .ok (.iload_n 2, 1) := by decide +kernel
theorem dX10_seal_34 : decode cX10_seal 34 = .ok (.iaload, 1) := by decide +kernel
theorem dX10_seal_35 : decode cX10_seal 35 = .ok (.imul, 1) := by decide +kernel
theorem dX10_seal_36 : decode cX10_seal 36 = .ok (.iadd, 1) := by decide +kernel
theorem dX10_seal_37 : decode cX10_seal 37 = .ok (.bipush 7, 2) := by decide +kernel
theorem dX10_seal_39 : decode cX10_seal 39 = .ok (.aload_n 0, 1) := by decide +kernel
theorem dX10_seal_40 : decode cX10_seal 40 = .ok (.getfield 84, 3) := by decide +kernel
theorem dX10_seal_43 : decode cX10_seal 43 = .ok (.iload_n 2, 1) := by decide +kernel
theorem dX10_seal_44 : decode cX10_seal 44 = .ok (.iaload, 1) := by decide +kernel
theorem dX10_seal_45 : decode cX10_seal 45 = .ok (.imul, 1) := by decide +kernel
theorem dX10_seal_46 : decode cX10_seal 46 = .ok (.iadd, 1) := by decide +kernel
theorem dX10_seal_47 : decode cX10_seal 47 = .ok (.iconst 1, 1) := by decide +kernel
theorem dX10_seal_48 : decode cX10_seal 48 = .ok (.iadd, 1) := by decide +kernel
theorem dX10_seal_49 : decode cX10_seal 49 = .ok (.sipush 9973, 3) := by decide +kernel
theorem dX10_seal_52 : decode cX10_seal 52 = .ok (.irem, 1) := by decide +kernel
theorem dX10_seal_53 : decode cX10_seal 53 = .ok (.istore_n 1, 1) := by decide +kernel
theorem dX10_seal_54 : decode cX10_seal 54 = .ok (.aload_n 0, 1) := by decide +kernel
theorem dX10_seal_55 : decode cX10_seal 55 = .ok (.getfield 87, 3) := by decide +kernel
theorem dX10_seal_58 : decode cX10_seal 58 = .ok (.iload_n 2, 1) := by decide +kernel
theorem dX10_seal_59 : decode cX10_seal 59 = .ok (.iload_n 1, 1) := by decide +kernel
theorem dX10_seal_60 : decode cX10_seal 60 = .ok (.iastore, 1) := by decide +kernel
theorem dX10_seal_61 : decode cX10_seal 61 = .ok (.iinc 2 1, 3) := by decide +kernel
theorem dX10_seal_64 : decode cX10_seal 64 = .ok (.goto (-60), 3) := by decide +kernel
theorem dX10_seal_67 : decode cX10_seal 67 = .ok (.return_, 1) := by decide +kernel
theorem dX10_isHeld_0 : decode cX10_isHeld 0 = .ok (.iconst 0, 1) := by decide +kernel
theorem dX10_isHeld_1 : decode cX10_isHeld 1 = .ok (.istore_n 2, 1) := by decide +kernel
theorem dX10_isHeld_2 : decode cX10_isHeld 2 = .ok (.iconst 0, 1) := by decide +kernel
theorem dX10_isHeld_3 : decode cX10_isHeld 3 = .ok (.istore_n 3, 1) := by decide +kernel
theorem dX10_isHeld_4 : decode cX10_isHeld 4 = .ok (.iconst 0, 1) := by decide +kernel
theorem dX10_isHeld_5 : decode cX10_isHeld 5 = .ok (.istore 4, 2) := by decide +kernel
theorem dX10_isHeld_7 : decode cX10_isHeld 7 = .ok (.iload 4, 2) := by decide +kernel
theorem dX10_isHeld_9 : decode cX10_isHeld 9 = .ok (.iconst 3, 1) := by decide +kernel
theorem dX10_isHeld_10 : decode cX10_isHeld 10 = .ok (.if_icmp .ge 67, 3) := by decide +kernel
theorem dX10_isHeld_13 : decode cX10_isHeld 13 = .ok (.iload_n 2, 1) := by decide +kernel
theorem dX10_isHeld_14 : decode cX10_isHeld 14 = .ok (.aload_n 0, 1) := by decide +kernel
theorem dX10_isHeld_15 : decode cX10_isHeld 15 = .ok (.getfield 90, 3) := by decide +kernel
theorem dX10_isHeld_18 : decode cX10_isHeld 18 = .ok (.iload 4, 2) := by decide +kernel
theorem dX10_isHeld_20 : decode cX10_isHeld 20 = .ok (.iaload, 1) := by decide +kernel
theorem dX10_isHeld_21 : decode cX10_isHeld 21 = .ok (.ifCond .le 7, 3) := by decide +kernel
theorem dX10_isHeld_24 : decode cX10_isHeld 24 = .ok (.iconst 1, 1) := by decide +kernel
theorem dX10_isHeld_25 : decode cX10_isHeld 25 = .ok (.goto 4, 3) := by decide +kernel
theorem dX10_isHeld_28 : decode cX10_isHeld 28 = .ok (.iconst 0, 1) := by decide +kernel
theorem dX10_isHeld_29 : decode cX10_isHeld 29 = .ok (.iadd, 1) := by decide +kernel
theorem dX10_isHeld_30 : decode cX10_isHeld 30 = .ok (.istore_n 2, 1) := by decide +kernel
theorem dX10_isHeld_31 : decode cX10_isHeld 31 = .ok (.iload_n 3, 1) := by decide +kernel
theorem dX10_isHeld_32 : decode cX10_isHeld 32 = .ok (.iload_n 1, 1) := by decide +kernel
theorem dX10_isHeld_33 : decode cX10_isHeld 33 = .ok (.aload_n 0, 1) := by decide +kernel
theorem dX10_isHeld_34 : decode cX10_isHeld 34 = .ok (.getfield 90, 3) := by decide +kernel
theorem dX10_isHeld_37 : decode cX10_isHeld 37 = .ok (.iload 4, 2) := by decide +kernel
theorem dX10_isHeld_39 : decode cX10_isHeld 39 = .ok (.iaload, 1) := by decide +kernel
theorem dX10_isHeld_40 : decode cX10_isHeld 40 = .ok (.if_icmp .ge 28, 3) := by decide +kernel
theorem dX10_isHeld_43 : decode cX10_isHeld 43 = .ok (.aload_n 0, 1) := by decide +kernel
theorem dX10_isHeld_44 : decode cX10_isHeld 44 = .ok (.getfield 93, 3) := by decide +kernel
theorem dX10_isHeld_47 : decode cX10_isHeld 47 = .ok (.bipush 48, 2) := by decide +kernel
theorem dX10_isHeld_49 : decode cX10_isHeld 49 = .ok (.iload 4, 2) := by decide +kernel
theorem dX10_isHeld_51 : decode cX10_isHeld 51 = .ok (.imul, 1) := by decide +kernel
theorem dX10_isHeld_52 : decode cX10_isHeld 52 = .ok (.iload_n 1, 1) := by decide +kernel
theorem dX10_isHeld_53 : decode cX10_isHeld 53 = .ok (.iadd, 1) := by decide +kernel
theorem dX10_isHeld_54 : decode cX10_isHeld 54 = .ok (.iaload, 1) := by decide +kernel
theorem dX10_isHeld_55 : decode cX10_isHeld 55 = .ok (.aload_n 0, 1) := by decide +kernel
theorem dX10_isHeld_56 : decode cX10_isHeld 56 = .ok (.getfield 87, 3) := by decide +kernel
theorem dX10_isHeld_59 : decode cX10_isHeld 59 = .ok (.iload_n 1, 1) := by decide +kernel
theorem dX10_isHeld_60 : decode cX10_isHeld 60 = .ok (.iaload, 1) := by decide +kernel
theorem dX10_isHeld_61 : decode cX10_isHeld 61 = .ok (.if_icmp .ne 7, 3) := by decide +kernel
theorem dX10_isHeld_64 : decode cX10_isHeld 64 = .ok (.iconst 1, 1) := by decide +kernel
theorem dX10_isHeld_65 : decode cX10_isHeld 65 = .ok (.goto 4, 3) := by decide +kernel
theorem dX10_isHeld_68 : decode cX10_isHeld 68 = .ok (.iconst 0, 1) := by decide +kernel
theorem dX10_isHeld_69 : decode cX10_isHeld 69 = .ok (.iadd, 1) := by decide +kernel
theorem dX10_isHeld_70 : decode cX10_isHeld 70 = .ok (.istore_n 3, 1) := by decide +kernel
theorem dX10_isHeld_71 : decode cX10_isHeld 71 = .ok (.iinc 4 1, 3) := by decide +kernel
theorem dX10_isHeld_74 : decode cX10_isHeld 74 = .ok (.goto (-67), 3) := by decide +kernel
theorem dX10_isHeld_77 : decode cX10_isHeld 77 = .ok (.iload_n 2, 1) := by decide +kernel
theorem dX10_isHeld_78 : decode cX10_isHeld 78 = .ok (.iconst 1, 1) := by decide +kernel
theorem dX10_isHeld_79 : decode cX10_isHeld 79 = .ok (.if_icmp .ne 16, 3) := by decide +kernel
theorem dX10_isHeld_82 : decode cX10_isHeld 82 = .ok (.iload_n 3, 1) := by decide +kernel
theorem dX10_isHeld_83 : decode cX10_isHeld 83 = .ok (.iconst 1, 1) := by decide +kernel
theorem dX10_isHeld_84 : decode cX10_isHeld 84 = .ok (.if_icmp .ne 7, 3) := by decide +kernel
theorem dX10_isHeld_87 : decode cX10_isHeld 87 = .ok (.iconst 1, 1) := by decide +kernel
theorem dX10_isHeld_88 : decode cX10_isHeld 88 = .ok (.goto 17, 3) := by decide +kernel
theorem dX10_isHeld_91 : decode cX10_isHeld 91 = .ok (.iconst 0, 1) := by decide +kernel
theorem dX10_isHeld_92 : decode cX10_isHeld 92 = .ok (.goto 13, 3) := by decide +kernel
theorem dX10_isHeld_95 : decode cX10_isHeld 95 = .ok (.iload_n 3, 1) := by decide +kernel
theorem dX10_isHeld_96 : decode cX10_isHeld 96 = .ok (.iconst 2, 1) := by decide +kernel
theorem dX10_isHeld_97 : decode cX10_isHeld 97 = .ok (.if_icmp .lt 7, 3) := by decide +kernel
theorem dX10_isHeld_100 : decode cX10_isHeld 100 = .ok (.iconst 1, 1) := by decide +kernel
theorem dX10_isHeld_101 : decode cX10_isHeld 101 = .ok (.goto 4, 3) := by decide +kernel
theorem dX10_isHeld_104 : decode cX10_isHeld 104 = .ok (.iconst 0, 1) := by decide +kernel
theorem dX10_isHeld_105 : decode cX10_isHeld 105 = .ok (.ireturn, 1) := by decide +kernel
theorem dX10_line_0 : decode cX10_line 0 = .ok (.aload_n 0, 1) := by decide +kernel
theorem dX10_line_1 : decode cX10_line 1 = .ok (.iload_n 1, 1) := by decide +kernel
theorem dX10_line_2 : decode cX10_line 2 = .ok (.invokevirtual 224, 3) := by decide +kernel
theorem dX10_line_5 : decode cX10_line 5 = .ok (.ifCond .eq 15, 3) := by decide +kernel
theorem dX10_line_8 : decode cX10_line 8 = .ok (.iload_n 2, 1) := by decide +kernel
theorem dX10_line_9 : decode cX10_line 9 = .ok (.i2l, 1) := by decide +kernel
theorem dX10_line_10 : decode cX10_line 10 = .ok (.lconst 0, 1) := by decide +kernel
theorem dX10_line_11 : decode cX10_line 11 = .ok (.ldc2_w 227, 3) := by decide +kernel
theorem dX10_line_14 : decode cX10_line 14 = .ok (.invokestatic 131, 3) := by decide +kernel
theorem dX10_line_17 : decode cX10_line 17 = .ok (.ifCond .ne 5, 3) := by decide +kernel
theorem dX10_line_20 : decode cX10_line 20 = .ok (.iconst (-1), 1) := by decide +kernel
theorem dX10_line_21 : decode cX10_line 21 = .ok (.ireturn, 1) := by decide +kernel
theorem dX10_line_22 : decode cX10_line 22 = .ok (.aload_n 0, 1) := by decide +kernel
theorem dX10_line_23 : decode cX10_line 23 = .ok (.invokevirtual 229, 3) := by decide +kernel
theorem dX10_line_26 : decode cX10_line 26 = .ok (.iload_n 2, 1) := by decide +kernel
theorem dX10_line_27 : decode cX10_line 27 = .ok (.tableswitch 72 0 3 #[29, 36, 43, 65], 29) := by decide +kernel
theorem dX10_line_56 : decode cX10_line 56 = .ok (.aload_n 0, 1) := by decide +kernel
theorem dX10_line_57 : decode cX10_line 57 = .ok (.getfield 78, 3) := by decide +kernel
theorem dX10_line_60 : decode cX10_line 60 = .ok (.iload_n 1, 1) := by decide +kernel
theorem dX10_line_61 : decode cX10_line 61 = .ok (.iaload, 1) := by decide +kernel
theorem dX10_line_62 : decode cX10_line 62 = .ok (.ireturn, 1) := by decide +kernel
theorem dX10_line_63 : decode cX10_line 63 = .ok (.aload_n 0, 1) := by decide +kernel
theorem dX10_line_64 : decode cX10_line 64 = .ok (.getfield 81, 3) := by decide +kernel
theorem dX10_line_67 : decode cX10_line 67 = .ok (.iload_n 1, 1) := by decide +kernel
theorem dX10_line_68 : decode cX10_line 68 = .ok (.iaload, 1) := by decide +kernel
theorem dX10_line_69 : decode cX10_line 69 = .ok (.ireturn, 1) := by decide +kernel
theorem dX10_line_70 : decode cX10_line 70 = .ok (.aload_n 0, 1) := by decide +kernel
theorem dX10_line_71 : decode cX10_line 71 = .ok (.getfield 78, 3) := by decide +kernel
theorem dX10_line_74 : decode cX10_line 74 = .ok (.iload_n 1, 1) := by decide +kernel
theorem dX10_line_75 : decode cX10_line 75 = .ok (.iaload, 1) := by decide +kernel
theorem dX10_line_76 : decode cX10_line 76 = .ok (.iconst 5, 1) := by decide +kernel
theorem dX10_line_77 : decode cX10_line 77 = .ok (.if_icmp .ne 8, 3) := by decide +kernel
theorem dX10_line_80 : decode cX10_line 80 = .ok (.bipush (-12), 2) := by decide +kernel
theorem dX10_line_82 : decode cX10_line 82 = .ok (.goto 9, 3) := by decide +kernel
theorem dX10_line_85 : decode cX10_line 85 = .ok (.aload_n 0, 1) := by decide +kernel
theorem dX10_line_86 : decode cX10_line 86 = .ok (.getfield 84, 3) := by decide +kernel
theorem dX10_line_89 : decode cX10_line 89 = .ok (.iload_n 1, 1) := by decide +kernel
theorem dX10_line_90 : decode cX10_line 90 = .ok (.iaload, 1) := by decide +kernel
theorem dX10_line_91 : decode cX10_line 91 = .ok (.ireturn, 1) := by decide +kernel
theorem dX10_line_92 : decode cX10_line 92 = .ok (.aload_n 0, 1) := by decide +kernel
theorem dX10_line_93 : decode cX10_line 93 = .ok (.getfield 87, 3) := by decide +kernel
theorem dX10_line_96 : decode cX10_line 96 = .ok (.iload_n 1, 1) := by decide +kernel
theorem dX10_line_97 : decode cX10_line 97 = .ok (.iaload, 1) := by decide +kernel
theorem dX10_line_98 : decode cX10_line 98 = .ok (.ireturn, 1) := by decide +kernel
theorem dX10_line_99 : decode cX10_line 99 = .ok (.aload_n 0, 1) := by decide +kernel
theorem dX10_line_100 : decode cX10_line 100 = .ok (.iload_n 1, 1) := by decide +kernel
theorem dX10_line_101 : decode cX10_line 101 = .ok (.invokevirtual 232, 3) := by decide +kernel
theorem dX10_line_104 : decode cX10_line 104 = .ok (.ifCond .eq 7, 3) := by decide +kernel
theorem dX10_line_107 : decode cX10_line 107 = .ok (.iconst 1, 1) := by decide +kernel
theorem dX10_line_108 : decode cX10_line 108 = .ok (.goto 4, 3) := by decide +kernel
theorem dX10_line_111 : decode cX10_line 111 = .ok (.iconst 0, 1) := by decide +kernel
theorem dX10_line_112 : decode cX10_line 112 = .ok (.ireturn, 1) := by decide +kernel
theorem dX10_mostOf_0 : decode cX10_mostOf 0 = .ok (.iload_n 0, 1) := by decide +kernel
theorem dX10_mostOf_1 : decode cX10_mostOf 1 = .ok (.ifCond .ne 8, 3) := by decide +kernel
theorem dX10_mostOf_4 : decode cX10_mostOf 4 = .ok (.bipush 15, 2) := by decide +kernel
theorem dX10_mostOf_6 : decode cX10_mostOf 6 = .ok (.goto 33, 3) := by decide +kernel
theorem dX10_mostOf_9 : decode cX10_mostOf 9 = .ok (.iload_n 0, 1) := by decide +kernel
theorem dX10_mostOf_10 : decode cX10_mostOf 10 = .ok (.iconst 1, 1) := by decide +kernel
theorem dX10_mostOf_11 : decode cX10_mostOf 11 = .ok (.if_icmp .ne 8, 3) := by decide +kernel
theorem dX10_mostOf_14 : decode cX10_mostOf 14 = .ok (.bipush 8, 2) := by decide +kernel
theorem dX10_mostOf_16 : decode cX10_mostOf 16 = .ok (.goto 23, 3) := by decide +kernel
theorem dX10_mostOf_19 : decode cX10_mostOf 19 = .ok (.iload_n 0, 1) := by decide +kernel
theorem dX10_mostOf_20 : decode cX10_mostOf 20 = .ok (.iconst 2, 1) := by decide +kernel
theorem dX10_mostOf_21 : decode cX10_mostOf 21 = .ok (.if_icmp .ne 7, 3) := by decide +kernel
theorem dX10_mostOf_24 : decode cX10_mostOf 24 = .ok (.iconst 3, 1) := by decide +kernel
theorem dX10_mostOf_25 : decode cX10_mostOf 25 = .ok (.goto 14, 3) := by decide +kernel
theorem dX10_mostOf_28 : decode cX10_mostOf 28 = .ok (.iload_n 0, 1) := by decide +kernel
theorem dX10_mostOf_29 : decode cX10_mostOf 29 = .ok (.iconst 3, 1) := by decide +kernel
theorem dX10_mostOf_30 : decode cX10_mostOf 30 = .ok (.if_icmp .ne 7, 3) := by decide +kernel
theorem dX10_mostOf_33 : decode cX10_mostOf 33 = .ok (.iconst 1, 1) := by decide +kernel
theorem dX10_mostOf_34 : decode cX10_mostOf 34 = .ok (.goto 5, 3) := by decide +kernel
theorem dX10_mostOf_37 : decode cX10_mostOf 37 = .ok (.bipush 99, 2) := by decide +kernel
theorem dX10_mostOf_39 : decode cX10_mostOf 39 = .ok (.ireturn, 1) := by decide +kernel
theorem dX10_forge_0 : decode cX10_forge 0 = .ok (.aload_n 0, 1) := by decide +kernel
theorem dX10_forge_1 : decode cX10_forge 1 = .ok (.iload_n 1, 1) := by decide +kernel
theorem dX10_forge_2 : decode cX10_forge 2 = .ok (.invokevirtual 224, 3) := by decide +kernel
theorem dX10_forge_5 : decode cX10_forge 5 = .ok (.ifCond .eq 22, 3) := by decide +kernel
theorem dX10_forge_8 : decode cX10_forge 8 = .ok (.iload_n 2, 1) := by decide +kernel
theorem dX10_forge_9 : decode cX10_forge 9 = .ok (.i2l, 1) := by decide +kernel
theorem dX10_forge_10 : decode cX10_forge 10 = .ok (.lconst 0, 1) := by decide +kernel
theorem dX10_forge_11 : decode cX10_forge 11 = .ok (.aload_n 0, 1) := by decide +kernel
theorem dX10_forge_12 : decode cX10_forge 12 = .ok (.getfield 78, 3) := by decide +kernel
theorem dX10_forge_15 : decode cX10_forge 15 = .ok (.iload_n 1, 1) := by decide +kernel
theorem dX10_forge_16 : decode cX10_forge 16 = .ok (.iaload, 1) := by decide +kernel
theorem dX10_forge_17 : decode cX10_forge 17 = .ok (.invokestatic 235, 3) := by decide +kernel
theorem dX10_forge_20 : decode cX10_forge 20 = .ok (.i2l, 1) := by decide +kernel
theorem dX10_forge_21 : decode cX10_forge 21 = .ok (.invokestatic 131, 3) := by decide +kernel
theorem dX10_forge_24 : decode cX10_forge 24 = .ok (.ifCond .ne 5, 3) := by decide +kernel
theorem dX10_forge_27 : decode cX10_forge 27 = .ok (.iconst (-1), 1) := by decide +kernel
theorem dX10_forge_28 : decode cX10_forge 28 = .ok (.ireturn, 1) := by decide +kernel
theorem dX10_forge_29 : decode cX10_forge 29 = .ok (.aload_n 0, 1) := by decide +kernel
theorem dX10_forge_30 : decode cX10_forge 30 = .ok (.getfield 78, 3) := by decide +kernel
theorem dX10_forge_33 : decode cX10_forge 33 = .ok (.iload_n 1, 1) := by decide +kernel
theorem dX10_forge_34 : decode cX10_forge 34 = .ok (.iaload, 1) := by decide +kernel
theorem dX10_forge_35 : decode cX10_forge 35 = .ok (.iconst 5, 1) := by decide +kernel
theorem dX10_forge_36 : decode cX10_forge 36 = .ok (.if_icmp .ne 6, 3) := by decide +kernel
theorem dX10_forge_39 : decode cX10_forge 39 = .ok (.bipush (-12), 2) := by decide +kernel
theorem dX10_forge_41 : decode cX10_forge 41 = .ok (.ireturn, 1) := by decide +kernel
theorem dX10_forge_42 : decode cX10_forge 42 = .ok (.aload_n 0, 1) := by decide +kernel
theorem dX10_forge_43 : decode cX10_forge 43 = .ok (.getfield 84, 3) := by decide +kernel
theorem dX10_forge_46 : decode cX10_forge 46 = .ok (.iload_n 1, 1) := by decide +kernel
theorem dX10_forge_47 : decode cX10_forge 47 = .ok (.iaload, 1) := by decide +kernel
theorem dX10_forge_48 : decode cX10_forge 48 = .ok (.istore_n 3, 1) := by decide +kernel
theorem dX10_forge_49 : decode cX10_forge 49 = .ok (.aload_n 0, 1) := by decide +kernel
theorem dX10_forge_50 : decode cX10_forge 50 = .ok (.getfield 84, 3) := by decide +kernel
theorem dX10_forge_53 : decode cX10_forge 53 = .ok (.iload_n 1, 1) := by decide +kernel
theorem dX10_forge_54 : decode cX10_forge 54 = .ok (.iload_n 2, 1) := by decide +kernel
theorem dX10_forge_55 : decode cX10_forge 55 = .ok (.iastore, 1) := by decide +kernel
theorem dX10_forge_56 : decode cX10_forge 56 = .ok (.iload_n 3, 1) := by decide +kernel
theorem dX10_forge_57 : decode cX10_forge 57 = .ok (.ireturn, 1) := by decide +kernel
theorem dX10_moves_0 : decode cX10_moves 0 = .ok (.aload_n 0, 1) := by decide +kernel
theorem dX10_moves_1 : decode cX10_moves 1 = .ok (.getfield 78, 3) := by decide +kernel
theorem dX10_moves_4 : decode cX10_moves 4 = .ok (.iload_n 2, 1) := by decide +kernel
theorem dX10_moves_5 : decode cX10_moves 5 = .ok (.aload_n 0, 1) := by decide +kernel
theorem dX10_moves_6 : decode cX10_moves 6 = .ok (.getfield 78, 3) := by decide +kernel
theorem dX10_moves_9 : decode cX10_moves 9 = .ok (.iload_n 1, 1) := by decide +kernel
theorem dX10_moves_10 : decode cX10_moves 10 = .ok (.iaload, 1) := by decide +kernel
theorem dX10_moves_11 : decode cX10_moves 11 = .ok (.iastore, 1) := by decide +kernel
theorem dX10_moves_12 : decode cX10_moves 12 = .ok (.aload_n 0, 1) := by decide +kernel
theorem dX10_moves_13 : decode cX10_moves 13 = .ok (.getfield 81, 3) := by decide +kernel
theorem dX10_moves_16 : decode cX10_moves 16 = .ok (.iload_n 2, 1) := by decide +kernel
theorem dX10_moves_17 : decode cX10_moves 17 = .ok (.aload_n 0, 1) := by decide +kernel
theorem dX10_moves_18 : decode cX10_moves 18 = .ok (.getfield 81, 3) := by decide +kernel
theorem dX10_moves_21 : decode cX10_moves 21 = .ok (.iload_n 1, 1) := by decide +kernel
theorem dX10_moves_22 : decode cX10_moves 22 = .ok (.iaload, 1) := by decide +kernel
theorem dX10_moves_23 : decode cX10_moves 23 = .ok (.iastore, 1) := by decide +kernel
theorem dX10_moves_24 : decode cX10_moves 24 = .ok (.aload_n 0, 1) := by decide +kernel
theorem dX10_moves_25 : decode cX10_moves 25 = .ok (.getfield 84, 3) := by decide +kernel
theorem dX10_moves_28 : decode cX10_moves 28 = .ok (.iload_n 2, 1) := by decide +kernel
theorem dX10_moves_29 : decode cX10_moves 29 = .ok (.aload_n 0, 1) := by decide +kernel
theorem dX10_moves_30 : decode cX10_moves 30 = .ok (.getfield 84, 3) := by decide +kernel
theorem dX10_moves_33 : decode cX10_moves 33 = .ok (.iload_n 1, 1) := by decide +kernel
theorem dX10_moves_34 : decode cX10_moves 34 = .ok (.iaload, 1) := by decide +kernel
theorem dX10_moves_35 : decode cX10_moves 35 = .ok (.iastore, 1) := by decide +kernel
theorem dX10_moves_36 : decode cX10_moves 36 = .ok (.return_, 1) := by decide +kernel
theorem dX10_swap_0 : decode cX10_swap 0 = .ok (.aload_n 0, 1) := by decide +kernel
theorem dX10_swap_1 : decode cX10_swap 1 = .ok (.iload_n 1, 1) := by decide +kernel
theorem dX10_swap_2 : decode cX10_swap 2 = .ok (.invokevirtual 224, 3) := by decide +kernel
theorem dX10_swap_5 : decode cX10_swap 5 = .ok (.ifCond .eq 16, 3) := by decide +kernel
theorem dX10_swap_8 : decode cX10_swap 8 = .ok (.aload_n 0, 1) := by decide +kernel
theorem dX10_swap_9 : decode cX10_swap 9 = .ok (.iload_n 2, 1) := by decide +kernel
theorem dX10_swap_10 : decode cX10_swap 10 = .ok (.invokevirtual 224, 3) := by decide +kernel
theorem dX10_swap_13 : decode cX10_swap 13 = .ok (.ifCond .eq 8, 3) := by decide +kernel
theorem dX10_swap_16 : decode cX10_swap 16 = .ok (.iload_n 1, 1) := by decide +kernel
theorem dX10_swap_17 : decode cX10_swap 17 = .ok (.iload_n 2, 1) := by decide +kernel
theorem dX10_swap_18 : decode cX10_swap 18 = .ok (.if_icmp .ne 5, 3) := by decide +kernel
theorem dX10_swap_21 : decode cX10_swap 21 = .ok (.iconst (-1), 1) := by decide +kernel
theorem dX10_swap_22 : decode cX10_swap 22 = .ok (.ireturn, 1) := by decide +kernel
theorem dX10_swap_23 : decode cX10_swap 23 = .ok (.aload_n 0, 1) := by decide +kernel
theorem dX10_swap_24 : decode cX10_swap 24 = .ok (.getfield 78, 3) := by decide +kernel
theorem dX10_swap_27 : decode cX10_swap 27 = .ok (.iload_n 1, 1) := by decide +kernel
theorem dX10_swap_28 : decode cX10_swap 28 = .ok (.iaload, 1) := by decide +kernel
theorem dX10_swap_29 : decode cX10_swap 29 = .ok (.istore_n 3, 1) := by decide +kernel
theorem dX10_swap_30 : decode cX10_swap 30 = .ok (.aload_n 0, 1) := by decide +kernel
theorem dX10_swap_31 : decode cX10_swap 31 = .ok (.getfield 81, 3) := by decide +kernel
theorem dX10_swap_34 : decode cX10_swap 34 = .ok (.iload_n 1, 1) := by decide +kernel
theorem dX10_swap_35 : decode cX10_swap 35 = .ok (.iaload, 1) := by decide +kernel
theorem dX10_swap_36 : decode cX10_swap 36 = .ok (.istore 4, 2) := by decide +kernel
theorem dX10_swap_38 : decode cX10_swap 38 = .ok (.aload_n 0, 1) := by decide +kernel
theorem dX10_swap_39 : decode cX10_swap 39 = .ok (.getfield 84, 3) := by decide +kernel
theorem dX10_swap_42 : decode cX10_swap 42 = .ok (.iload_n 1, 1) := by decide +kernel
theorem dX10_swap_43 : decode cX10_swap 43 = .ok (.iaload, 1) := by decide +kernel
theorem dX10_swap_44 : decode cX10_swap 44 = .ok (.istore 5, 2) := by decide +kernel
theorem dX10_swap_46 : decode cX10_swap 46 = .ok (.aload_n 0, 1) := by decide +kernel
theorem dX10_swap_47 : decode cX10_swap 47 = .ok (.iload_n 2, 1) := by decide +kernel
theorem dX10_swap_48 : decode cX10_swap 48 = .ok (.iload_n 1, 1) := by decide +kernel
theorem dX10_swap_49 : decode cX10_swap 49 = .ok (.invokevirtual 239, 3) := by decide +kernel
theorem dX10_swap_52 : decode cX10_swap 52 = .ok (.aload_n 0, 1) := by decide +kernel
theorem dX10_swap_53 : decode cX10_swap 53 = .ok (.getfield 78, 3) := by decide +kernel
theorem dX10_swap_56 : decode cX10_swap 56 = .ok (.iload_n 2, 1) := by decide +kernel
theorem dX10_swap_57 : decode cX10_swap 57 = .ok (.iload_n 3, 1) := by decide +kernel
theorem dX10_swap_58 : decode cX10_swap 58 = .ok (.iastore, 1) := by decide +kernel
theorem dX10_swap_59 : decode cX10_swap 59 = .ok (.aload_n 0, 1) := by decide +kernel
theorem dX10_swap_60 : decode cX10_swap 60 = .ok (.getfield 81, 3) := by decide +kernel
theorem dX10_swap_63 : decode cX10_swap 63 = .ok (.iload_n 2, 1) := by decide +kernel
theorem dX10_swap_64 : decode cX10_swap 64 = .ok (.iload 4, 2) := by decide +kernel
theorem dX10_swap_66 : decode cX10_swap 66 = .ok (.iastore, 1) := by decide +kernel
theorem dX10_swap_67 : decode cX10_swap 67 = .ok (.aload_n 0, 1) := by decide +kernel
theorem dX10_swap_68 : decode cX10_swap 68 = .ok (.getfield 84, 3) := by decide +kernel
theorem dX10_swap_71 : decode cX10_swap 71 = .ok (.iload_n 2, 1) := by decide +kernel
theorem dX10_swap_72 : decode cX10_swap 72 = .ok (.iload 5, 2) := by decide +kernel
theorem dX10_swap_74 : decode cX10_swap 74 = .ok (.iastore, 1) := by decide +kernel
theorem dX10_swap_75 : decode cX10_swap 75 = .ok (.iconst 1, 1) := by decide +kernel
theorem dX10_swap_76 : decode cX10_swap 76 = .ok (.ireturn, 1) := by decide +kernel
theorem dX10_tear_0 : decode cX10_tear 0 = .ok (.aload_n 0, 1) := by decide +kernel
theorem dX10_tear_1 : decode cX10_tear 1 = .ok (.iload_n 1, 1) := by decide +kernel
theorem dX10_tear_2 : decode cX10_tear 2 = .ok (.invokevirtual 224, 3) := by decide +kernel
theorem dX10_tear_5 : decode cX10_tear 5 = .ok (.ifCond .ne 5, 3) := by decide +kernel
theorem dX10_tear_8 : decode cX10_tear 8 = .ok (.iconst (-1), 1) := by decide +kernel
theorem dX10_tear_9 : decode cX10_tear 9 = .ok (.ireturn, 1) := by decide +kernel
theorem dX10_tear_10 : decode cX10_tear 10 = .ok (.iload_n 1, 1) := by decide +kernel
theorem dX10_tear_11 : decode cX10_tear 11 = .ok (.istore_n 2, 1) := by decide +kernel
theorem dX10_tear_12 : decode cX10_tear 12 = .ok (.iload_n 2, 1) := by decide +kernel
theorem dX10_tear_13 : decode cX10_tear 13 = .ok (.iconst 1, 1) := by decide +kernel
theorem dX10_tear_14 : decode cX10_tear 14 = .ok (.iadd, 1) := by decide +kernel
theorem dX10_tear_15 : decode cX10_tear 15 = .ok (.aload_n 0, 1) := by decide +kernel
theorem dX10_tear_16 : decode cX10_tear 16 = .ok (.getfield 209, 3) := by decide +kernel
theorem dX10_tear_19 : decode cX10_tear 19 = .ok (.if_icmp .ge 17, 3) := by decide +kernel
theorem dX10_tear_22 : decode cX10_tear 22 = .ok (.aload_n 0, 1) := by decide +kernel
theorem dX10_tear_23 : decode cX10_tear 23 = .ok (.iload_n 2, 1) := by decide +kernel
theorem dX10_tear_24 : decode cX10_tear 24 = .ok (.iconst 1, 1) := by decide +kernel
theorem dX10_tear_25 : decode cX10_tear 25 = .ok (.iadd, 1) := by decide +kernel
theorem dX10_tear_26 : decode cX10_tear 26 = .ok (.iload_n 2, 1) := by decide +kernel
theorem dX10_tear_27 : decode cX10_tear 27 = .ok (.invokevirtual 239, 3) := by decide +kernel
theorem dX10_tear_30 : decode cX10_tear 30 = .ok (.iinc 2 1, 3) := by decide +kernel
theorem dX10_tear_33 : decode cX10_tear 33 = .ok (.goto (-21), 3) := by decide +kernel
theorem dX10_tear_36 : decode cX10_tear 36 = .ok (.aload_n 0, 1) := by decide +kernel
theorem dX10_tear_37 : decode cX10_tear 37 = .ok (.dup, 1) := by decide +kernel
theorem dX10_tear_38 : decode cX10_tear 38 = .ok (.getfield 209, 3) := by decide +kernel
theorem dX10_tear_41 : decode cX10_tear 41 = .ok (.iconst 1, 1) := by decide +kernel
theorem dX10_tear_42 : decode cX10_tear 42 = .ok (.isub, 1) := by decide +kernel
theorem dX10_tear_43 : decode cX10_tear 43 = .ok (.putfield 209, 3) := by decide +kernel
theorem dX10_tear_46 : decode cX10_tear 46 = .ok (.aload_n 0, 1) := by decide +kernel
theorem dX10_tear_47 : decode cX10_tear 47 = .ok (.getfield 209, 3) := by decide +kernel
theorem dX10_tear_50 : decode cX10_tear 50 = .ok (.ireturn, 1) := by decide +kernel
theorem dX10_give_0 : decode cX10_give 0 = .ok (.iload_n 1, 1) := by decide +kernel
theorem dX10_give_1 : decode cX10_give 1 = .ok (.i2l, 1) := by decide +kernel
theorem dX10_give_2 : decode cX10_give 2 = .ok (.lconst 0, 1) := by decide +kernel
theorem dX10_give_3 : decode cX10_give 3 = .ok (.ldc2_w 180, 3) := by decide +kernel
theorem dX10_give_6 : decode cX10_give 6 = .ok (.invokestatic 131, 3) := by decide +kernel
theorem dX10_give_9 : decode cX10_give 9 = .ok (.ifCond .ne 5, 3) := by decide +kernel
theorem dX10_give_12 : decode cX10_give 12 = .ok (.iconst (-1), 1) := by decide +kernel
theorem dX10_give_13 : decode cX10_give 13 = .ok (.ireturn, 1) := by decide +kernel
theorem dX10_give_14 : decode cX10_give 14 = .ok (.aload_n 0, 1) := by decide +kernel
theorem dX10_give_15 : decode cX10_give 15 = .ok (.invokevirtual 229, 3) := by decide +kernel
theorem dX10_give_18 : decode cX10_give 18 = .ok (.iconst 0, 1) := by decide +kernel
theorem dX10_give_19 : decode cX10_give 19 = .ok (.istore_n 2, 1) := by decide +kernel
theorem dX10_give_20 : decode cX10_give 20 = .ok (.iload_n 2, 1) := by decide +kernel
theorem dX10_give_21 : decode cX10_give 21 = .ok (.aload_n 0, 1) := by decide +kernel
theorem dX10_give_22 : decode cX10_give 22 = .ok (.getfield 209, 3) := by decide +kernel
theorem dX10_give_25 : decode cX10_give 25 = .ok (.if_icmp .ge 26, 3) := by decide +kernel
theorem dX10_give_28 : decode cX10_give 28 = .ok (.aload_n 0, 1) := by decide +kernel
end
section
theorem dX10_give_29 : decode cX10_give 29 = .ok (.getfield 93, 3) := by decide +kernel
theorem dX10_give_32 : decode cX10_give 32 = .ok (.bipush 48, 2) := by decide +kernel
theorem dX10_give_34 : decode cX10_give 34 = .ok (.iload_n 1, 1) := by decide +kernel
theorem dX10_give_35 : decode cX10_give 35 = .ok (.imul, 1) := by decide +kernel
theorem dX10_give_36 : decode cX10_give 36 = .ok (.iload_n 2, 1) := by decide +kernel
theorem dX10_give_37 : decode cX10_give 37 = .ok (.iadd, 1) := by decide +kernel
theorem dX10_give_38 : decode cX10_give 38 = .ok (.aload_n 0, 1) := by decide +kernel
theorem dX10_give_39 : decode cX10_give 39 = .ok (.getfield 87, 3) := by decide +kernel
theorem dX10_give_42 : decode cX10_give 42 = .ok (.iload_n 2, 1) := by decide +kernel
theorem dX10_give_43 : decode cX10_give 43 = .ok (.iaload, 1) := by decide +kernel
theorem dX10_give_44 : decode cX10_give 44 = .ok (.iastore, 1) := by decide +kernel
theorem dX10_give_45 : decode cX10_give 45 = .ok (.iinc 2 1, 3) := by decide +kernel
theorem dX10_give_48 : decode cX10_give 48 = .ok (.goto (-28), 3) := by decide +kernel
theorem dX10_give_51 : decode cX10_give 51 = .ok (.aload_n 0, 1) := by decide +kernel
theorem dX10_give_52 : decode cX10_give 52 = .ok (.getfield 90, 3) := by decide +kernel
theorem dX10_give_55 : decode cX10_give 55 = .ok (.iload_n 1, 1) := by decide +kernel
theorem dX10_give_56 : decode cX10_give 56 = .ok (.aload_n 0, 1) := by decide +kernel
theorem dX10_give_57 : decode cX10_give 57 = .ok (.getfield 209, 3) := by decide +kernel
theorem dX10_give_60 : decode cX10_give 60 = .ok (.iastore, 1) := by decide +kernel
theorem dX10_give_61 : decode cX10_give 61 = .ok (.aload_n 0, 1) := by decide +kernel
theorem dX10_give_62 : decode cX10_give 62 = .ok (.getfield 209, 3) := by decide +kernel
theorem dX10_give_65 : decode cX10_give 65 = .ok (.ireturn, 1) := by decide +kernel
theorem dX10_kept_0 : decode cX10_kept 0 = .ok (.iload_n 1, 1) := by decide +kernel
theorem dX10_kept_1 : decode cX10_kept 1 = .ok (.i2l, 1) := by decide +kernel
theorem dX10_kept_2 : decode cX10_kept 2 = .ok (.lconst 0, 1) := by decide +kernel
theorem dX10_kept_3 : decode cX10_kept 3 = .ok (.ldc2_w 180, 3) := by decide +kernel
theorem dX10_kept_6 : decode cX10_kept 6 = .ok (.invokestatic 131, 3) := by decide +kernel
theorem dX10_kept_9 : decode cX10_kept 9 = .ok (.ifCond .eq 15, 3) := by decide +kernel
theorem dX10_kept_12 : decode cX10_kept 12 = .ok (.iload_n 2, 1) := by decide +kernel
theorem dX10_kept_13 : decode cX10_kept 13 = .ok (.i2l, 1) := by decide +kernel
theorem dX10_kept_14 : decode cX10_kept 14 = .ok (.lconst 0, 1) := by decide +kernel
theorem dX10_kept_15 : decode cX10_kept 15 = .ok (.ldc2_w 242, 3) := by decide +kernel
theorem dX10_kept_18 : decode cX10_kept 18 = .ok (.invokestatic 131, 3) := by decide +kernel
theorem dX10_kept_21 : decode cX10_kept 21 = .ok (.ifCond .ne 5, 3) := by decide +kernel
theorem dX10_kept_24 : decode cX10_kept 24 = .ok (.iconst (-1), 1) := by decide +kernel
theorem dX10_kept_25 : decode cX10_kept 25 = .ok (.ireturn, 1) := by decide +kernel
theorem dX10_kept_26 : decode cX10_kept 26 = .ok (.iload_n 2, 1) := by decide +kernel
theorem dX10_kept_27 : decode cX10_kept 27 = .ok (.aload_n 0, 1) := by decide +kernel
theorem dX10_kept_28 : decode cX10_kept 28 = .ok (.getfield 90, 3) := by decide +kernel
theorem dX10_kept_31 : decode cX10_kept 31 = .ok (.iload_n 1, 1) := by decide +kernel
theorem dX10_kept_32 : decode cX10_kept 32 = .ok (.iaload, 1) := by decide +kernel
theorem dX10_kept_33 : decode cX10_kept 33 = .ok (.if_icmp .ge 17, 3) := by decide +kernel
theorem dX10_kept_36 : decode cX10_kept 36 = .ok (.aload_n 0, 1) := by decide +kernel
theorem dX10_kept_37 : decode cX10_kept 37 = .ok (.getfield 93, 3) := by decide +kernel
theorem dX10_kept_40 : decode cX10_kept 40 = .ok (.bipush 48, 2) := by decide +kernel
theorem dX10_kept_42 : decode cX10_kept 42 = .ok (.iload_n 1, 1) := by decide +kernel
theorem dX10_kept_43 : decode cX10_kept 43 = .ok (.imul, 1) := by decide +kernel
theorem dX10_kept_44 : decode cX10_kept 44 = .ok (.iload_n 2, 1) := by decide +kernel
theorem dX10_kept_45 : decode cX10_kept 45 = .ok (.iadd, 1) := by decide +kernel
theorem dX10_kept_46 : decode cX10_kept 46 = .ok (.iaload, 1) := by decide +kernel
theorem dX10_kept_47 : decode cX10_kept 47 = .ok (.goto 5, 3) := by decide +kernel
theorem dX10_kept_50 : decode cX10_kept 50 = .ok (.bipush (-4), 2) := by decide +kernel
theorem dX10_kept_52 : decode cX10_kept 52 = .ok (.ireturn, 1) := by decide +kernel
theorem dX10_torn_0 : decode cX10_torn 0 = .ok (.aload_n 0, 1) := by decide +kernel
theorem dX10_torn_1 : decode cX10_torn 1 = .ok (.getfield 90, 3) := by decide +kernel
theorem dX10_torn_4 : decode cX10_torn 4 = .ok (.iconst 0, 1) := by decide +kernel
theorem dX10_torn_5 : decode cX10_torn 5 = .ok (.iaload, 1) := by decide +kernel
theorem dX10_torn_6 : decode cX10_torn 6 = .ok (.aload_n 0, 1) := by decide +kernel
theorem dX10_torn_7 : decode cX10_torn 7 = .ok (.getfield 90, 3) := by decide +kernel
theorem dX10_torn_10 : decode cX10_torn 10 = .ok (.iconst 1, 1) := by decide +kernel
theorem dX10_torn_11 : decode cX10_torn 11 = .ok (.iaload, 1) := by decide +kernel
theorem dX10_torn_12 : decode cX10_torn 12 = .ok (.iadd, 1) := by decide +kernel
theorem dX10_torn_13 : decode cX10_torn 13 = .ok (.aload_n 0, 1) := by decide +kernel
theorem dX10_torn_14 : decode cX10_torn 14 = .ok (.getfield 90, 3) := by decide +kernel
theorem dX10_torn_17 : decode cX10_torn 17 = .ok (.iconst 2, 1) := by decide +kernel
theorem dX10_torn_18 : decode cX10_torn 18 = .ok (.iaload, 1) := by decide +kernel
theorem dX10_torn_19 : decode cX10_torn 19 = .ok (.iadd, 1) := by decide +kernel
theorem dX10_torn_20 : decode cX10_torn 20 = .ok (.ifCond .ne 6, 3) := by decide +kernel
theorem dX10_torn_23 : decode cX10_torn 23 = .ok (.bipush (-2), 2) := by decide +kernel
theorem dX10_torn_25 : decode cX10_torn 25 = .ok (.ireturn, 1) := by decide +kernel
theorem dX10_torn_26 : decode cX10_torn 26 = .ok (.aload_n 0, 1) := by decide +kernel
theorem dX10_torn_27 : decode cX10_torn 27 = .ok (.invokevirtual 229, 3) := by decide +kernel
theorem dX10_torn_30 : decode cX10_torn 30 = .ok (.iconst 0, 1) := by decide +kernel
theorem dX10_torn_31 : decode cX10_torn 31 = .ok (.istore_n 1, 1) := by decide +kernel
theorem dX10_torn_32 : decode cX10_torn 32 = .ok (.iload_n 1, 1) := by decide +kernel
theorem dX10_torn_33 : decode cX10_torn 33 = .ok (.aload_n 0, 1) := by decide +kernel
theorem dX10_torn_34 : decode cX10_torn 34 = .ok (.getfield 209, 3) := by decide +kernel
theorem dX10_torn_37 : decode cX10_torn 37 = .ok (.if_icmp .ge 19, 3) := by decide +kernel
theorem dX10_torn_40 : decode cX10_torn 40 = .ok (.aload_n 0, 1) := by decide +kernel
theorem dX10_torn_41 : decode cX10_torn 41 = .ok (.iload_n 1, 1) := by decide +kernel
theorem dX10_torn_42 : decode cX10_torn 42 = .ok (.invokevirtual 232, 3) := by decide +kernel
theorem dX10_torn_45 : decode cX10_torn 45 = .ok (.ifCond .ne 5, 3) := by decide +kernel
theorem dX10_torn_48 : decode cX10_torn 48 = .ok (.iload_n 1, 1) := by decide +kernel
theorem dX10_torn_49 : decode cX10_torn 49 = .ok (.ireturn, 1) := by decide +kernel
theorem dX10_torn_50 : decode cX10_torn 50 = .ok (.iinc 1 1, 3) := by decide +kernel
theorem dX10_torn_53 : decode cX10_torn 53 = .ok (.goto (-21), 3) := by decide +kernel
theorem dX10_torn_56 : decode cX10_torn 56 = .ok (.bipush (-4), 2) := by decide +kernel
theorem dX10_torn_58 : decode cX10_torn 58 = .ok (.ireturn, 1) := by decide +kernel
theorem dX10_differs_0 : decode cX10_differs 0 = .ok (.aload_n 0, 1) := by decide +kernel
theorem dX10_differs_1 : decode cX10_differs 1 = .ok (.invokevirtual 200, 3) := by decide +kernel
theorem dX10_differs_4 : decode cX10_differs 4 = .ok (.aload_n 0, 1) := by decide +kernel
theorem dX10_differs_5 : decode cX10_differs 5 = .ok (.getfield 209, 3) := by decide +kernel
theorem dX10_differs_8 : decode cX10_differs 8 = .ok (.iconst 1, 1) := by decide +kernel
theorem dX10_differs_9 : decode cX10_differs 9 = .ok (.isub, 1) := by decide +kernel
theorem dX10_differs_10 : decode cX10_differs 10 = .ok (.istore_n 1, 1) := by decide +kernel
theorem dX10_differs_11 : decode cX10_differs 11 = .ok (.iload_n 1, 1) := by decide +kernel
theorem dX10_differs_12 : decode cX10_differs 12 = .ok (.ifCond .lt 65, 3) := by decide +kernel
theorem dX10_differs_15 : decode cX10_differs 15 = .ok (.aload_n 0, 1) := by decide +kernel
theorem dX10_differs_16 : decode cX10_differs 16 = .ok (.getfield 78, 3) := by decide +kernel
theorem dX10_differs_19 : decode cX10_differs 19 = .ok (.iload_n 1, 1) := by decide +kernel
theorem dX10_differs_20 : decode cX10_differs 20 = .ok (.iaload, 1) := by decide +kernel
theorem dX10_differs_21 : decode cX10_differs 21 = .ok (.ifCond .ne 23, 3) := by decide +kernel
theorem dX10_differs_24 : decode cX10_differs 24 = .ok (.aload_n 0, 1) := by decide +kernel
theorem dX10_differs_25 : decode cX10_differs 25 = .ok (.getfield 63, 3) := by decide +kernel
theorem dX10_differs_28 : decode cX10_differs 28 = .ok (.aload_n 0, 1) := by decide +kernel
theorem dX10_differs_29 : decode cX10_differs 29 = .ok (.getfield 81, 3) := by decide +kernel
theorem dX10_differs_32 : decode cX10_differs 32 = .ok (.iload_n 1, 1) := by decide +kernel
theorem dX10_differs_33 : decode cX10_differs 33 = .ok (.iaload, 1) := by decide +kernel
theorem dX10_differs_34 : decode cX10_differs 34 = .ok (.aload_n 0, 1) := by decide +kernel
theorem dX10_differs_35 : decode cX10_differs 35 = .ok (.getfield 84, 3) := by decide +kernel
theorem dX10_differs_38 : decode cX10_differs 38 = .ok (.iload_n 1, 1) := by decide +kernel
theorem dX10_differs_39 : decode cX10_differs 39 = .ok (.iaload, 1) := by decide +kernel
theorem dX10_differs_40 : decode cX10_differs 40 = .ok (.iastore, 1) := by decide +kernel
theorem dX10_differs_41 : decode cX10_differs 41 = .ok (.goto 30, 3) := by decide +kernel
theorem dX10_differs_44 : decode cX10_differs 44 = .ok (.aload_n 0, 1) := by decide +kernel
theorem dX10_differs_45 : decode cX10_differs 45 = .ok (.getfield 78, 3) := by decide +kernel
theorem dX10_differs_48 : decode cX10_differs 48 = .ok (.iload_n 1, 1) := by decide +kernel
theorem dX10_differs_49 : decode cX10_differs 49 = .ok (.iaload, 1) := by decide +kernel
theorem dX10_differs_50 : decode cX10_differs 50 = .ok (.iconst 3, 1) := by decide +kernel
theorem dX10_differs_51 : decode cX10_differs 51 = .ok (.if_icmp .ne 20, 3) := by decide +kernel
theorem dX10_differs_54 : decode cX10_differs 54 = .ok (.aload_n 0, 1) := by decide +kernel
theorem dX10_differs_55 : decode cX10_differs 55 = .ok (.getfield 66, 3) := by decide +kernel
theorem dX10_differs_58 : decode cX10_differs 58 = .ok (.aload_n 0, 1) := by decide +kernel
theorem dX10_differs_59 : decode cX10_differs 59 = .ok (.getfield 81, 3) := by decide +kernel
theorem dX10_differs_62 : decode cX10_differs 62 = .ok (.iload_n 1, 1) := by decide +kernel
theorem dX10_differs_63 : decode cX10_differs 63 = .ok (.iaload, 1) := by decide +kernel
theorem dX10_differs_64 : decode cX10_differs 64 = .ok (.aload_n 0, 1) := by decide +kernel
theorem dX10_differs_65 : decode cX10_differs 65 = .ok (.getfield 84, 3) := by decide +kernel
theorem dX10_differs_68 : decode cX10_differs 68 = .ok (.iload_n 1, 1) := by decide +kernel
theorem dX10_differs_69 : decode cX10_differs 69 = .ok (.iaload, 1) := by decide +kernel
theorem dX10_differs_70 : decode cX10_differs 70 = .ok (.iastore, 1) := by decide +kernel
theorem dX10_differs_71 : decode cX10_differs 71 = .ok (.iinc 1 (-1), 3) := by decide +kernel
theorem dX10_differs_74 : decode cX10_differs 74 = .ok (.goto (-63), 3) := by decide +kernel
theorem dX10_differs_77 : decode cX10_differs 77 = .ok (.aload_n 0, 1) := by decide +kernel
theorem dX10_differs_78 : decode cX10_differs 78 = .ok (.iconst 0, 1) := by decide +kernel
theorem dX10_differs_79 : decode cX10_differs 79 = .ok (.iconst 0, 1) := by decide +kernel
theorem dX10_differs_80 : decode cX10_differs 80 = .ok (.invokevirtual 203, 3) := by decide +kernel
theorem dX10_differs_83 : decode cX10_differs 83 = .ok (.iconst 0, 1) := by decide +kernel
theorem dX10_differs_84 : decode cX10_differs 84 = .ok (.istore_n 1, 1) := by decide +kernel
theorem dX10_differs_85 : decode cX10_differs 85 = .ok (.iload_n 1, 1) := by decide +kernel
theorem dX10_differs_86 : decode cX10_differs 86 = .ok (.aload_n 0, 1) := by decide +kernel
theorem dX10_differs_87 : decode cX10_differs 87 = .ok (.getfield 209, 3) := by decide +kernel
theorem dX10_differs_90 : decode cX10_differs 90 = .ok (.if_icmp .ge 94, 3) := by decide +kernel
theorem dX10_differs_93 : decode cX10_differs 93 = .ok (.aload_n 0, 1) := by decide +kernel
theorem dX10_differs_94 : decode cX10_differs 94 = .ok (.getfield 81, 3) := by decide +kernel
theorem dX10_differs_97 : decode cX10_differs 97 = .ok (.iload_n 1, 1) := by decide +kernel
theorem dX10_differs_98 : decode cX10_differs 98 = .ok (.iaload, 1) := by decide +kernel
theorem dX10_differs_99 : decode cX10_differs 99 = .ok (.istore_n 2, 1) := by decide +kernel
theorem dX10_differs_100 : decode cX10_differs 100 = .ok (.aload_n 0, 1) := by decide +kernel
theorem dX10_differs_101 : decode cX10_differs 101 = .ok (.getfield 78, 3) := by decide +kernel
theorem dX10_differs_104 : decode cX10_differs 104 = .ok (.iload_n 1, 1) := by decide +kernel
theorem dX10_differs_105 : decode cX10_differs 105 = .ok (.iaload, 1) := by decide +kernel
theorem dX10_differs_106 : decode cX10_differs 106 = .ok (.iconst 1, 1) := by decide +kernel
theorem dX10_differs_107 : decode cX10_differs 107 = .ok (.if_icmp .ne 30, 3) := by decide +kernel
theorem dX10_differs_110 : decode cX10_differs 110 = .ok (.iload_n 2, 1) := by decide +kernel
theorem dX10_differs_111 : decode cX10_differs 111 = .ok (.aload_n 0, 1) := by decide +kernel
theorem dX10_differs_112 : decode cX10_differs 112 = .ok (.getfield 50, 3) := by decide +kernel
theorem dX10_differs_115 : decode cX10_differs 115 = .ok (.if_icmp .ge 22, 3) := by decide +kernel
theorem dX10_differs_118 : decode cX10_differs 118 = .ok (.aload_n 0, 1) := by decide +kernel
theorem dX10_differs_119 : decode cX10_differs 119 = .ok (.getfield 84, 3) := by decide +kernel
theorem dX10_differs_122 : decode cX10_differs 122 = .ok (.iload_n 1, 1) := by decide +kernel
theorem dX10_differs_123 : decode cX10_differs 123 = .ok (.iaload, 1) := by decide +kernel
theorem dX10_differs_124 : decode cX10_differs 124 = .ok (.aload_n 0, 1) := by decide +kernel
theorem dX10_differs_125 : decode cX10_differs 125 = .ok (.getfield 72, 3) := by decide +kernel
theorem dX10_differs_128 : decode cX10_differs 128 = .ok (.iload_n 2, 1) := by decide +kernel
theorem dX10_differs_129 : decode cX10_differs 129 = .ok (.iaload, 1) := by decide +kernel
theorem dX10_differs_130 : decode cX10_differs 130 = .ok (.if_icmp .eq 7, 3) := by decide +kernel
theorem dX10_differs_133 : decode cX10_differs 133 = .ok (.iconst 1, 1) := by decide +kernel
theorem dX10_differs_134 : decode cX10_differs 134 = .ok (.goto 4, 3) := by decide +kernel
theorem dX10_differs_137 : decode cX10_differs 137 = .ok (.iconst 0, 1) := by decide +kernel
theorem dX10_differs_138 : decode cX10_differs 138 = .ok (.istore_n 3, 1) := by decide +kernel
theorem dX10_differs_139 : decode cX10_differs 139 = .ok (.iload_n 3, 1) := by decide +kernel
theorem dX10_differs_140 : decode cX10_differs 140 = .ok (.ifCond .ne 36, 3) := by decide +kernel
theorem dX10_differs_143 : decode cX10_differs 143 = .ok (.aload_n 0, 1) := by decide +kernel
theorem dX10_differs_144 : decode cX10_differs 144 = .ok (.getfield 78, 3) := by decide +kernel
theorem dX10_differs_147 : decode cX10_differs 147 = .ok (.iload_n 1, 1) := by decide +kernel
theorem dX10_differs_148 : decode cX10_differs 148 = .ok (.iaload, 1) := by decide +kernel
theorem dX10_differs_149 : decode cX10_differs 149 = .ok (.iconst 2, 1) := by decide +kernel
theorem dX10_differs_150 : decode cX10_differs 150 = .ok (.if_icmp .ne 28, 3) := by decide +kernel
theorem dX10_differs_153 : decode cX10_differs 153 = .ok (.iload_n 2, 1) := by decide +kernel
theorem dX10_differs_154 : decode cX10_differs 154 = .ok (.aload_n 0, 1) := by decide +kernel
theorem dX10_differs_155 : decode cX10_differs 155 = .ok (.getfield 50, 3) := by decide +kernel
theorem dX10_differs_158 : decode cX10_differs 158 = .ok (.if_icmp .ge 20, 3) := by decide +kernel
theorem dX10_differs_161 : decode cX10_differs 161 = .ok (.aload_n 0, 1) := by decide +kernel
theorem dX10_differs_162 : decode cX10_differs 162 = .ok (.getfield 84, 3) := by decide +kernel
theorem dX10_differs_165 : decode cX10_differs 165 = .ok (.iload_n 1, 1) := by decide +kernel
theorem dX10_differs_166 : decode cX10_differs 166 = .ok (.iaload, 1) := by decide +kernel
theorem dX10_differs_167 : decode cX10_differs 167 = .ok (.aload_n 0, 1) := by decide +kernel
theorem dX10_differs_168 : decode cX10_differs 168 = .ok (.getfield 75, 3) := by decide +kernel
theorem dX10_differs_171 : decode cX10_differs 171 = .ok (.iload_n 2, 1) := by decide +kernel
theorem dX10_differs_172 : decode cX10_differs 172 = .ok (.iaload, 1) := by decide +kernel
theorem dX10_differs_173 : decode cX10_differs 173 = .ok (.if_icmp .eq 5, 3) := by decide +kernel
theorem dX10_differs_176 : decode cX10_differs 176 = .ok (.iload_n 1, 1) := by decide +kernel
theorem dX10_differs_177 : decode cX10_differs 177 = .ok (.ireturn, 1) := by decide +kernel
theorem dX10_differs_178 : decode cX10_differs 178 = .ok (.iinc 1 1, 3) := by decide +kernel
theorem dX10_differs_181 : decode cX10_differs 181 = .ok (.goto (-96), 3) := by decide +kernel
theorem dX10_differs_184 : decode cX10_differs 184 = .ok (.bipush (-4), 2) := by decide +kernel
theorem dX10_differs_186 : decode cX10_differs 186 = .ok (.ireturn, 1) := by decide +kernel
theorem dX10_count_0 : decode cX10_count 0 = .ok (.iconst 0, 1) := by decide +kernel
theorem dX10_count_1 : decode cX10_count 1 = .ok (.istore_n 2, 1) := by decide +kernel
theorem dX10_count_2 : decode cX10_count 2 = .ok (.iconst 0, 1) := by decide +kernel
theorem dX10_count_3 : decode cX10_count 3 = .ok (.istore_n 3, 1) := by decide +kernel
theorem dX10_count_4 : decode cX10_count 4 = .ok (.iload_n 3, 1) := by decide +kernel
theorem dX10_count_5 : decode cX10_count 5 = .ok (.aload_n 0, 1) := by decide +kernel
theorem dX10_count_6 : decode cX10_count 6 = .ok (.getfield 209, 3) := by decide +kernel
theorem dX10_count_9 : decode cX10_count 9 = .ok (.if_icmp .ge 27, 3) := by decide +kernel
theorem dX10_count_12 : decode cX10_count 12 = .ok (.iload_n 2, 1) := by decide +kernel
theorem dX10_count_13 : decode cX10_count 13 = .ok (.aload_n 0, 1) := by decide +kernel
theorem dX10_count_14 : decode cX10_count 14 = .ok (.getfield 78, 3) := by decide +kernel
theorem dX10_count_17 : decode cX10_count 17 = .ok (.iload_n 3, 1) := by decide +kernel
theorem dX10_count_18 : decode cX10_count 18 = .ok (.iaload, 1) := by decide +kernel
theorem dX10_count_19 : decode cX10_count 19 = .ok (.iconst 5, 1) := by decide +kernel
theorem dX10_count_20 : decode cX10_count 20 = .ok (.if_icmp .ne 7, 3) := by decide +kernel
theorem dX10_count_23 : decode cX10_count 23 = .ok (.iconst 1, 1) := by decide +kernel
theorem dX10_count_24 : decode cX10_count 24 = .ok (.goto 4, 3) := by decide +kernel
theorem dX10_count_27 : decode cX10_count 27 = .ok (.iconst 0, 1) := by decide +kernel
theorem dX10_count_28 : decode cX10_count 28 = .ok (.iadd, 1) := by decide +kernel
theorem dX10_count_29 : decode cX10_count 29 = .ok (.istore_n 2, 1) := by decide +kernel
theorem dX10_count_30 : decode cX10_count 30 = .ok (.iinc 3 1, 3) := by decide +kernel
theorem dX10_count_33 : decode cX10_count 33 = .ok (.goto (-29), 3) := by decide +kernel
theorem dX10_count_36 : decode cX10_count 36 = .ok (.iload_n 1, 1) := by decide +kernel
theorem dX10_count_37 : decode cX10_count 37 = .ok (.tableswitch 70 0 5 #[39, 44, 51, 58, 63, 65], 39) := by decide +kernel
theorem dX10_count_76 : decode cX10_count 76 = .ok (.aload_n 0, 1) := by decide +kernel
theorem dX10_count_77 : decode cX10_count 77 = .ok (.getfield 50, 3) := by decide +kernel
theorem dX10_count_80 : decode cX10_count 80 = .ok (.ireturn, 1) := by decide +kernel
theorem dX10_count_81 : decode cX10_count 81 = .ok (.aload_n 0, 1) := by decide +kernel
theorem dX10_count_82 : decode cX10_count 82 = .ok (.getfield 23, 3) := by decide +kernel
theorem dX10_count_85 : decode cX10_count 85 = .ok (.iconst 0, 1) := by decide +kernel
theorem dX10_count_86 : decode cX10_count 86 = .ok (.iaload, 1) := by decide +kernel
theorem dX10_count_87 : decode cX10_count 87 = .ok (.ireturn, 1) := by decide +kernel
theorem dX10_count_88 : decode cX10_count 88 = .ok (.aload_n 0, 1) := by decide +kernel
theorem dX10_count_89 : decode cX10_count 89 = .ok (.getfield 23, 3) := by decide +kernel
theorem dX10_count_92 : decode cX10_count 92 = .ok (.iconst 1, 1) := by decide +kernel
theorem dX10_count_93 : decode cX10_count 93 = .ok (.iaload, 1) := by decide +kernel
theorem dX10_count_94 : decode cX10_count 94 = .ok (.ireturn, 1) := by decide +kernel
theorem dX10_count_95 : decode cX10_count 95 = .ok (.aload_n 0, 1) := by decide +kernel
theorem dX10_count_96 : decode cX10_count 96 = .ok (.getfield 209, 3) := by decide +kernel
theorem dX10_count_99 : decode cX10_count 99 = .ok (.ireturn, 1) := by decide +kernel
theorem dX10_count_100 : decode cX10_count 100 = .ok (.iload_n 2, 1) := by decide +kernel
theorem dX10_count_101 : decode cX10_count 101 = .ok (.ireturn, 1) := by decide +kernel
theorem dX10_count_102 : decode cX10_count 102 = .ok (.aload_n 0, 1) := by decide +kernel
theorem dX10_count_103 : decode cX10_count 103 = .ok (.getfield 244, 3) := by decide +kernel
theorem dX10_count_106 : decode cX10_count 106 = .ok (.ireturn, 1) := by decide +kernel
theorem dX10_count_107 : decode cX10_count 107 = .ok (.iconst (-1), 1) := by decide +kernel
theorem dX10_count_108 : decode cX10_count 108 = .ok (.ireturn, 1) := by decide +kernel
theorem dX10_comesBy_0 : decode cX10_comesBy 0 = .ok (.aload_n 0, 1) := by decide +kernel
theorem dX10_comesBy_1 : decode cX10_comesBy 1 = .ok (.invokevirtual 200, 3) := by decide +kernel
theorem dX10_comesBy_4 : decode cX10_comesBy 4 = .ok (.iconst 0, 1) := by decide +kernel
theorem dX10_comesBy_5 : decode cX10_comesBy 5 = .ok (.istore_n 3, 1) := by decide +kernel
theorem dX10_comesBy_6 : decode cX10_comesBy 6 = .ok (.iconst 0, 1) := by decide +kernel
theorem dX10_comesBy_7 : decode cX10_comesBy 7 = .ok (.istore 4, 2) := by decide +kernel
theorem dX10_comesBy_9 : decode cX10_comesBy 9 = .ok (.iload 4, 2) := by decide +kernel
theorem dX10_comesBy_11 : decode cX10_comesBy 11 = .ok (.aload_n 0, 1) := by decide +kernel
theorem dX10_comesBy_12 : decode cX10_comesBy 12 = .ok (.getfield 23, 3) := by decide +kernel
theorem dX10_comesBy_15 : decode cX10_comesBy 15 = .ok (.iconst 0, 1) := by decide +kernel
theorem dX10_comesBy_16 : decode cX10_comesBy 16 = .ok (.iaload, 1) := by decide +kernel
theorem dX10_comesBy_17 : decode cX10_comesBy 17 = .ok (.if_icmp .ge 35, 3) := by decide +kernel
theorem dX10_comesBy_20 : decode cX10_comesBy 20 = .ok (.iload_n 3, 1) := by decide +kernel
theorem dX10_comesBy_21 : decode cX10_comesBy 21 = .ok (.iload_n 2, 1) := by decide +kernel
theorem dX10_comesBy_22 : decode cX10_comesBy 22 = .ok (.aload_n 0, 1) := by decide +kernel
theorem dX10_comesBy_23 : decode cX10_comesBy 23 = .ok (.getfield 26, 3) := by decide +kernel
theorem dX10_comesBy_26 : decode cX10_comesBy 26 = .ok (.iload 4, 2) := by decide +kernel
theorem dX10_comesBy_28 : decode cX10_comesBy 28 = .ok (.iaload, 1) := by decide +kernel
theorem dX10_comesBy_29 : decode cX10_comesBy 29 = .ok (.ishr, 1) := by decide +kernel
theorem dX10_comesBy_30 : decode cX10_comesBy 30 = .ok (.iconst 1, 1) := by decide +kernel
theorem dX10_comesBy_31 : decode cX10_comesBy 31 = .ok (.iand, 1) := by decide +kernel
theorem dX10_comesBy_32 : decode cX10_comesBy 32 = .ok (.iconst 1, 1) := by decide +kernel
theorem dX10_comesBy_33 : decode cX10_comesBy 33 = .ok (.if_icmp .ne 7, 3) := by decide +kernel
theorem dX10_comesBy_36 : decode cX10_comesBy 36 = .ok (.iconst 0, 1) := by decide +kernel
theorem dX10_comesBy_37 : decode cX10_comesBy 37 = .ok (.goto 7, 3) := by decide +kernel
theorem dX10_comesBy_40 : decode cX10_comesBy 40 = .ok (.iconst 1, 1) := by decide +kernel
theorem dX10_comesBy_41 : decode cX10_comesBy 41 = .ok (.iload 4, 2) := by decide +kernel
theorem dX10_comesBy_43 : decode cX10_comesBy 43 = .ok (.ishl, 1) := by decide +kernel
theorem dX10_comesBy_44 : decode cX10_comesBy 44 = .ok (.ior, 1) := by decide +kernel
theorem dX10_comesBy_45 : decode cX10_comesBy 45 = .ok (.istore_n 3, 1) := by decide +kernel
theorem dX10_comesBy_46 : decode cX10_comesBy 46 = .ok (.iinc 4 1, 3) := by decide +kernel
theorem dX10_comesBy_49 : decode cX10_comesBy 49 = .ok (.goto (-40), 3) := by decide +kernel
theorem dX10_comesBy_52 : decode cX10_comesBy 52 = .ok (.iconst 0, 1) := by decide +kernel
theorem dX10_comesBy_53 : decode cX10_comesBy 53 = .ok (.istore 4, 2) := by decide +kernel
theorem dX10_comesBy_55 : decode cX10_comesBy 55 = .ok (.iload 4, 2) := by decide +kernel
theorem dX10_comesBy_57 : decode cX10_comesBy 57 = .ok (.aload_n 0, 1) := by decide +kernel
theorem dX10_comesBy_58 : decode cX10_comesBy 58 = .ok (.getfield 244, 3) := by decide +kernel
theorem dX10_comesBy_61 : decode cX10_comesBy 61 = .ok (.if_icmp .ge 109, 3) := by decide +kernel
theorem dX10_comesBy_64 : decode cX10_comesBy 64 = .ok (.iload_n 1, 1) := by decide +kernel
theorem dX10_comesBy_65 : decode cX10_comesBy 65 = .ok (.iload 4, 2) := by decide +kernel
theorem dX10_comesBy_67 : decode cX10_comesBy 67 = .ok (.ishr, 1) := by decide +kernel
theorem dX10_comesBy_68 : decode cX10_comesBy 68 = .ok (.iconst 1, 1) := by decide +kernel
theorem dX10_comesBy_69 : decode cX10_comesBy 69 = .ok (.iand, 1) := by decide +kernel
theorem dX10_comesBy_70 : decode cX10_comesBy 70 = .ok (.iconst 1, 1) := by decide +kernel
theorem dX10_comesBy_71 : decode cX10_comesBy 71 = .ok (.if_icmp .ne 93, 3) := by decide +kernel
theorem dX10_comesBy_74 : decode cX10_comesBy 74 = .ok (.aload_n 0, 1) := by decide +kernel
theorem dX10_comesBy_75 : decode cX10_comesBy 75 = .ok (.getfield 99, 3) := by decide +kernel
theorem dX10_comesBy_78 : decode cX10_comesBy 78 = .ok (.iload 4, 2) := by decide +kernel
theorem dX10_comesBy_80 : decode cX10_comesBy 80 = .ok (.iaload, 1) := by decide +kernel
theorem dX10_comesBy_81 : decode cX10_comesBy 81 = .ok (.istore 5, 2) := by decide +kernel
theorem dX10_comesBy_83 : decode cX10_comesBy 83 = .ok (.aload_n 0, 1) := by decide +kernel
theorem dX10_comesBy_84 : decode cX10_comesBy 84 = .ok (.getfield 63, 3) := by decide +kernel
theorem dX10_comesBy_87 : decode cX10_comesBy 87 = .ok (.aload_n 0, 1) := by decide +kernel
theorem dX10_comesBy_88 : decode cX10_comesBy 88 = .ok (.getfield 102, 3) := by decide +kernel
theorem dX10_comesBy_91 : decode cX10_comesBy 91 = .ok (.iload 4, 2) := by decide +kernel
theorem dX10_comesBy_93 : decode cX10_comesBy 93 = .ok (.iaload, 1) := by decide +kernel
theorem dX10_comesBy_94 : decode cX10_comesBy 94 = .ok (.dup2, 1) := by decide +kernel
theorem dX10_comesBy_95 : decode cX10_comesBy 95 = .ok (.iaload, 1) := by decide +kernel
theorem dX10_comesBy_96 : decode cX10_comesBy 96 = .ok (.iload 5, 2) := by decide +kernel
theorem dX10_comesBy_98 : decode cX10_comesBy 98 = .ok (.ifCond .ne 15, 3) := by decide +kernel
theorem dX10_comesBy_101 : decode cX10_comesBy 101 = .ok (.iconst 1, 1) := by decide +kernel
theorem dX10_comesBy_102 : decode cX10_comesBy 102 = .ok (.aload_n 0, 1) := by decide +kernel
theorem dX10_comesBy_103 : decode cX10_comesBy 103 = .ok (.getfield 105, 3) := by decide +kernel
theorem dX10_comesBy_106 : decode cX10_comesBy 106 = .ok (.iload 4, 2) := by decide +kernel
theorem dX10_comesBy_108 : decode cX10_comesBy 108 = .ok (.iaload, 1) := by decide +kernel
theorem dX10_comesBy_109 : decode cX10_comesBy 109 = .ok (.ishl, 1) := by decide +kernel
theorem dX10_comesBy_110 : decode cX10_comesBy 110 = .ok (.goto 4, 3) := by decide +kernel
theorem dX10_comesBy_113 : decode cX10_comesBy 113 = .ok (.iconst 0, 1) := by decide +kernel
theorem dX10_comesBy_114 : decode cX10_comesBy 114 = .ok (.ixor, 1) := by decide +kernel
theorem dX10_comesBy_115 : decode cX10_comesBy 115 = .ok (.iastore, 1) := by decide +kernel
theorem dX10_comesBy_116 : decode cX10_comesBy 116 = .ok (.aload_n 0, 1) := by decide +kernel
theorem dX10_comesBy_117 : decode cX10_comesBy 117 = .ok (.getfield 66, 3) := by decide +kernel
theorem dX10_comesBy_120 : decode cX10_comesBy 120 = .ok (.aload_n 0, 1) := by decide +kernel
theorem dX10_comesBy_121 : decode cX10_comesBy 121 = .ok (.getfield 102, 3) := by decide +kernel
theorem dX10_comesBy_124 : decode cX10_comesBy 124 = .ok (.iload 4, 2) := by decide +kernel
theorem dX10_comesBy_126 : decode cX10_comesBy 126 = .ok (.iaload, 1) := by decide +kernel
theorem dX10_comesBy_127 : decode cX10_comesBy 127 = .ok (.dup2, 1) := by decide +kernel
theorem dX10_comesBy_128 : decode cX10_comesBy 128 = .ok (.iaload, 1) := by decide +kernel
theorem dX10_comesBy_129 : decode cX10_comesBy 129 = .ok (.iload 5, 2) := by decide +kernel
theorem dX10_comesBy_131 : decode cX10_comesBy 131 = .ok (.iconst 1, 1) := by decide +kernel
theorem dX10_comesBy_132 : decode cX10_comesBy 132 = .ok (.if_icmp .ne 7, 3) := by decide +kernel
theorem dX10_comesBy_135 : decode cX10_comesBy 135 = .ok (.iconst 1, 1) := by decide +kernel
theorem dX10_comesBy_136 : decode cX10_comesBy 136 = .ok (.goto 4, 3) := by decide +kernel
theorem dX10_comesBy_139 : decode cX10_comesBy 139 = .ok (.iconst 0, 1) := by decide +kernel
theorem dX10_comesBy_140 : decode cX10_comesBy 140 = .ok (.ixor, 1) := by decide +kernel
theorem dX10_comesBy_141 : decode cX10_comesBy 141 = .ok (.iastore, 1) := by decide +kernel
theorem dX10_comesBy_142 : decode cX10_comesBy 142 = .ok (.iload_n 3, 1) := by decide +kernel
theorem dX10_comesBy_143 : decode cX10_comesBy 143 = .ok (.iload 5, 2) := by decide +kernel
theorem dX10_comesBy_145 : decode cX10_comesBy 145 = .ok (.iconst 2, 1) := by decide +kernel
theorem dX10_comesBy_146 : decode cX10_comesBy 146 = .ok (.if_icmp .ne 15, 3) := by decide +kernel
theorem dX10_comesBy_149 : decode cX10_comesBy 149 = .ok (.iconst 1, 1) := by decide +kernel
theorem dX10_comesBy_150 : decode cX10_comesBy 150 = .ok (.aload_n 0, 1) := by decide +kernel
theorem dX10_comesBy_151 : decode cX10_comesBy 151 = .ok (.getfield 105, 3) := by decide +kernel
theorem dX10_comesBy_154 : decode cX10_comesBy 154 = .ok (.iload 4, 2) := by decide +kernel
theorem dX10_comesBy_156 : decode cX10_comesBy 156 = .ok (.iaload, 1) := by decide +kernel
theorem dX10_comesBy_157 : decode cX10_comesBy 157 = .ok (.ishl, 1) := by decide +kernel
theorem dX10_comesBy_158 : decode cX10_comesBy 158 = .ok (.goto 4, 3) := by decide +kernel
theorem dX10_comesBy_161 : decode cX10_comesBy 161 = .ok (.iconst 0, 1) := by decide +kernel
theorem dX10_comesBy_162 : decode cX10_comesBy 162 = .ok (.ior, 1) := by decide +kernel
theorem dX10_comesBy_163 : decode cX10_comesBy 163 = .ok (.istore_n 3, 1) := by decide +kernel
theorem dX10_comesBy_164 : decode cX10_comesBy 164 = .ok (.iinc 4 1, 3) := by decide +kernel
theorem dX10_comesBy_167 : decode cX10_comesBy 167 = .ok (.goto (-112), 3) := by decide +kernel
theorem dX10_comesBy_170 : decode cX10_comesBy 170 = .ok (.aload_n 0, 1) := by decide +kernel
theorem dX10_comesBy_171 : decode cX10_comesBy 171 = .ok (.iconst 0, 1) := by decide +kernel
theorem dX10_comesBy_172 : decode cX10_comesBy 172 = .ok (.iload_n 3, 1) := by decide +kernel
theorem dX10_comesBy_173 : decode cX10_comesBy 173 = .ok (.invokevirtual 203, 3) := by decide +kernel
theorem dX10_comesBy_176 : decode cX10_comesBy 176 = .ok (.aload_n 0, 1) := by decide +kernel
theorem dX10_comesBy_177 : decode cX10_comesBy 177 = .ok (.getfield 75, 3) := by decide +kernel
theorem dX10_comesBy_180 : decode cX10_comesBy 180 = .ok (.aload_n 0, 1) := by decide +kernel
theorem dX10_comesBy_181 : decode cX10_comesBy 181 = .ok (.getfield 96, 3) := by decide +kernel
theorem dX10_comesBy_184 : decode cX10_comesBy 184 = .ok (.iaload, 1) := by decide +kernel
theorem dX10_comesBy_185 : decode cX10_comesBy 185 = .ok (.aload_n 0, 1) := by decide +kernel
theorem dX10_comesBy_186 : decode cX10_comesBy 186 = .ok (.getfield 247, 3) := by decide +kernel
theorem dX10_comesBy_189 : decode cX10_comesBy 189 = .ok (.if_icmp .ne 7, 3) := by decide +kernel
theorem dX10_comesBy_192 : decode cX10_comesBy 192 = .ok (.iconst 1, 1) := by decide +kernel
theorem dX10_comesBy_193 : decode cX10_comesBy 193 = .ok (.goto 4, 3) := by decide +kernel
theorem dX10_comesBy_196 : decode cX10_comesBy 196 = .ok (.iconst 0, 1) := by decide +kernel
theorem dX10_comesBy_197 : decode cX10_comesBy 197 = .ok (.ireturn, 1) := by decide +kernel
theorem dX10_doing_0 : decode cX10_doing 0 = .ok (.iload_n 1, 1) := by decide +kernel
theorem dX10_doing_1 : decode cX10_doing 1 = .ok (.i2l, 1) := by decide +kernel
theorem dX10_doing_2 : decode cX10_doing 2 = .ok (.lconst 0, 1) := by decide +kernel
theorem dX10_doing_3 : decode cX10_doing 3 = .ok (.ldc2_w 207, 3) := by decide +kernel
theorem dX10_doing_6 : decode cX10_doing 6 = .ok (.invokestatic 131, 3) := by decide +kernel
theorem dX10_doing_9 : decode cX10_doing 9 = .ok (.ifCond .eq 11, 3) := by decide +kernel
theorem dX10_doing_12 : decode cX10_doing 12 = .ok (.aload_n 0, 1) := by decide +kernel
theorem dX10_doing_13 : decode cX10_doing 13 = .ok (.iload_n 2, 1) := by decide +kernel
theorem dX10_doing_14 : decode cX10_doing 14 = .ok (.invokevirtual 184, 3) := by decide +kernel
theorem dX10_doing_17 : decode cX10_doing 17 = .ok (.ifCond .ne 5, 3) := by decide +kernel
theorem dX10_doing_20 : decode cX10_doing 20 = .ok (.iconst (-1), 1) := by decide +kernel
theorem dX10_doing_21 : decode cX10_doing 21 = .ok (.ireturn, 1) := by decide +kernel
theorem dX10_doing_22 : decode cX10_doing 22 = .ok (.aload_n 0, 1) := by decide +kernel
theorem dX10_doing_23 : decode cX10_doing 23 = .ok (.iload_n 1, 1) := by decide +kernel
theorem dX10_doing_24 : decode cX10_doing 24 = .ok (.putfield 247, 3) := by decide +kernel
theorem dX10_doing_27 : decode cX10_doing 27 = .ok (.aload_n 0, 1) := by decide +kernel
theorem dX10_doing_28 : decode cX10_doing 28 = .ok (.iload_n 2, 1) := by decide +kernel
theorem dX10_doing_29 : decode cX10_doing 29 = .ok (.putfield 96, 3) := by decide +kernel
theorem dX10_doing_32 : decode cX10_doing 32 = .ok (.aload_n 0, 1) := by decide +kernel
theorem dX10_doing_33 : decode cX10_doing 33 = .ok (.iconst 0, 1) := by decide +kernel
theorem dX10_doing_34 : decode cX10_doing 34 = .ok (.bipush 15, 2) := by decide +kernel
theorem dX10_doing_36 : decode cX10_doing 36 = .ok (.invokevirtual 250, 3) := by decide +kernel
theorem dX10_doing_39 : decode cX10_doing 39 = .ok (.ifCond .eq 7, 3) := by decide +kernel
theorem dX10_doing_42 : decode cX10_doing 42 = .ok (.iconst 1, 1) := by decide +kernel
theorem dX10_doing_43 : decode cX10_doing 43 = .ok (.goto 4, 3) := by decide +kernel
theorem dX10_doing_46 : decode cX10_doing 46 = .ok (.iconst 0, 1) := by decide +kernel
theorem dX10_doing_47 : decode cX10_doing 47 = .ok (.ireturn, 1) := by decide +kernel
theorem dX10_thing_0 : decode cX10_thing 0 = .ok (.iload_n 1, 1) := by decide +kernel
theorem dX10_thing_1 : decode cX10_thing 1 = .ok (.i2l, 1) := by decide +kernel
theorem dX10_thing_2 : decode cX10_thing 2 = .ok (.lconst 0, 1) := by decide +kernel
theorem dX10_thing_3 : decode cX10_thing 3 = .ok (.ldc2_w 180, 3) := by decide +kernel
theorem dX10_thing_6 : decode cX10_thing 6 = .ok (.invokestatic 131, 3) := by decide +kernel
theorem dX10_thing_9 : decode cX10_thing 9 = .ok (.ifCond .eq 59, 3) := by decide +kernel
theorem dX10_thing_12 : decode cX10_thing 12 = .ok (.iload_n 2, 1) := by decide +kernel
theorem dX10_thing_13 : decode cX10_thing 13 = .ok (.i2l, 1) := by decide +kernel
theorem dX10_thing_14 : decode cX10_thing 14 = .ok (.lconst 0, 1) := by decide +kernel
theorem dX10_thing_15 : decode cX10_thing 15 = .ok (.iload_n 1, 1) := by decide +kernel
theorem dX10_thing_16 : decode cX10_thing 16 = .ok (.iconst 2, 1) := by decide +kernel
theorem dX10_thing_17 : decode cX10_thing 17 = .ok (.if_icmp .ne 7, 3) := by decide +kernel
theorem dX10_thing_20 : decode cX10_thing 20 = .ok (.lconst 0, 1) := by decide +kernel
theorem dX10_thing_21 : decode cX10_thing 21 = .ok (.goto 6, 3) := by decide +kernel
theorem dX10_thing_24 : decode cX10_thing 24 = .ok (.ldc2_w 220, 3) := by decide +kernel
theorem dX10_thing_27 : decode cX10_thing 27 = .ok (.invokestatic 131, 3) := by decide +kernel
theorem dX10_thing_30 : decode cX10_thing 30 = .ok (.ifCond .eq 38, 3) := by decide +kernel
theorem dX10_thing_33 : decode cX10_thing 33 = .ok (.iload_n 3, 1) := by decide +kernel
theorem dX10_thing_34 : decode cX10_thing 34 = .ok (.i2l, 1) := by decide +kernel
theorem dX10_thing_35 : decode cX10_thing 35 = .ok (.lconst 0, 1) := by decide +kernel
theorem dX10_thing_36 : decode cX10_thing 36 = .ok (.iload_n 1, 1) := by decide +kernel
theorem dX10_thing_37 : decode cX10_thing 37 = .ok (.ifCond .ne 9, 3) := by decide +kernel
theorem dX10_thing_40 : decode cX10_thing 40 = .ok (.ldc2_w 207, 3) := by decide +kernel
theorem dX10_thing_43 : decode cX10_thing 43 = .ok (.goto 15, 3) := by decide +kernel
theorem dX10_thing_46 : decode cX10_thing 46 = .ok (.iload_n 1, 1) := by decide +kernel
theorem dX10_thing_47 : decode cX10_thing 47 = .ok (.iconst 1, 1) := by decide +kernel
theorem dX10_thing_48 : decode cX10_thing 48 = .ok (.if_icmp .ne 7, 3) := by decide +kernel
theorem dX10_thing_51 : decode cX10_thing 51 = .ok (.lconst 0, 1) := by decide +kernel
theorem dX10_thing_52 : decode cX10_thing 52 = .ok (.goto 6, 3) := by decide +kernel
theorem dX10_thing_55 : decode cX10_thing 55 = .ok (.ldc2_w 254, 3) := by decide +kernel
theorem dX10_thing_58 : decode cX10_thing 58 = .ok (.invokestatic 131, 3) := by decide +kernel
theorem dX10_thing_61 : decode cX10_thing 61 = .ok (.ifCond .eq 7, 3) := by decide +kernel
theorem dX10_thing_64 : decode cX10_thing 64 = .ok (.iconst 1, 1) := by decide +kernel
theorem dX10_thing_65 : decode cX10_thing 65 = .ok (.goto 4, 3) := by decide +kernel
theorem dX10_thing_68 : decode cX10_thing 68 = .ok (.iconst 0, 1) := by decide +kernel
theorem dX10_thing_69 : decode cX10_thing 69 = .ok (.istore 4, 2) := by decide +kernel
theorem dX10_thing_71 : decode cX10_thing 71 = .ok (.iload 4, 2) := by decide +kernel
theorem dX10_thing_73 : decode cX10_thing 73 = .ok (.ifCond .ne 5, 3) := by decide +kernel
theorem dX10_thing_76 : decode cX10_thing 76 = .ok (.iconst (-1), 1) := by decide +kernel
theorem dX10_thing_77 : decode cX10_thing 77 = .ok (.ireturn, 1) := by decide +kernel
theorem dX10_thing_78 : decode cX10_thing 78 = .ok (.iconst 0, 1) := by decide +kernel
theorem dX10_thing_79 : decode cX10_thing 79 = .ok (.istore 5, 2) := by decide +kernel
theorem dX10_thing_81 : decode cX10_thing 81 = .ok (.iload 5, 2) := by decide +kernel
theorem dX10_thing_83 : decode cX10_thing 83 = .ok (.aload_n 0, 1) := by decide +kernel
theorem dX10_thing_84 : decode cX10_thing 84 = .ok (.getfield 244, 3) := by decide +kernel
theorem dX10_thing_87 : decode cX10_thing 87 = .ok (.if_icmp .ge 45, 3) := by decide +kernel
theorem dX10_thing_90 : decode cX10_thing 90 = .ok (.aload_n 0, 1) := by decide +kernel
theorem dX10_thing_91 : decode cX10_thing 91 = .ok (.getfield 99, 3) := by decide +kernel
theorem dX10_thing_94 : decode cX10_thing 94 = .ok (.iload 5, 2) := by decide +kernel
theorem dX10_thing_96 : decode cX10_thing 96 = .ok (.iaload, 1) := by decide +kernel
theorem dX10_thing_97 : decode cX10_thing 97 = .ok (.iload_n 1, 1) := by decide +kernel
theorem dX10_thing_98 : decode cX10_thing 98 = .ok (.if_icmp .ne 28, 3) := by decide +kernel
theorem dX10_thing_101 : decode cX10_thing 101 = .ok (.aload_n 0, 1) := by decide +kernel
theorem dX10_thing_102 : decode cX10_thing 102 = .ok (.getfield 102, 3) := by decide +kernel
theorem dX10_thing_105 : decode cX10_thing 105 = .ok (.iload 5, 2) := by decide +kernel
theorem dX10_thing_107 : decode cX10_thing 107 = .ok (.iaload, 1) := by decide +kernel
theorem dX10_thing_108 : decode cX10_thing 108 = .ok (.iload_n 2, 1) := by decide +kernel
theorem dX10_thing_109 : decode cX10_thing 109 = .ok (.if_icmp .ne 17, 3) := by decide +kernel
theorem dX10_thing_112 : decode cX10_thing 112 = .ok (.aload_n 0, 1) := by decide +kernel
theorem dX10_thing_113 : decode cX10_thing 113 = .ok (.getfield 105, 3) := by decide +kernel
theorem dX10_thing_116 : decode cX10_thing 116 = .ok (.iload 5, 2) := by decide +kernel
theorem dX10_thing_118 : decode cX10_thing 118 = .ok (.iaload, 1) := by decide +kernel
theorem dX10_thing_119 : decode cX10_thing 119 = .ok (.iload_n 3, 1) := by decide +kernel
theorem dX10_thing_120 : decode cX10_thing 120 = .ok (.if_icmp .ne 6, 3) := by decide +kernel
theorem dX10_thing_123 : decode cX10_thing 123 = .ok (.bipush (-2), 2) := by decide +kernel
theorem dX10_thing_125 : decode cX10_thing 125 = .ok (.ireturn, 1) := by decide +kernel
theorem dX10_thing_126 : decode cX10_thing 126 = .ok (.iinc 5 1, 3) := by decide +kernel
theorem dX10_thing_129 : decode cX10_thing 129 = .ok (.goto (-48), 3) := by decide +kernel
theorem dX10_thing_132 : decode cX10_thing 132 = .ok (.aload_n 0, 1) := by decide +kernel
theorem dX10_thing_133 : decode cX10_thing 133 = .ok (.getfield 244, 3) := by decide +kernel
theorem dX10_thing_136 : decode cX10_thing 136 = .ok (.bipush 6, 2) := by decide +kernel
theorem dX10_thing_138 : decode cX10_thing 138 = .ok (.if_icmp .ne 6, 3) := by decide +kernel
theorem dX10_thing_141 : decode cX10_thing 141 = .ok (.bipush (-3), 2) := by decide +kernel
theorem dX10_thing_143 : decode cX10_thing 143 = .ok (.ireturn, 1) := by decide +kernel
theorem dX10_thing_144 : decode cX10_thing 144 = .ok (.aload_n 0, 1) := by decide +kernel
theorem dX10_thing_145 : decode cX10_thing 145 = .ok (.getfield 99, 3) := by decide +kernel
theorem dX10_thing_148 : decode cX10_thing 148 = .ok (.aload_n 0, 1) := by decide +kernel
theorem dX10_thing_149 : decode cX10_thing 149 = .ok (.getfield 244, 3) := by decide +kernel
theorem dX10_thing_152 : decode cX10_thing 152 = .ok (.iload_n 1, 1) := by decide +kernel
theorem dX10_thing_153 : decode cX10_thing 153 = .ok (.iastore, 1) := by decide +kernel
theorem dX10_thing_154 : decode cX10_thing 154 = .ok (.aload_n 0, 1) := by decide +kernel
theorem dX10_thing_155 : decode cX10_thing 155 = .ok (.getfield 102, 3) := by decide +kernel
theorem dX10_thing_158 : decode cX10_thing 158 = .ok (.aload_n 0, 1) := by decide +kernel
theorem dX10_thing_159 : decode cX10_thing 159 = .ok (.getfield 244, 3) := by decide +kernel
theorem dX10_thing_162 : decode cX10_thing 162 = .ok (.iload_n 2, 1) := by decide +kernel
theorem dX10_thing_163 : decode cX10_thing 163 = .ok (.iastore, 1) := by decide +kernel
theorem dX10_thing_164 : decode cX10_thing 164 = .ok (.aload_n 0, 1) := by decide +kernel
theorem dX10_thing_165 : decode cX10_thing 165 = .ok (.getfield 105, 3) := by decide +kernel
theorem dX10_thing_168 : decode cX10_thing 168 = .ok (.aload_n 0, 1) := by decide +kernel
theorem dX10_thing_169 : decode cX10_thing 169 = .ok (.getfield 244, 3) := by decide +kernel
theorem dX10_thing_172 : decode cX10_thing 172 = .ok (.iload_n 3, 1) := by decide +kernel
theorem dX10_thing_173 : decode cX10_thing 173 = .ok (.iastore, 1) := by decide +kernel
theorem dX10_thing_174 : decode cX10_thing 174 = .ok (.aload_n 0, 1) := by decide +kernel
theorem dX10_thing_175 : decode cX10_thing 175 = .ok (.dup, 1) := by decide +kernel
theorem dX10_thing_176 : decode cX10_thing 176 = .ok (.getfield 244, 3) := by decide +kernel
theorem dX10_thing_179 : decode cX10_thing 179 = .ok (.iconst 1, 1) := by decide +kernel
theorem dX10_thing_180 : decode cX10_thing 180 = .ok (.iadd, 1) := by decide +kernel
theorem dX10_thing_181 : decode cX10_thing 181 = .ok (.putfield 244, 3) := by decide +kernel
theorem dX10_thing_184 : decode cX10_thing 184 = .ok (.aload_n 0, 1) := by decide +kernel
theorem dX10_thing_185 : decode cX10_thing 185 = .ok (.getfield 244, 3) := by decide +kernel
theorem dX10_thing_188 : decode cX10_thing 188 = .ok (.iconst 1, 1) := by decide +kernel
theorem dX10_thing_189 : decode cX10_thing 189 = .ok (.isub, 1) := by decide +kernel
theorem dX10_thing_190 : decode cX10_thing 190 = .ok (.ireturn, 1) := by decide +kernel
theorem dX10_clear_0 : decode cX10_clear 0 = .ok (.aload_n 0, 1) := by decide +kernel
theorem dX10_clear_1 : decode cX10_clear 1 = .ok (.getfield 244, 3) := by decide +kernel
theorem dX10_clear_4 : decode cX10_clear 4 = .ok (.istore_n 1, 1) := by decide +kernel
theorem dX10_clear_5 : decode cX10_clear 5 = .ok (.aload_n 0, 1) := by decide +kernel
theorem dX10_clear_6 : decode cX10_clear 6 = .ok (.iconst 0, 1) := by decide +kernel
theorem dX10_clear_7 : decode cX10_clear 7 = .ok (.putfield 244, 3) := by decide +kernel
theorem dX10_clear_10 : decode cX10_clear 10 = .ok (.iload_n 1, 1) := by decide +kernel
theorem dX10_clear_11 : decode cX10_clear 11 = .ok (.ireturn, 1) := by decide +kernel
theorem dX10_isTold_0 : decode cX10_isTold 0 = .ok (.aload_n 0, 1) := by decide +kernel
theorem dX10_isTold_1 : decode cX10_isTold 1 = .ok (.aload_n 0, 1) := by decide +kernel
theorem dX10_isTold_2 : decode cX10_isTold 2 = .ok (.getfield 96, 3) := by decide +kernel
theorem dX10_isTold_5 : decode cX10_isTold 5 = .ok (.invokevirtual 184, 3) := by decide +kernel
theorem dX10_isTold_8 : decode cX10_isTold 8 = .ok (.ireturn, 1) := by decide +kernel
theorem dX10_otherwise_0 : decode cX10_otherwise 0 = .ok (.iload_n 1, 1) := by decide +kernel
theorem dX10_otherwise_1 : decode cX10_otherwise 1 = .ok (.i2l, 1) := by decide +kernel
theorem dX10_otherwise_2 : decode cX10_otherwise 2 = .ok (.lconst 0, 1) := by decide +kernel
theorem dX10_otherwise_3 : decode cX10_otherwise 3 = .ok (.iconst 1, 1) := by decide +kernel
theorem dX10_otherwise_4 : decode cX10_otherwise 4 = .ok (.aload_n 0, 1) := by decide +kernel
theorem dX10_otherwise_5 : decode cX10_otherwise 5 = .ok (.getfield 244, 3) := by decide +kernel
theorem dX10_otherwise_8 : decode cX10_otherwise 8 = .ok (.ishl, 1) := by decide +kernel
theorem dX10_otherwise_9 : decode cX10_otherwise 9 = .ok (.iconst 1, 1) := by decide +kernel
theorem dX10_otherwise_10 : decode cX10_otherwise 10 = .ok (.isub, 1) := by decide +kernel
theorem dX10_otherwise_11 : decode cX10_otherwise 11 = .ok (.i2l, 1) := by decide +kernel
theorem dX10_otherwise_12 : decode cX10_otherwise 12 = .ok (.invokestatic 131, 3) := by decide +kernel
theorem dX10_otherwise_15 : decode cX10_otherwise 15 = .ok (.ifCond .ne 5, 3) := by decide +kernel
theorem dX10_otherwise_18 : decode cX10_otherwise 18 = .ok (.iconst (-1), 1) := by decide +kernel
theorem dX10_otherwise_19 : decode cX10_otherwise 19 = .ok (.ireturn, 1) := by decide +kernel
theorem dX10_otherwise_20 : decode cX10_otherwise 20 = .ok (.aload_n 0, 1) := by decide +kernel
theorem dX10_otherwise_21 : decode cX10_otherwise 21 = .ok (.invokevirtual 256, 3) := by decide +kernel
theorem dX10_otherwise_24 : decode cX10_otherwise 24 = .ok (.ifCond .eq 21, 3) := by decide +kernel
theorem dX10_otherwise_27 : decode cX10_otherwise 27 = .ok (.aload_n 0, 1) := by decide +kernel
theorem dX10_otherwise_28 : decode cX10_otherwise 28 = .ok (.iload_n 1, 1) := by decide +kernel
theorem dX10_otherwise_29 : decode cX10_otherwise 29 = .ok (.bipush 15, 2) := by decide +kernel
theorem dX10_otherwise_31 : decode cX10_otherwise 31 = .ok (.invokevirtual 250, 3) := by decide +kernel
theorem dX10_otherwise_34 : decode cX10_otherwise 34 = .ok (.ifCond .eq 7, 3) := by decide +kernel
theorem dX10_otherwise_37 : decode cX10_otherwise 37 = .ok (.iconst 1, 1) := by decide +kernel
theorem dX10_otherwise_38 : decode cX10_otherwise 38 = .ok (.goto 9, 3) := by decide +kernel
theorem dX10_otherwise_41 : decode cX10_otherwise 41 = .ok (.iconst 0, 1) := by decide +kernel
theorem dX10_otherwise_42 : decode cX10_otherwise 42 = .ok (.goto 5, 3) := by decide +kernel
theorem dX10_otherwise_45 : decode cX10_otherwise 45 = .ok (.bipush (-2), 2) := by decide +kernel
theorem dX10_otherwise_47 : decode cX10_otherwise 47 = .ok (.ireturn, 1) := by decide +kernel
theorem dX10_tries_0 : decode cX10_tries 0 = .ok (.iconst 0, 1) := by decide +kernel
theorem dX10_tries_1 : decode cX10_tries 1 = .ok (.istore_n 1, 1) := by decide +kernel
theorem dX10_tries_2 : decode cX10_tries 2 = .ok (.iload_n 1, 1) := by decide +kernel
theorem dX10_tries_3 : decode cX10_tries 3 = .ok (.iconst 1, 1) := by decide +kernel
theorem dX10_tries_4 : decode cX10_tries 4 = .ok (.aload_n 0, 1) := by decide +kernel
theorem dX10_tries_5 : decode cX10_tries 5 = .ok (.getfield 244, 3) := by decide +kernel
theorem dX10_tries_8 : decode cX10_tries 8 = .ok (.ishl, 1) := by decide +kernel
theorem dX10_tries_9 : decode cX10_tries 9 = .ok (.if_icmp .ge 22, 3) := by decide +kernel
theorem dX10_tries_12 : decode cX10_tries 12 = .ok (.aload_n 0, 1) := by decide +kernel
theorem dX10_tries_13 : decode cX10_tries 13 = .ok (.getfield 108, 3) := by decide +kernel
theorem dX10_tries_16 : decode cX10_tries 16 = .ok (.iload_n 1, 1) := by decide +kernel
theorem dX10_tries_17 : decode cX10_tries 17 = .ok (.aload_n 0, 1) := by decide +kernel
theorem dX10_tries_18 : decode cX10_tries 18 = .ok (.iload_n 1, 1) := by decide +kernel
theorem dX10_tries_19 : decode cX10_tries 19 = .ok (.bipush 15, 2) := by decide +kernel
theorem dX10_tries_21 : decode cX10_tries 21 = .ok (.invokevirtual 250, 3) := by decide +kernel
theorem dX10_tries_24 : decode cX10_tries 24 = .ok (.bastore, 1) := by decide +kernel
theorem dX10_tries_25 : decode cX10_tries 25 = .ok (.iinc 1 1, 3) := by decide +kernel
theorem dX10_tries_28 : decode cX10_tries 28 = .ok (.goto (-26), 3) := by decide +kernel
theorem dX10_tries_31 : decode cX10_tries 31 = .ok (.return_, 1) := by decide +kernel
theorem dX10_isSuch_0 : decode cX10_isSuch 0 = .ok (.aload_n 0, 1) := by decide +kernel
theorem dX10_isSuch_1 : decode cX10_isSuch 1 = .ok (.getfield 108, 3) := by decide +kernel
theorem dX10_isSuch_4 : decode cX10_isSuch 4 = .ok (.iconst 0, 1) := by decide +kernel
theorem dX10_isSuch_5 : decode cX10_isSuch 5 = .ok (.baload, 1) := by decide +kernel
theorem dX10_isSuch_6 : decode cX10_isSuch 6 = .ok (.ifCond .eq 21, 3) := by decide +kernel
theorem dX10_isSuch_9 : decode cX10_isSuch 9 = .ok (.iload_n 2, 1) := by decide +kernel
theorem dX10_isSuch_10 : decode cX10_isSuch 10 = .ok (.iconst 1, 1) := by decide +kernel
theorem dX10_isSuch_11 : decode cX10_isSuch 11 = .ok (.if_icmp .eq 12, 3) := by decide +kernel
theorem dX10_isSuch_14 : decode cX10_isSuch 14 = .ok (.aload_n 0, 1) := by decide +kernel
theorem dX10_isSuch_15 : decode cX10_isSuch 15 = .ok (.getfield 108, 3) := by decide +kernel
theorem dX10_isSuch_18 : decode cX10_isSuch 18 = .ok (.iload_n 1, 1) := by decide +kernel
theorem dX10_isSuch_19 : decode cX10_isSuch 19 = .ok (.baload, 1) := by decide +kernel
theorem dX10_isSuch_20 : decode cX10_isSuch 20 = .ok (.ifCond .ne 7, 3) := by decide +kernel
theorem dX10_isSuch_23 : decode cX10_isSuch 23 = .ok (.iconst 1, 1) := by decide +kernel
theorem dX10_isSuch_24 : decode cX10_isSuch 24 = .ok (.goto 4, 3) := by decide +kernel
theorem dX10_isSuch_27 : decode cX10_isSuch 27 = .ok (.iconst 0, 1) := by decide +kernel
theorem dX10_isSuch_28 : decode cX10_isSuch 28 = .ok (.istore_n 3, 1) := by decide +kernel
theorem dX10_isSuch_29 : decode cX10_isSuch 29 = .ok (.iconst 0, 1) := by decide +kernel
theorem dX10_isSuch_30 : decode cX10_isSuch 30 = .ok (.istore 4, 2) := by decide +kernel
theorem dX10_isSuch_32 : decode cX10_isSuch 32 = .ok (.iload 4, 2) := by decide +kernel
theorem dX10_isSuch_34 : decode cX10_isSuch 34 = .ok (.iconst 1, 1) := by decide +kernel
theorem dX10_isSuch_35 : decode cX10_isSuch 35 = .ok (.aload_n 0, 1) := by decide +kernel
theorem dX10_isSuch_36 : decode cX10_isSuch 36 = .ok (.getfield 244, 3) := by decide +kernel
theorem dX10_isSuch_39 : decode cX10_isSuch 39 = .ok (.ishl, 1) := by decide +kernel
theorem dX10_isSuch_40 : decode cX10_isSuch 40 = .ok (.if_icmp .ge 41, 3) := by decide +kernel
theorem dX10_isSuch_43 : decode cX10_isSuch 43 = .ok (.iload_n 2, 1) := by decide +kernel
theorem dX10_isSuch_44 : decode cX10_isSuch 44 = .ok (.iconst 1, 1) := by decide +kernel
theorem dX10_isSuch_45 : decode cX10_isSuch 45 = .ok (.if_icmp .ne 36, 3) := by decide +kernel
theorem dX10_isSuch_48 : decode cX10_isSuch 48 = .ok (.iload_n 3, 1) := by decide +kernel
theorem dX10_isSuch_49 : decode cX10_isSuch 49 = .ok (.ifCond .eq 24, 3) := by decide +kernel
theorem dX10_isSuch_52 : decode cX10_isSuch 52 = .ok (.iload 4, 2) := by decide +kernel
theorem dX10_isSuch_54 : decode cX10_isSuch 54 = .ok (.iload_n 1, 1) := by decide +kernel
theorem dX10_isSuch_55 : decode cX10_isSuch 55 = .ok (.iand, 1) := by decide +kernel
theorem dX10_isSuch_56 : decode cX10_isSuch 56 = .ok (.ifCond .ne 13, 3) := by decide +kernel
theorem dX10_isSuch_59 : decode cX10_isSuch 59 = .ok (.aload_n 0, 1) := by decide +kernel
theorem dX10_isSuch_60 : decode cX10_isSuch 60 = .ok (.getfield 108, 3) := by decide +kernel
theorem dX10_isSuch_63 : decode cX10_isSuch 63 = .ok (.iload 4, 2) := by decide +kernel
theorem dX10_isSuch_65 : decode cX10_isSuch 65 = .ok (.baload, 1) := by decide +kernel
theorem dX10_isSuch_66 : decode cX10_isSuch 66 = .ok (.ifCond .eq 7, 3) := by decide +kernel
theorem dX10_isSuch_69 : decode cX10_isSuch 69 = .ok (.iconst 1, 1) := by decide +kernel
theorem dX10_isSuch_70 : decode cX10_isSuch 70 = .ok (.goto 4, 3) := by decide +kernel
theorem dX10_isSuch_73 : decode cX10_isSuch 73 = .ok (.iconst 0, 1) := by decide +kernel
theorem dX10_isSuch_74 : decode cX10_isSuch 74 = .ok (.istore_n 3, 1) := by decide +kernel
theorem dX10_isSuch_75 : decode cX10_isSuch 75 = .ok (.iinc 4 1, 3) := by decide +kernel
theorem dX10_isSuch_78 : decode cX10_isSuch 78 = .ok (.goto (-46), 3) := by decide +kernel
theorem dX10_isSuch_81 : decode cX10_isSuch 81 = .ok (.iload_n 3, 1) := by decide +kernel
theorem dX10_isSuch_82 : decode cX10_isSuch 82 = .ok (.ireturn, 1) := by decide +kernel
theorem dX10_size_0 : decode cX10_size 0 = .ok (.iconst 0, 1) := by decide +kernel
theorem dX10_size_1 : decode cX10_size 1 = .ok (.istore_n 1, 1) := by decide +kernel
theorem dX10_size_2 : decode cX10_size 2 = .ok (.iconst 0, 1) := by decide +kernel
theorem dX10_size_3 : decode cX10_size 3 = .ok (.istore_n 2, 1) := by decide +kernel
theorem dX10_size_4 : decode cX10_size 4 = .ok (.iload_n 2, 1) := by decide +kernel
theorem dX10_size_5 : decode cX10_size 5 = .ok (.bipush 8, 2) := by decide +kernel
theorem dX10_size_7 : decode cX10_size 7 = .ok (.if_icmp .ge 17, 3) := by decide +kernel
theorem dX10_size_10 : decode cX10_size 10 = .ok (.iload_n 1, 1) := by decide +kernel
theorem dX10_size_11 : decode cX10_size 11 = .ok (.iload_n 0, 1) := by decide +kernel
theorem dX10_size_12 : decode cX10_size 12 = .ok (.iload_n 2, 1) := by decide +kernel
theorem dX10_size_13 : decode cX10_size 13 = .ok (.ishr, 1) := by decide +kernel
theorem dX10_size_14 : decode cX10_size 14 = .ok (.iconst 1, 1) := by decide +kernel
theorem dX10_size_15 : decode cX10_size 15 = .ok (.iand, 1) := by decide +kernel
theorem dX10_size_16 : decode cX10_size 16 = .ok (.iadd, 1) := by decide +kernel
theorem dX10_size_17 : decode cX10_size 17 = .ok (.istore_n 1, 1) := by decide +kernel
theorem dX10_size_18 : decode cX10_size 18 = .ok (.iinc 2 1, 3) := by decide +kernel
theorem dX10_size_21 : decode cX10_size 21 = .ok (.goto (-17), 3) := by decide +kernel
theorem dX10_size_24 : decode cX10_size 24 = .ok (.iload_n 1, 1) := by decide +kernel
theorem dX10_size_25 : decode cX10_size 25 = .ok (.ireturn, 1) := by decide +kernel
theorem dX10_leastOf_0 : decode cX10_leastOf 0 = .ok (.aload_n 0, 1) := by decide +kernel
theorem dX10_leastOf_1 : decode cX10_leastOf 1 = .ok (.invokevirtual 256, 3) := by decide +kernel
theorem dX10_leastOf_4 : decode cX10_leastOf 4 = .ok (.ifCond .ne 6, 3) := by decide +kernel
theorem dX10_leastOf_7 : decode cX10_leastOf 7 = .ok (.bipush (-2), 2) := by decide +kernel
theorem dX10_leastOf_9 : decode cX10_leastOf 9 = .ok (.ireturn, 1) := by decide +kernel
theorem dX10_leastOf_10 : decode cX10_leastOf 10 = .ok (.aload_n 0, 1) := by decide +kernel
theorem dX10_leastOf_11 : decode cX10_leastOf 11 = .ok (.invokevirtual 260, 3) := by decide +kernel
theorem dX10_leastOf_14 : decode cX10_leastOf 14 = .ok (.bipush (-4), 2) := by decide +kernel
theorem dX10_leastOf_16 : decode cX10_leastOf 16 = .ok (.istore_n 2, 1) := by decide +kernel
theorem dX10_leastOf_17 : decode cX10_leastOf 17 = .ok (.iconst 0, 1) := by decide +kernel
theorem dX10_leastOf_18 : decode cX10_leastOf 18 = .ok (.istore_n 3, 1) := by decide +kernel
theorem dX10_leastOf_19 : decode cX10_leastOf 19 = .ok (.iload_n 3, 1) := by decide +kernel
theorem dX10_leastOf_20 : decode cX10_leastOf 20 = .ok (.iconst 1, 1) := by decide +kernel
theorem dX10_leastOf_21 : decode cX10_leastOf 21 = .ok (.aload_n 0, 1) := by decide +kernel
theorem dX10_leastOf_22 : decode cX10_leastOf 22 = .ok (.getfield 244, 3) := by decide +kernel
theorem dX10_leastOf_25 : decode cX10_leastOf 25 = .ok (.ishl, 1) := by decide +kernel
theorem dX10_leastOf_26 : decode cX10_leastOf 26 = .ok (.if_icmp .ge 39, 3) := by decide +kernel
theorem dX10_leastOf_29 : decode cX10_leastOf 29 = .ok (.aload_n 0, 1) := by decide +kernel
theorem dX10_leastOf_30 : decode cX10_leastOf 30 = .ok (.iload_n 3, 1) := by decide +kernel
theorem dX10_leastOf_31 : decode cX10_leastOf 31 = .ok (.iload_n 1, 1) := by decide +kernel
theorem dX10_leastOf_32 : decode cX10_leastOf 32 = .ok (.invokevirtual 263, 3) := by decide +kernel
theorem dX10_leastOf_35 : decode cX10_leastOf 35 = .ok (.ifCond .eq 22, 3) := by decide +kernel
theorem dX10_leastOf_38 : decode cX10_leastOf 38 = .ok (.iload_n 2, 1) := by decide +kernel
theorem dX10_leastOf_39 : decode cX10_leastOf 39 = .ok (.ifCond .lt 14, 3) := by decide +kernel
theorem dX10_leastOf_42 : decode cX10_leastOf 42 = .ok (.iload_n 3, 1) := by decide +kernel
theorem dX10_leastOf_43 : decode cX10_leastOf 43 = .ok (.invokestatic 266, 3) := by decide +kernel
theorem dX10_leastOf_46 : decode cX10_leastOf 46 = .ok (.iload_n 2, 1) := by decide +kernel
theorem dX10_leastOf_47 : decode cX10_leastOf 47 = .ok (.invokestatic 266, 3) := by decide +kernel
theorem dX10_leastOf_50 : decode cX10_leastOf 50 = .ok (.if_icmp .ge 7, 3) := by decide +kernel
theorem dX10_leastOf_53 : decode cX10_leastOf 53 = .ok (.iload_n 3, 1) := by decide +kernel
theorem dX10_leastOf_54 : decode cX10_leastOf 54 = .ok (.goto 4, 3) := by decide +kernel
theorem dX10_leastOf_57 : decode cX10_leastOf 57 = .ok (.iload_n 2, 1) := by decide +kernel
theorem dX10_leastOf_58 : decode cX10_leastOf 58 = .ok (.istore_n 2, 1) := by decide +kernel
theorem dX10_leastOf_59 : decode cX10_leastOf 59 = .ok (.iinc 3 1, 3) := by decide +kernel
theorem dX10_leastOf_62 : decode cX10_leastOf 62 = .ok (.goto (-43), 3) := by decide +kernel
theorem dX10_leastOf_65 : decode cX10_leastOf 65 = .ok (.iload_n 2, 1) := by decide +kernel
theorem dX10_leastOf_66 : decode cX10_leastOf 66 = .ok (.ireturn, 1) := by decide +kernel
theorem dX10_because_0 : decode cX10_because 0 = .ok (.aload_n 0, 1) := by decide +kernel
theorem dX10_because_1 : decode cX10_because 1 = .ok (.iconst 0, 1) := by decide +kernel
theorem dX10_because_2 : decode cX10_because 2 = .ok (.invokevirtual 269, 3) := by decide +kernel
theorem dX10_because_5 : decode cX10_because 5 = .ok (.ireturn, 1) := by decide +kernel
theorem dX10_enough_0 : decode cX10_enough 0 = .ok (.aload_n 0, 1) := by decide +kernel
theorem dX10_enough_1 : decode cX10_enough 1 = .ok (.iconst 1, 1) := by decide +kernel
theorem dX10_enough_2 : decode cX10_enough 2 = .ok (.invokevirtual 269, 3) := by decide +kernel
theorem dX10_enough_5 : decode cX10_enough 5 = .ok (.ireturn, 1) := by decide +kernel
theorem dX10_sets_0 : decode cX10_sets 0 = .ok (.iload_n 1, 1) := by decide +kernel
theorem dX10_sets_1 : decode cX10_sets 1 = .ok (.i2l, 1) := by decide +kernel
theorem dX10_sets_2 : decode cX10_sets 2 = .ok (.lconst 0, 1) := by decide +kernel
theorem dX10_sets_3 : decode cX10_sets 3 = .ok (.lconst 1, 1) := by decide +kernel
theorem dX10_sets_4 : decode cX10_sets 4 = .ok (.invokestatic 131, 3) := by decide +kernel
theorem dX10_sets_7 : decode cX10_sets 7 = .ok (.ifCond .ne 5, 3) := by decide +kernel
theorem dX10_sets_10 : decode cX10_sets 10 = .ok (.iconst (-1), 1) := by decide +kernel
theorem dX10_sets_11 : decode cX10_sets 11 = .ok (.ireturn, 1) := by decide +kernel
theorem dX10_sets_12 : decode cX10_sets 12 = .ok (.aload_n 0, 1) := by decide +kernel
theorem dX10_sets_13 : decode cX10_sets 13 = .ok (.invokevirtual 256, 3) := by decide +kernel
theorem dX10_sets_16 : decode cX10_sets 16 = .ok (.ifCond .ne 6, 3) := by decide +kernel
theorem dX10_sets_19 : decode cX10_sets 19 = .ok (.bipush (-2), 2) := by decide +kernel
theorem dX10_sets_21 : decode cX10_sets 21 = .ok (.ireturn, 1) := by decide +kernel
theorem dX10_sets_22 : decode cX10_sets 22 = .ok (.aload_n 0, 1) := by decide +kernel
theorem dX10_sets_23 : decode cX10_sets 23 = .ok (.invokevirtual 260, 3) := by decide +kernel
theorem dX10_sets_26 : decode cX10_sets 26 = .ok (.iconst 0, 1) := by decide +kernel
theorem dX10_sets_27 : decode cX10_sets 27 = .ok (.istore_n 2, 1) := by decide +kernel
theorem dX10_sets_28 : decode cX10_sets 28 = .ok (.iconst 0, 1) := by decide +kernel
theorem dX10_sets_29 : decode cX10_sets 29 = .ok (.istore_n 3, 1) := by decide +kernel
theorem dX10_sets_30 : decode cX10_sets 30 = .ok (.iload_n 3, 1) := by decide +kernel
theorem dX10_sets_31 : decode cX10_sets 31 = .ok (.iconst 1, 1) := by decide +kernel
theorem dX10_sets_32 : decode cX10_sets 32 = .ok (.aload_n 0, 1) := by decide +kernel
theorem dX10_sets_33 : decode cX10_sets 33 = .ok (.getfield 244, 3) := by decide +kernel
theorem dX10_sets_36 : decode cX10_sets 36 = .ok (.ishl, 1) := by decide +kernel
theorem dX10_sets_37 : decode cX10_sets 37 = .ok (.if_icmp .ge 26, 3) := by decide +kernel
theorem dX10_sets_40 : decode cX10_sets 40 = .ok (.iload_n 2, 1) := by decide +kernel
theorem dX10_sets_41 : decode cX10_sets 41 = .ok (.aload_n 0, 1) := by decide +kernel
theorem dX10_sets_42 : decode cX10_sets 42 = .ok (.iload_n 3, 1) := by decide +kernel
theorem dX10_sets_43 : decode cX10_sets 43 = .ok (.iload_n 1, 1) := by decide +kernel
theorem dX10_sets_44 : decode cX10_sets 44 = .ok (.invokevirtual 263, 3) := by decide +kernel
theorem dX10_sets_47 : decode cX10_sets 47 = .ok (.ifCond .eq 7, 3) := by decide +kernel
theorem dX10_sets_50 : decode cX10_sets 50 = .ok (.iconst 1, 1) := by decide +kernel
theorem dX10_sets_51 : decode cX10_sets 51 = .ok (.goto 4, 3) := by decide +kernel
theorem dX10_sets_54 : decode cX10_sets 54 = .ok (.iconst 0, 1) := by decide +kernel
theorem dX10_sets_55 : decode cX10_sets 55 = .ok (.iadd, 1) := by decide +kernel
theorem dX10_sets_56 : decode cX10_sets 56 = .ok (.istore_n 2, 1) := by decide +kernel
theorem dX10_sets_57 : decode cX10_sets 57 = .ok (.iinc 3 1, 3) := by decide +kernel
theorem dX10_sets_60 : decode cX10_sets 60 = .ok (.goto (-30), 3) := by decide +kernel
theorem dX10_sets_63 : decode cX10_sets 63 = .ok (.iload_n 2, 1) := by decide +kernel
theorem dX10_sets_64 : decode cX10_sets 64 = .ok (.ireturn, 1) := by decide +kernel
theorem dX10_part_0 : decode cX10_part 0 = .ok (.iload_n 1, 1) := by decide +kernel
theorem dX10_part_1 : decode cX10_part 1 = .ok (.i2l, 1) := by decide +kernel
theorem dX10_part_2 : decode cX10_part 2 = .ok (.lconst 0, 1) := by decide +kernel
theorem dX10_part_3 : decode cX10_part 3 = .ok (.ldc2_w 207, 3) := by decide +kernel
theorem dX10_part_6 : decode cX10_part 6 = .ok (.invokestatic 131, 3) := by decide +kernel
theorem dX10_part_9 : decode cX10_part 9 = .ok (.ifCond .ne 5, 3) := by decide +kernel
theorem dX10_part_12 : decode cX10_part 12 = .ok (.iconst (-1), 1) := by decide +kernel
theorem dX10_part_13 : decode cX10_part 13 = .ok (.ireturn, 1) := by decide +kernel
theorem dX10_part_14 : decode cX10_part 14 = .ok (.aload_n 0, 1) := by decide +kernel
theorem dX10_part_15 : decode cX10_part 15 = .ok (.invokevirtual 256, 3) := by decide +kernel
theorem dX10_part_18 : decode cX10_part 18 = .ok (.ifCond .ne 6, 3) := by decide +kernel
theorem dX10_part_21 : decode cX10_part 21 = .ok (.bipush (-2), 2) := by decide +kernel
theorem dX10_part_23 : decode cX10_part 23 = .ok (.ireturn, 1) := by decide +kernel
theorem dX10_part_24 : decode cX10_part 24 = .ok (.iconst 0, 1) := by decide +kernel
theorem dX10_part_25 : decode cX10_part 25 = .ok (.istore_n 2, 1) := by decide +kernel
theorem dX10_part_26 : decode cX10_part 26 = .ok (.iconst 0, 1) := by decide +kernel
theorem dX10_part_27 : decode cX10_part 27 = .ok (.istore_n 3, 1) := by decide +kernel
theorem dX10_part_28 : decode cX10_part 28 = .ok (.iload_n 3, 1) := by decide +kernel
theorem dX10_part_29 : decode cX10_part 29 = .ok (.bipush 16, 2) := by decide +kernel
theorem dX10_part_31 : decode cX10_part 31 = .ok (.if_icmp .ge 57, 3) := by decide +kernel
theorem dX10_part_34 : decode cX10_part 34 = .ok (.iload_n 3, 1) := by decide +kernel
theorem dX10_part_35 : decode cX10_part 35 = .ok (.iload_n 1, 1) := by decide +kernel
theorem dX10_part_36 : decode cX10_part 36 = .ok (.ishr, 1) := by decide +kernel
theorem dX10_part_37 : decode cX10_part 37 = .ok (.iconst 1, 1) := by decide +kernel
theorem dX10_part_38 : decode cX10_part 38 = .ok (.iand, 1) := by decide +kernel
theorem dX10_part_39 : decode cX10_part 39 = .ok (.ifCond .ne 43, 3) := by decide +kernel
theorem dX10_part_42 : decode cX10_part 42 = .ok (.aload_n 0, 1) := by decide +kernel
theorem dX10_part_43 : decode cX10_part 43 = .ok (.iconst 0, 1) := by decide +kernel
theorem dX10_part_44 : decode cX10_part 44 = .ok (.iload_n 3, 1) := by decide +kernel
theorem dX10_part_45 : decode cX10_part 45 = .ok (.invokevirtual 250, 3) := by decide +kernel
theorem dX10_part_48 : decode cX10_part 48 = .ok (.ifCond .ne 34, 3) := by decide +kernel
theorem dX10_part_51 : decode cX10_part 51 = .ok (.aload_n 0, 1) := by decide +kernel
theorem dX10_part_52 : decode cX10_part 52 = .ok (.iconst 0, 1) := by decide +kernel
theorem dX10_part_53 : decode cX10_part 53 = .ok (.iload_n 3, 1) := by decide +kernel
theorem dX10_part_54 : decode cX10_part 54 = .ok (.iconst 1, 1) := by decide +kernel
theorem dX10_part_55 : decode cX10_part 55 = .ok (.iload_n 1, 1) := by decide +kernel
theorem dX10_part_56 : decode cX10_part 56 = .ok (.ishl, 1) := by decide +kernel
theorem dX10_part_57 : decode cX10_part 57 = .ok (.ior, 1) := by decide +kernel
theorem dX10_part_58 : decode cX10_part 58 = .ok (.invokevirtual 250, 3) := by decide +kernel
theorem dX10_part_61 : decode cX10_part 61 = .ok (.ifCond .eq 21, 3) := by decide +kernel
theorem dX10_part_64 : decode cX10_part 64 = .ok (.iload_n 2, 1) := by decide +kernel
theorem dX10_part_65 : decode cX10_part 65 = .ok (.iload_n 3, 1) := by decide +kernel
theorem dX10_part_66 : decode cX10_part 66 = .ok (.invokestatic 266, 3) := by decide +kernel
theorem dX10_part_69 : decode cX10_part 69 = .ok (.iconst 3, 1) := by decide +kernel
theorem dX10_part_70 : decode cX10_part 70 = .ok (.irem, 1) := by decide +kernel
theorem dX10_part_71 : decode cX10_part 71 = .ok (.ifCond .ne 8, 3) := by decide +kernel
theorem dX10_part_74 : decode cX10_part 74 = .ok (.bipush 6, 2) := by decide +kernel
theorem dX10_part_76 : decode cX10_part 76 = .ok (.goto 4, 3) := by decide +kernel
theorem dX10_part_79 : decode cX10_part 79 = .ok (.iconst 2, 1) := by decide +kernel
theorem dX10_part_80 : decode cX10_part 80 = .ok (.iadd, 1) := by decide +kernel
theorem dX10_part_81 : decode cX10_part 81 = .ok (.istore_n 2, 1) := by decide +kernel
theorem dX10_part_82 : decode cX10_part 82 = .ok (.iinc 3 1, 3) := by decide +kernel
theorem dX10_part_85 : decode cX10_part 85 = .ok (.goto (-57), 3) := by decide +kernel
theorem dX10_part_88 : decode cX10_part 88 = .ok (.iload_n 2, 1) := by decide +kernel
theorem dX10_part_89 : decode cX10_part 89 = .ok (.ireturn, 1) := by decide +kernel
theorem dX10_careful_0 : decode cX10_careful 0 = .ok (.aload_n 0, 1) := by decide +kernel
theorem dX10_careful_1 : decode cX10_careful 1 = .ok (.iload_n 1, 1) := by decide +kernel
theorem dX10_careful_2 : decode cX10_careful 2 = .ok (.invokevirtual 184, 3) := by decide +kernel
theorem dX10_careful_5 : decode cX10_careful 5 = .ok (.ifCond .eq 13, 3) := by decide +kernel
theorem dX10_careful_8 : decode cX10_careful 8 = .ok (.iload_n 2, 1) := by decide +kernel
theorem dX10_careful_9 : decode cX10_careful 9 = .ok (.i2l, 1) := by decide +kernel
theorem dX10_careful_10 : decode cX10_careful 10 = .ok (.lconst 0, 1) := by decide +kernel
theorem dX10_careful_11 : decode cX10_careful 11 = .ok (.lconst 1, 1) := by decide +kernel
theorem dX10_careful_12 : decode cX10_careful 12 = .ok (.invokestatic 131, 3) := by decide +kernel
theorem dX10_careful_15 : decode cX10_careful 15 = .ok (.ifCond .ne 5, 3) := by decide +kernel
theorem dX10_careful_18 : decode cX10_careful 18 = .ok (.iconst (-1), 1) := by decide +kernel
theorem dX10_careful_19 : decode cX10_careful 19 = .ok (.ireturn, 1) := by decide +kernel
theorem dX10_careful_20 : decode cX10_careful 20 = .ok (.aload_n 0, 1) := by decide +kernel
theorem dX10_careful_21 : decode cX10_careful 21 = .ok (.invokevirtual 200, 3) := by decide +kernel
theorem dX10_careful_24 : decode cX10_careful 24 = .ok (.iconst 0, 1) := by decide +kernel
theorem dX10_careful_25 : decode cX10_careful 25 = .ok (.istore_n 3, 1) := by decide +kernel
theorem dX10_careful_26 : decode cX10_careful 26 = .ok (.iload_n 3, 1) := by decide +kernel
theorem dX10_careful_27 : decode cX10_careful 27 = .ok (.aload_n 0, 1) := by decide +kernel
theorem dX10_careful_28 : decode cX10_careful 28 = .ok (.getfield 50, 3) := by decide +kernel
theorem dX10_careful_31 : decode cX10_careful 31 = .ok (.if_icmp .ge 33, 3) := by decide +kernel
theorem dX10_careful_34 : decode cX10_careful 34 = .ok (.aload_n 0, 1) := by decide +kernel
theorem dX10_careful_35 : decode cX10_careful 35 = .ok (.getfield 63, 3) := by decide +kernel
theorem dX10_careful_38 : decode cX10_careful 38 = .ok (.iload_n 3, 1) := by decide +kernel
theorem dX10_careful_39 : decode cX10_careful 39 = .ok (.dup2, 1) := by decide +kernel
theorem dX10_careful_40 : decode cX10_careful 40 = .ok (.iaload, 1) := by decide +kernel
theorem dX10_careful_41 : decode cX10_careful 41 = .ok (.iload_n 2, 1) := by decide +kernel
theorem dX10_careful_42 : decode cX10_careful 42 = .ok (.ifCond .ne 12, 3) := by decide +kernel
theorem dX10_careful_45 : decode cX10_careful 45 = .ok (.aload_n 0, 1) := by decide +kernel
theorem dX10_careful_46 : decode cX10_careful 46 = .ok (.getfield 60, 3) := by decide +kernel
theorem dX10_careful_49 : decode cX10_careful 49 = .ok (.iload_n 3, 1) := by decide +kernel
theorem dX10_careful_50 : decode cX10_careful 50 = .ok (.iaload, 1) := by decide +kernel
theorem dX10_careful_51 : decode cX10_careful 51 = .ok (.goto 5, 3) := by decide +kernel
theorem dX10_careful_54 : decode cX10_careful 54 = .ok (.bipush 15, 2) := by decide +kernel
theorem dX10_careful_56 : decode cX10_careful 56 = .ok (.iand, 1) := by decide +kernel
theorem dX10_careful_57 : decode cX10_careful 57 = .ok (.iastore, 1) := by decide +kernel
theorem dX10_careful_58 : decode cX10_careful 58 = .ok (.iinc 3 1, 3) := by decide +kernel
theorem dX10_careful_61 : decode cX10_careful 61 = .ok (.goto (-35), 3) := by decide +kernel
theorem dX10_careful_64 : decode cX10_careful 64 = .ok (.aload_n 0, 1) := by decide +kernel
theorem dX10_careful_65 : decode cX10_careful 65 = .ok (.iconst 1, 1) := by decide +kernel
theorem dX10_careful_66 : decode cX10_careful 66 = .ok (.iconst 0, 1) := by decide +kernel
theorem dX10_careful_67 : decode cX10_careful 67 = .ok (.invokevirtual 203, 3) := by decide +kernel
theorem dX10_careful_70 : decode cX10_careful 70 = .ok (.aload_n 0, 1) := by decide +kernel
theorem dX10_careful_71 : decode cX10_careful 71 = .ok (.getfield 75, 3) := by decide +kernel
theorem dX10_careful_74 : decode cX10_careful 74 = .ok (.iload_n 1, 1) := by decide +kernel
theorem dX10_careful_75 : decode cX10_careful 75 = .ok (.iaload, 1) := by decide +kernel
theorem dX10_careful_76 : decode cX10_careful 76 = .ok (.ireturn, 1) := by decide +kernel
theorem dX10_actAt_0 : decode cX10_actAt 0 = .ok (.aload_n 0, 1) := by decide +kernel
theorem dX10_actAt_1 : decode cX10_actAt 1 = .ok (.iconst 0, 1) := by decide +kernel
theorem dX10_actAt_2 : decode cX10_actAt 2 = .ok (.iload_n 1, 1) := by decide +kernel
theorem dX10_actAt_3 : decode cX10_actAt 3 = .ok (.iconst 0, 1) := by decide +kernel
theorem dX10_actAt_4 : decode cX10_actAt 4 = .ok (.invokevirtual 196, 3) := by decide +kernel
theorem dX10_actAt_7 : decode cX10_actAt 7 = .ok (.istore_n 2, 1) := by decide +kernel
theorem dX10_actAt_8 : decode cX10_actAt 8 = .ok (.iload_n 2, 1) := by decide +kernel
theorem dX10_actAt_9 : decode cX10_actAt 9 = .ok (.bipush 8, 2) := by decide +kernel
theorem dX10_actAt_11 : decode cX10_actAt 11 = .ok (.if_icmp .ne 7, 3) := by decide +kernel
theorem dX10_actAt_14 : decode cX10_actAt 14 = .ok (.iconst 0, 1) := by decide +kernel
theorem dX10_actAt_15 : decode cX10_actAt 15 = .ok (.goto 9, 3) := by decide +kernel
theorem dX10_actAt_18 : decode cX10_actAt 18 = .ok (.aload_n 0, 1) := by decide +kernel
theorem dX10_actAt_19 : decode cX10_actAt 19 = .ok (.getfield 29, 3) := by decide +kernel
theorem dX10_actAt_22 : decode cX10_actAt 22 = .ok (.iload_n 2, 1) := by decide +kernel
theorem dX10_actAt_23 : decode cX10_actAt 23 = .ok (.iaload, 1) := by decide +kernel
theorem dX10_actAt_24 : decode cX10_actAt 24 = .ok (.ireturn, 1) := by decide +kernel
theorem dX10_saying_0 : decode cX10_saying 0 = .ok (.iload_n 1, 1) := by decide +kernel
theorem dX10_saying_1 : decode cX10_saying 1 = .ok (.i2l, 1) := by decide +kernel
theorem dX10_saying_2 : decode cX10_saying 2 = .ok (.lconst 0, 1) := by decide +kernel
theorem dX10_saying_3 : decode cX10_saying 3 = .ok (.ldc2_w 187, 3) := by decide +kernel
theorem dX10_saying_6 : decode cX10_saying 6 = .ok (.invokestatic 131, 3) := by decide +kernel
theorem dX10_saying_9 : decode cX10_saying 9 = .ok (.ifCond .ne 5, 3) := by decide +kernel
theorem dX10_saying_12 : decode cX10_saying 12 = .ok (.iconst (-1), 1) := by decide +kernel
theorem dX10_saying_13 : decode cX10_saying 13 = .ok (.ireturn, 1) := by decide +kernel
theorem dX10_saying_14 : decode cX10_saying 14 = .ok (.iconst 2, 1) := by decide +kernel
theorem dX10_saying_15 : decode cX10_saying 15 = .ok (.iload_n 1, 1) := by decide +kernel
theorem dX10_saying_16 : decode cX10_saying 16 = .ok (.imul, 1) := by decide +kernel
theorem dX10_saying_17 : decode cX10_saying 17 = .ok (.iload_n 2, 1) := by decide +kernel
theorem dX10_saying_18 : decode cX10_saying 18 = .ok (.ifCond .eq 8, 3) := by decide +kernel
theorem dX10_saying_21 : decode cX10_saying 21 = .ok (.bipush 96, 2) := by decide +kernel
theorem dX10_saying_23 : decode cX10_saying 23 = .ok (.goto 4, 3) := by decide +kernel
theorem dX10_saying_26 : decode cX10_saying 26 = .ok (.iconst 0, 1) := by decide +kernel
theorem dX10_saying_27 : decode cX10_saying 27 = .ok (.iadd, 1) := by decide +kernel
theorem dX10_saying_28 : decode cX10_saying 28 = .ok (.iload_n 3, 1) := by decide +kernel
theorem dX10_saying_29 : decode cX10_saying 29 = .ok (.ifCond .eq 7, 3) := by decide +kernel
theorem dX10_saying_32 : decode cX10_saying 32 = .ok (.iconst 1, 1) := by decide +kernel
theorem dX10_saying_33 : decode cX10_saying 33 = .ok (.goto 4, 3) := by decide +kernel
theorem dX10_saying_36 : decode cX10_saying 36 = .ok (.iconst 0, 1) := by decide +kernel
theorem dX10_saying_37 : decode cX10_saying 37 = .ok (.iadd, 1) := by decide +kernel
theorem dX10_saying_38 : decode cX10_saying 38 = .ok (.istore 4, 2) := by decide +kernel
theorem dX10_saying_40 : decode cX10_saying 40 = .ok (.iconst 0, 1) := by decide +kernel
theorem dX10_saying_41 : decode cX10_saying 41 = .ok (.istore 5, 2) := by decide +kernel
theorem dX10_saying_43 : decode cX10_saying 43 = .ok (.iload 5, 2) := by decide +kernel
theorem dX10_saying_45 : decode cX10_saying 45 = .ok (.sipush 128, 3) := by decide +kernel
theorem dX10_saying_48 : decode cX10_saying 48 = .ok (.if_icmp .ge 71, 3) := by decide +kernel
theorem dX10_saying_51 : decode cX10_saying 51 = .ok (.aload_n 0, 1) := by decide +kernel
theorem dX10_saying_52 : decode cX10_saying 52 = .ok (.iload 5, 2) := by decide +kernel
theorem dX10_saying_54 : decode cX10_saying 54 = .ok (.invokevirtual 272, 3) := by decide +kernel
theorem dX10_saying_57 : decode cX10_saying 57 = .ok (.istore 6, 2) := by decide +kernel
theorem dX10_saying_59 : decode cX10_saying 59 = .ok (.iload 5, 2) := by decide +kernel
theorem dX10_saying_61 : decode cX10_saying 61 = .ok (.iconst 1, 1) := by decide +kernel
theorem dX10_saying_62 : decode cX10_saying 62 = .ok (.iadd, 1) := by decide +kernel
theorem dX10_saying_63 : decode cX10_saying 63 = .ok (.istore 7, 2) := by decide +kernel
theorem dX10_saying_65 : decode cX10_saying 65 = .ok (.iload 7, 2) := by decide +kernel
theorem dX10_saying_67 : decode cX10_saying 67 = .ok (.sipush 128, 3) := by decide +kernel
theorem dX10_saying_70 : decode cX10_saying 70 = .ok (.if_icmp .ge 43, 3) := by decide +kernel
theorem dX10_saying_73 : decode cX10_saying 73 = .ok (.iload 5, 2) := by decide +kernel
theorem dX10_saying_75 : decode cX10_saying 75 = .ok (.iload 4, 2) := by decide +kernel
theorem dX10_saying_77 : decode cX10_saying 77 = .ok (.iand, 1) := by decide +kernel
theorem dX10_saying_78 : decode cX10_saying 78 = .ok (.iload 7, 2) := by decide +kernel
theorem dX10_saying_80 : decode cX10_saying 80 = .ok (.iload 4, 2) := by decide +kernel
theorem dX10_saying_82 : decode cX10_saying 82 = .ok (.iand, 1) := by decide +kernel
theorem dX10_saying_83 : decode cX10_saying 83 = .ok (.if_icmp .ne 24, 3) := by decide +kernel
theorem dX10_saying_86 : decode cX10_saying 86 = .ok (.aload_n 0, 1) := by decide +kernel
theorem dX10_saying_87 : decode cX10_saying 87 = .ok (.iload 7, 2) := by decide +kernel
theorem dX10_saying_89 : decode cX10_saying 89 = .ok (.invokevirtual 272, 3) := by decide +kernel
theorem dX10_saying_92 : decode cX10_saying 92 = .ok (.iload 6, 2) := by decide +kernel
theorem dX10_saying_94 : decode cX10_saying 94 = .ok (.if_icmp .eq 13, 3) := by decide +kernel
theorem dX10_saying_97 : decode cX10_saying 97 = .ok (.sipush 128, 3) := by decide +kernel
theorem dX10_saying_100 : decode cX10_saying 100 = .ok (.iload 5, 2) := by decide +kernel
theorem dX10_saying_102 : decode cX10_saying 102 = .ok (.imul, 1) := by decide +kernel
theorem dX10_saying_103 : decode cX10_saying 103 = .ok (.iload 7, 2) := by decide +kernel
theorem dX10_saying_105 : decode cX10_saying 105 = .ok (.iadd, 1) := by decide +kernel
theorem dX10_saying_106 : decode cX10_saying 106 = .ok (.ireturn, 1) := by decide +kernel
theorem dX10_saying_107 : decode cX10_saying 107 = .ok (.iinc 7 1, 3) := by decide +kernel
theorem dX10_saying_110 : decode cX10_saying 110 = .ok (.goto (-45), 3) := by decide +kernel
theorem dX10_saying_113 : decode cX10_saying 113 = .ok (.iinc 5 1, 3) := by decide +kernel
theorem dX10_saying_116 : decode cX10_saying 116 = .ok (.goto (-73), 3) := by decide +kernel
theorem dX10_saying_119 : decode cX10_saying 119 = .ok (.bipush (-4), 2) := by decide +kernel
theorem dX10_saying_121 : decode cX10_saying 121 = .ok (.ireturn, 1) := by decide +kernel
theorem dX10_duty_0 : decode cX10_duty 0 = .ok (.aload_n 0, 1) := by decide +kernel
theorem dX10_duty_1 : decode cX10_duty 1 = .ok (.iconst 0, 1) := by decide +kernel
theorem dX10_duty_2 : decode cX10_duty 2 = .ok (.putfield 147, 3) := by decide +kernel
theorem dX10_duty_5 : decode cX10_duty 5 = .ok (.iconst 0, 1) := by decide +kernel
theorem dX10_duty_6 : decode cX10_duty 6 = .ok (.istore_n 1, 1) := by decide +kernel
theorem dX10_duty_7 : decode cX10_duty 7 = .ok (.iload_n 1, 1) := by decide +kernel
theorem dX10_duty_8 : decode cX10_duty 8 = .ok (.sipush 512, 3) := by decide +kernel
theorem dX10_duty_11 : decode cX10_duty 11 = .ok (.if_icmp .ge 42, 3) := by decide +kernel
theorem dX10_duty_14 : decode cX10_duty 14 = .ok (.aload_n 0, 1) := by decide +kernel
theorem dX10_duty_15 : decode cX10_duty 15 = .ok (.getfield 147, 3) := by decide +kernel
theorem dX10_duty_18 : decode cX10_duty 18 = .ok (.ifCond .ne 35, 3) := by decide +kernel
theorem dX10_duty_21 : decode cX10_duty 21 = .ok (.aload_n 0, 1) := by decide +kernel
theorem dX10_duty_22 : decode cX10_duty 22 = .ok (.iconst 0, 1) := by decide +kernel
theorem dX10_duty_23 : decode cX10_duty 23 = .ok (.putfield 144, 3) := by decide +kernel
theorem dX10_duty_26 : decode cX10_duty 26 = .ok (.aload_n 0, 1) := by decide +kernel
theorem dX10_duty_27 : decode cX10_duty 27 = .ok (.getfield 114, 3) := by decide +kernel
theorem dX10_duty_30 : decode cX10_duty 30 = .ok (.iload_n 1, 1) := by decide +kernel
theorem dX10_duty_31 : decode cX10_duty 31 = .ok (.aload_n 0, 1) := by decide +kernel
theorem dX10_duty_32 : decode cX10_duty 32 = .ok (.iload_n 1, 1) := by decide +kernel
theorem dX10_duty_33 : decode cX10_duty 33 = .ok (.sipush 128, 3) := by decide +kernel
theorem dX10_duty_36 : decode cX10_duty 36 = .ok (.irem, 1) := by decide +kernel
theorem dX10_duty_37 : decode cX10_duty 37 = .ok (.iload_n 1, 1) := by decide +kernel
theorem dX10_duty_38 : decode cX10_duty 38 = .ok (.sipush 128, 3) := by decide +kernel
theorem dX10_duty_41 : decode cX10_duty 41 = .ok (.idiv, 1) := by decide +kernel
theorem dX10_duty_42 : decode cX10_duty 42 = .ok (.iconst 1, 1) := by decide +kernel
theorem dX10_duty_43 : decode cX10_duty 43 = .ok (.invokevirtual 170, 3) := by decide +kernel
theorem dX10_duty_46 : decode cX10_duty 46 = .ok (.bastore, 1) := by decide +kernel
theorem dX10_duty_47 : decode cX10_duty 47 = .ok (.iinc 1 1, 3) := by decide +kernel
theorem dX10_duty_50 : decode cX10_duty 50 = .ok (.goto (-43), 3) := by decide +kernel
theorem dX10_duty_53 : decode cX10_duty 53 = .ok (.aload_n 0, 1) := by decide +kernel
theorem dX10_duty_54 : decode cX10_duty 54 = .ok (.aload_n 0, 1) := by decide +kernel
theorem dX10_duty_55 : decode cX10_duty 55 = .ok (.getfield 147, 3) := by decide +kernel
theorem dX10_duty_58 : decode cX10_duty 58 = .ok (.ifCond .ne 10, 3) := by decide +kernel
theorem dX10_duty_61 : decode cX10_duty 61 = .ok (.aload_n 0, 1) := by decide +kernel
theorem dX10_duty_62 : decode cX10_duty 62 = .ok (.invokevirtual 151, 3) := by decide +kernel
theorem dX10_duty_65 : decode cX10_duty 65 = .ok (.ifCond .eq 7, 3) := by decide +kernel
theorem dX10_duty_68 : decode cX10_duty 68 = .ok (.iconst 1, 1) := by decide +kernel
theorem dX10_duty_69 : decode cX10_duty 69 = .ok (.goto 4, 3) := by decide +kernel
theorem dX10_duty_72 : decode cX10_duty 72 = .ok (.iconst 0, 1) := by decide +kernel
theorem dX10_duty_73 : decode cX10_duty 73 = .ok (.putfield 147, 3) := by decide +kernel
theorem dX10_duty_76 : decode cX10_duty 76 = .ok (.aload_n 0, 1) := by decide +kernel
theorem dX10_duty_77 : decode cX10_duty 77 = .ok (.iconst 0, 1) := by decide +kernel
theorem dX10_duty_78 : decode cX10_duty 78 = .ok (.putfield 141, 3) := by decide +kernel
theorem dX10_duty_81 : decode cX10_duty 81 = .ok (.aload_n 0, 1) := by decide +kernel
theorem dX10_duty_82 : decode cX10_duty 82 = .ok (.getfield 147, 3) := by decide +kernel
theorem dX10_duty_85 : decode cX10_duty 85 = .ok (.ifCond .eq 11, 3) := by decide +kernel
theorem dX10_duty_88 : decode cX10_duty 88 = .ok (.bipush (-20), 2) := by decide +kernel
theorem dX10_duty_90 : decode cX10_duty 90 = .ok (.aload_n 0, 1) := by decide +kernel
theorem dX10_duty_91 : decode cX10_duty 91 = .ok (.getfield 144, 3) := by decide +kernel
theorem dX10_duty_94 : decode cX10_duty 94 = .ok (.isub, 1) := by decide +kernel
theorem dX10_duty_95 : decode cX10_duty 95 = .ok (.ireturn, 1) := by decide +kernel
theorem dX10_duty_96 : decode cX10_duty 96 = .ok (.iconst 0, 1) := by decide +kernel
theorem dX10_duty_97 : decode cX10_duty 97 = .ok (.istore_n 1, 1) := by decide +kernel
theorem dX10_duty_98 : decode cX10_duty 98 = .ok (.iload_n 1, 1) := by decide +kernel
theorem dX10_duty_99 : decode cX10_duty 99 = .ok (.sipush 512, 3) := by decide +kernel
theorem dX10_duty_102 : decode cX10_duty 102 = .ok (.if_icmp .ge 21, 3) := by decide +kernel
theorem dX10_duty_105 : decode cX10_duty 105 = .ok (.aload_n 0, 1) := by decide +kernel
theorem dX10_duty_106 : decode cX10_duty 106 = .ok (.getfield 111, 3) := by decide +kernel
theorem dX10_duty_109 : decode cX10_duty 109 = .ok (.iload_n 1, 1) := by decide +kernel
theorem dX10_duty_110 : decode cX10_duty 110 = .ok (.aload_n 0, 1) := by decide +kernel
theorem dX10_duty_111 : decode cX10_duty 111 = .ok (.getfield 114, 3) := by decide +kernel
theorem dX10_duty_114 : decode cX10_duty 114 = .ok (.iload_n 1, 1) := by decide +kernel
theorem dX10_duty_115 : decode cX10_duty 115 = .ok (.baload, 1) := by decide +kernel
theorem dX10_duty_116 : decode cX10_duty 116 = .ok (.bastore, 1) := by decide +kernel
theorem dX10_duty_117 : decode cX10_duty 117 = .ok (.iinc 1 1, 3) := by decide +kernel
theorem dX10_duty_120 : decode cX10_duty 120 = .ok (.goto (-22), 3) := by decide +kernel
theorem dX10_duty_123 : decode cX10_duty 123 = .ok (.aload_n 0, 1) := by decide +kernel
theorem dX10_duty_124 : decode cX10_duty 124 = .ok (.iconst 1, 1) := by decide +kernel
theorem dX10_duty_125 : decode cX10_duty 125 = .ok (.putfield 275, 3) := by decide +kernel
theorem dX10_duty_128 : decode cX10_duty 128 = .ok (.iconst 1, 1) := by decide +kernel
theorem dX10_duty_129 : decode cX10_duty 129 = .ok (.ireturn, 1) := by decide +kernel
theorem dX10_broken_0 : decode cX10_broken 0 = .ok (.aload_n 0, 1) := by decide +kernel
theorem dX10_broken_1 : decode cX10_broken 1 = .ok (.getfield 275, 3) := by decide +kernel
theorem dX10_broken_4 : decode cX10_broken 4 = .ok (.ifCond .ne 6, 3) := by decide +kernel
theorem dX10_broken_7 : decode cX10_broken 7 = .ok (.bipush (-2), 2) := by decide +kernel
theorem dX10_broken_9 : decode cX10_broken 9 = .ok (.ireturn, 1) := by decide +kernel
theorem dX10_broken_10 : decode cX10_broken 10 = .ok (.aload_n 0, 1) := by decide +kernel
theorem dX10_broken_11 : decode cX10_broken 11 = .ok (.invokevirtual 200, 3) := by decide +kernel
theorem dX10_broken_14 : decode cX10_broken 14 = .ok (.aload_n 0, 1) := by decide +kernel
theorem dX10_broken_15 : decode cX10_broken 15 = .ok (.iconst 0, 1) := by decide +kernel
theorem dX10_broken_16 : decode cX10_broken 16 = .ok (.iconst 0, 1) := by decide +kernel
theorem dX10_broken_17 : decode cX10_broken 17 = .ok (.invokevirtual 203, 3) := by decide +kernel
theorem dX10_broken_20 : decode cX10_broken 20 = .ok (.iconst 0, 1) := by decide +kernel
theorem dX10_broken_21 : decode cX10_broken 21 = .ok (.istore_n 1, 1) := by decide +kernel
theorem dX10_broken_22 : decode cX10_broken 22 = .ok (.iload_n 1, 1) := by decide +kernel
theorem dX10_broken_23 : decode cX10_broken 23 = .ok (.aload_n 0, 1) := by decide +kernel
theorem dX10_broken_24 : decode cX10_broken 24 = .ok (.getfield 50, 3) := by decide +kernel
theorem dX10_broken_27 : decode cX10_broken 27 = .ok (.if_icmp .ge 57, 3) := by decide +kernel
theorem dX10_broken_30 : decode cX10_broken 30 = .ok (.bipush 32, 2) := by decide +kernel
theorem dX10_broken_32 : decode cX10_broken 32 = .ok (.aload_n 0, 1) := by decide +kernel
theorem dX10_broken_33 : decode cX10_broken 33 = .ok (.getfield 69, 3) := by decide +kernel
theorem dX10_broken_36 : decode cX10_broken 36 = .ok (.iload_n 1, 1) := by decide +kernel
theorem dX10_broken_37 : decode cX10_broken 37 = .ok (.iaload, 1) := by decide +kernel
theorem dX10_broken_38 : decode cX10_broken 38 = .ok (.imul, 1) := by decide +kernel
theorem dX10_broken_39 : decode cX10_broken 39 = .ok (.iconst 2, 1) := by decide +kernel
theorem dX10_broken_40 : decode cX10_broken 40 = .ok (.aload_n 0, 1) := by decide +kernel
theorem dX10_broken_41 : decode cX10_broken 41 = .ok (.getfield 63, 3) := by decide +kernel
theorem dX10_broken_44 : decode cX10_broken 44 = .ok (.iload_n 1, 1) := by decide +kernel
theorem dX10_broken_45 : decode cX10_broken 45 = .ok (.iaload, 1) := by decide +kernel
theorem dX10_broken_46 : decode cX10_broken 46 = .ok (.imul, 1) := by decide +kernel
theorem dX10_broken_47 : decode cX10_broken 47 = .ok (.iadd, 1) := by decide +kernel
theorem dX10_broken_48 : decode cX10_broken 48 = .ok (.aload_n 0, 1) := by decide +kernel
theorem dX10_broken_49 : decode cX10_broken 49 = .ok (.getfield 66, 3) := by decide +kernel
theorem dX10_broken_52 : decode cX10_broken 52 = .ok (.iload_n 1, 1) := by decide +kernel
theorem dX10_broken_53 : decode cX10_broken 53 = .ok (.iaload, 1) := by decide +kernel
theorem dX10_broken_54 : decode cX10_broken 54 = .ok (.iadd, 1) := by decide +kernel
theorem dX10_broken_55 : decode cX10_broken 55 = .ok (.istore_n 2, 1) := by decide +kernel
theorem dX10_broken_56 : decode cX10_broken 56 = .ok (.aload_n 0, 1) := by decide +kernel
theorem dX10_broken_57 : decode cX10_broken 57 = .ok (.getfield 111, 3) := by decide +kernel
theorem dX10_broken_60 : decode cX10_broken 60 = .ok (.sipush 128, 3) := by decide +kernel
theorem dX10_broken_63 : decode cX10_broken 63 = .ok (.aload_n 0, 1) := by decide +kernel
theorem dX10_broken_64 : decode cX10_broken 64 = .ok (.getfield 75, 3) := by decide +kernel
theorem dX10_broken_67 : decode cX10_broken 67 = .ok (.iload_n 1, 1) := by decide +kernel
theorem dX10_broken_68 : decode cX10_broken 68 = .ok (.iaload, 1) := by decide +kernel
theorem dX10_broken_69 : decode cX10_broken 69 = .ok (.imul, 1) := by decide +kernel
end
section
theorem dX10_broken_70 : decode cX10_broken 70 = .ok (.iload_n 2, 1) := by decide +kernel
theorem dX10_broken_71 : decode cX10_broken 71 = .ok (.iadd, 1) := by decide +kernel
theorem dX10_broken_72 : decode cX10_broken 72 = .ok (.baload, 1) := by decide +kernel
theorem dX10_broken_73 : decode cX10_broken 73 = .ok (.ifCond .ne 5, 3) := by decide +kernel
theorem dX10_broken_76 : decode cX10_broken 76 = .ok (.iload_n 1, 1) := by decide +kernel
theorem dX10_broken_77 : decode cX10_broken 77 = .ok (.ireturn, 1) := by decide +kernel
theorem dX10_broken_78 : decode cX10_broken 78 = .ok (.iinc 1 1, 3) := by decide +kernel
theorem dX10_broken_81 : decode cX10_broken 81 = .ok (.goto (-59), 3) := by decide +kernel
theorem dX10_broken_84 : decode cX10_broken 84 = .ok (.bipush (-4), 2) := by decide +kernel
theorem dX10_broken_86 : decode cX10_broken 86 = .ok (.ireturn, 1) := by decide +kernel
theorem dX10_isSheet_0 : decode cX10_isSheet 0 = .ok (.iload_n 0, 1) := by decide +kernel
theorem dX10_isSheet_1 : decode cX10_isSheet 1 = .ok (.i2l, 1) := by decide +kernel
theorem dX10_isSheet_2 : decode cX10_isSheet 2 = .ok (.lconst 0, 1) := by decide +kernel
theorem dX10_isSheet_3 : decode cX10_isSheet 3 = .ok (.ldc2_w 207, 3) := by decide +kernel
theorem dX10_isSheet_6 : decode cX10_isSheet 6 = .ok (.invokestatic 131, 3) := by decide +kernel
theorem dX10_isSheet_9 : decode cX10_isSheet 9 = .ok (.ireturn, 1) := by decide +kernel
theorem dX10_isLane_0 : decode cX10_isLane 0 = .ok (.iload_n 0, 1) := by decide +kernel
theorem dX10_isLane_1 : decode cX10_isLane 1 = .ok (.i2l, 1) := by decide +kernel
theorem dX10_isLane_2 : decode cX10_isLane 2 = .ok (.lconst 0, 1) := by decide +kernel
theorem dX10_isLane_3 : decode cX10_isLane 3 = .ok (.ldc2_w 180, 3) := by decide +kernel
theorem dX10_isLane_6 : decode cX10_isLane 6 = .ok (.invokestatic 131, 3) := by decide +kernel
theorem dX10_isLane_9 : decode cX10_isLane 9 = .ok (.ireturn, 1) := by decide +kernel
theorem dX10_finds_0 : decode cX10_finds 0 = .ok (.aload_n 0, 1) := by decide +kernel
theorem dX10_finds_1 : decode cX10_finds 1 = .ok (.getfield 117, 3) := by decide +kernel
theorem dX10_finds_4 : decode cX10_finds 4 = .ok (.iload_n 1, 1) := by decide +kernel
theorem dX10_finds_5 : decode cX10_finds 5 = .ok (.iaload, 1) := by decide +kernel
theorem dX10_finds_6 : decode cX10_finds 6 = .ok (.ifCond .ge 6, 3) := by decide +kernel
theorem dX10_finds_9 : decode cX10_finds 9 = .ok (.bipush (-11), 2) := by decide +kernel
theorem dX10_finds_11 : decode cX10_finds 11 = .ok (.ireturn, 1) := by decide +kernel
theorem dX10_finds_12 : decode cX10_finds 12 = .ok (.aload_n 0, 1) := by decide +kernel
theorem dX10_finds_13 : decode cX10_finds 13 = .ok (.getfield 117, 3) := by decide +kernel
theorem dX10_finds_16 : decode cX10_finds 16 = .ok (.iload_n 1, 1) := by decide +kernel
theorem dX10_finds_17 : decode cX10_finds 17 = .ok (.iaload, 1) := by decide +kernel
theorem dX10_finds_18 : decode cX10_finds 18 = .ok (.iload_n 2, 1) := by decide +kernel
theorem dX10_finds_19 : decode cX10_finds 19 = .ok (.if_icmp .eq 6, 3) := by decide +kernel
theorem dX10_finds_22 : decode cX10_finds 22 = .ok (.bipush (-12), 2) := by decide +kernel
theorem dX10_finds_24 : decode cX10_finds 24 = .ok (.ireturn, 1) := by decide +kernel
theorem dX10_finds_25 : decode cX10_finds 25 = .ok (.iload_n 3, 1) := by decide +kernel
theorem dX10_finds_26 : decode cX10_finds 26 = .ok (.ifCond .lt 20, 3) := by decide +kernel
theorem dX10_finds_29 : decode cX10_finds 29 = .ok (.iload_n 3, 1) := by decide +kernel
theorem dX10_finds_30 : decode cX10_finds 30 = .ok (.i2l, 1) := by decide +kernel
theorem dX10_finds_31 : decode cX10_finds 31 = .ok (.iload 4, 2) := by decide +kernel
theorem dX10_finds_33 : decode cX10_finds 33 = .ok (.i2l, 1) := by decide +kernel
theorem dX10_finds_34 : decode cX10_finds 34 = .ok (.ladd, 1) := by decide +kernel
theorem dX10_finds_35 : decode cX10_finds 35 = .ok (.aload_n 0, 1) := by decide +kernel
theorem dX10_finds_36 : decode cX10_finds 36 = .ok (.getfield 120, 3) := by decide +kernel
theorem dX10_finds_39 : decode cX10_finds 39 = .ok (.iload_n 1, 1) := by decide +kernel
theorem dX10_finds_40 : decode cX10_finds 40 = .ok (.iaload, 1) := by decide +kernel
theorem dX10_finds_41 : decode cX10_finds 41 = .ok (.i2l, 1) := by decide +kernel
theorem dX10_finds_42 : decode cX10_finds 42 = .ok (.lcmp, 1) := by decide +kernel
theorem dX10_finds_43 : decode cX10_finds 43 = .ok (.ifCond .le 8, 3) := by decide +kernel
theorem dX10_finds_46 : decode cX10_finds 46 = .ok (.bipush (-13), 2) := by decide +kernel
theorem dX10_finds_48 : decode cX10_finds 48 = .ok (.goto 4, 3) := by decide +kernel
theorem dX10_finds_51 : decode cX10_finds 51 = .ok (.iconst 0, 1) := by decide +kernel
theorem dX10_finds_52 : decode cX10_finds 52 = .ok (.ireturn, 1) := by decide +kernel
theorem dX10_sheet_0 : decode cX10_sheet 0 = .ok (.iload_n 1, 1) := by decide +kernel
theorem dX10_sheet_1 : decode cX10_sheet 1 = .ok (.invokestatic 189, 3) := by decide +kernel
theorem dX10_sheet_4 : decode cX10_sheet 4 = .ok (.ifCond .eq 16, 3) := by decide +kernel
theorem dX10_sheet_7 : decode cX10_sheet 7 = .ok (.iload_n 2, 1) := by decide +kernel
theorem dX10_sheet_8 : decode cX10_sheet 8 = .ok (.invokestatic 278, 3) := by decide +kernel
theorem dX10_sheet_11 : decode cX10_sheet 11 = .ok (.ifCond .eq 9, 3) := by decide +kernel
theorem dX10_sheet_14 : decode cX10_sheet 14 = .ok (.iload_n 3, 1) := by decide +kernel
theorem dX10_sheet_15 : decode cX10_sheet 15 = .ok (.bipush 48, 2) := by decide +kernel
theorem dX10_sheet_17 : decode cX10_sheet 17 = .ok (.if_icmp .le 5, 3) := by decide +kernel
theorem dX10_sheet_20 : decode cX10_sheet 20 = .ok (.iconst (-1), 1) := by decide +kernel
theorem dX10_sheet_21 : decode cX10_sheet 21 = .ok (.ireturn, 1) := by decide +kernel
theorem dX10_sheet_22 : decode cX10_sheet 22 = .ok (.iload_n 3, 1) := by decide +kernel
theorem dX10_sheet_23 : decode cX10_sheet 23 = .ok (.ifCond .ge 6, 3) := by decide +kernel
theorem dX10_sheet_26 : decode cX10_sheet 26 = .ok (.bipush (-14), 2) := by decide +kernel
theorem dX10_sheet_28 : decode cX10_sheet 28 = .ok (.ireturn, 1) := by decide +kernel
theorem dX10_sheet_29 : decode cX10_sheet 29 = .ok (.aload_n 0, 1) := by decide +kernel
theorem dX10_sheet_30 : decode cX10_sheet 30 = .ok (.getfield 117, 3) := by decide +kernel
theorem dX10_sheet_33 : decode cX10_sheet 33 = .ok (.iload_n 1, 1) := by decide +kernel
theorem dX10_sheet_34 : decode cX10_sheet 34 = .ok (.iload_n 2, 1) := by decide +kernel
theorem dX10_sheet_35 : decode cX10_sheet 35 = .ok (.iastore, 1) := by decide +kernel
theorem dX10_sheet_36 : decode cX10_sheet 36 = .ok (.aload_n 0, 1) := by decide +kernel
theorem dX10_sheet_37 : decode cX10_sheet 37 = .ok (.getfield 120, 3) := by decide +kernel
theorem dX10_sheet_40 : decode cX10_sheet 40 = .ok (.iload_n 1, 1) := by decide +kernel
theorem dX10_sheet_41 : decode cX10_sheet 41 = .ok (.iload_n 3, 1) := by decide +kernel
theorem dX10_sheet_42 : decode cX10_sheet 42 = .ok (.iastore, 1) := by decide +kernel
theorem dX10_sheet_43 : decode cX10_sheet 43 = .ok (.iconst 0, 1) := by decide +kernel
theorem dX10_sheet_44 : decode cX10_sheet 44 = .ok (.istore 4, 2) := by decide +kernel
theorem dX10_sheet_46 : decode cX10_sheet 46 = .ok (.iload 4, 2) := by decide +kernel
theorem dX10_sheet_48 : decode cX10_sheet 48 = .ok (.bipush 48, 2) := by decide +kernel
theorem dX10_sheet_50 : decode cX10_sheet 50 = .ok (.if_icmp .ge 22, 3) := by decide +kernel
theorem dX10_sheet_53 : decode cX10_sheet 53 = .ok (.aload_n 0, 1) := by decide +kernel
theorem dX10_sheet_54 : decode cX10_sheet 54 = .ok (.getfield 123, 3) := by decide +kernel
theorem dX10_sheet_57 : decode cX10_sheet 57 = .ok (.bipush 48, 2) := by decide +kernel
theorem dX10_sheet_59 : decode cX10_sheet 59 = .ok (.iload_n 1, 1) := by decide +kernel
theorem dX10_sheet_60 : decode cX10_sheet 60 = .ok (.imul, 1) := by decide +kernel
theorem dX10_sheet_61 : decode cX10_sheet 61 = .ok (.iload 4, 2) := by decide +kernel
theorem dX10_sheet_63 : decode cX10_sheet 63 = .ok (.iadd, 1) := by decide +kernel
theorem dX10_sheet_64 : decode cX10_sheet 64 = .ok (.iconst 0, 1) := by decide +kernel
theorem dX10_sheet_65 : decode cX10_sheet 65 = .ok (.iastore, 1) := by decide +kernel
theorem dX10_sheet_66 : decode cX10_sheet 66 = .ok (.iinc 4 1, 3) := by decide +kernel
theorem dX10_sheet_69 : decode cX10_sheet 69 = .ok (.goto (-23), 3) := by decide +kernel
theorem dX10_sheet_72 : decode cX10_sheet 72 = .ok (.iload_n 3, 1) := by decide +kernel
theorem dX10_sheet_73 : decode cX10_sheet 73 = .ok (.ireturn, 1) := by decide +kernel
theorem dX10_drop_0 : decode cX10_drop 0 = .ok (.iload_n 1, 1) := by decide +kernel
theorem dX10_drop_1 : decode cX10_drop 1 = .ok (.invokestatic 189, 3) := by decide +kernel
theorem dX10_drop_4 : decode cX10_drop 4 = .ok (.ifCond .ne 5, 3) := by decide +kernel
theorem dX10_drop_7 : decode cX10_drop 7 = .ok (.iconst (-1), 1) := by decide +kernel
theorem dX10_drop_8 : decode cX10_drop 8 = .ok (.ireturn, 1) := by decide +kernel
theorem dX10_drop_9 : decode cX10_drop 9 = .ok (.aload_n 0, 1) := by decide +kernel
theorem dX10_drop_10 : decode cX10_drop 10 = .ok (.getfield 117, 3) := by decide +kernel
theorem dX10_drop_13 : decode cX10_drop 13 = .ok (.iload_n 1, 1) := by decide +kernel
theorem dX10_drop_14 : decode cX10_drop 14 = .ok (.iaload, 1) := by decide +kernel
theorem dX10_drop_15 : decode cX10_drop 15 = .ok (.ifCond .ge 6, 3) := by decide +kernel
theorem dX10_drop_18 : decode cX10_drop 18 = .ok (.bipush (-11), 2) := by decide +kernel
theorem dX10_drop_20 : decode cX10_drop 20 = .ok (.ireturn, 1) := by decide +kernel
theorem dX10_drop_21 : decode cX10_drop 21 = .ok (.aload_n 0, 1) := by decide +kernel
theorem dX10_drop_22 : decode cX10_drop 22 = .ok (.getfield 117, 3) := by decide +kernel
theorem dX10_drop_25 : decode cX10_drop 25 = .ok (.iload_n 1, 1) := by decide +kernel
theorem dX10_drop_26 : decode cX10_drop 26 = .ok (.iconst (-1), 1) := by decide +kernel
theorem dX10_drop_27 : decode cX10_drop 27 = .ok (.iastore, 1) := by decide +kernel
theorem dX10_drop_28 : decode cX10_drop 28 = .ok (.aload_n 0, 1) := by decide +kernel
theorem dX10_drop_29 : decode cX10_drop 29 = .ok (.getfield 120, 3) := by decide +kernel
theorem dX10_drop_32 : decode cX10_drop 32 = .ok (.iload_n 1, 1) := by decide +kernel
theorem dX10_drop_33 : decode cX10_drop 33 = .ok (.iaload, 1) := by decide +kernel
theorem dX10_drop_34 : decode cX10_drop 34 = .ok (.ireturn, 1) := by decide +kernel
theorem dX10_item_0 : decode cX10_item 0 = .ok (.iload_n 1, 1) := by decide +kernel
theorem dX10_item_1 : decode cX10_item 1 = .ok (.invokestatic 189, 3) := by decide +kernel
theorem dX10_item_4 : decode cX10_item 4 = .ok (.ifCond .eq 10, 3) := by decide +kernel
theorem dX10_item_7 : decode cX10_item 7 = .ok (.iload_n 2, 1) := by decide +kernel
theorem dX10_item_8 : decode cX10_item 8 = .ok (.invokestatic 278, 3) := by decide +kernel
theorem dX10_item_11 : decode cX10_item 11 = .ok (.ifCond .ne 5, 3) := by decide +kernel
theorem dX10_item_14 : decode cX10_item 14 = .ok (.iconst (-1), 1) := by decide +kernel
theorem dX10_item_15 : decode cX10_item 15 = .ok (.ireturn, 1) := by decide +kernel
theorem dX10_item_16 : decode cX10_item 16 = .ok (.aload_n 0, 1) := by decide +kernel
theorem dX10_item_17 : decode cX10_item 17 = .ok (.iload_n 1, 1) := by decide +kernel
theorem dX10_item_18 : decode cX10_item 18 = .ok (.iload_n 2, 1) := by decide +kernel
theorem dX10_item_19 : decode cX10_item 19 = .ok (.iload_n 3, 1) := by decide +kernel
theorem dX10_item_20 : decode cX10_item 20 = .ok (.iconst 1, 1) := by decide +kernel
theorem dX10_item_21 : decode cX10_item 21 = .ok (.invokevirtual 192, 3) := by decide +kernel
theorem dX10_item_24 : decode cX10_item 24 = .ok (.istore 5, 2) := by decide +kernel
theorem dX10_item_26 : decode cX10_item 26 = .ok (.iload 5, 2) := by decide +kernel
theorem dX10_item_28 : decode cX10_item 28 = .ok (.ifCond .ge 6, 3) := by decide +kernel
theorem dX10_item_31 : decode cX10_item 31 = .ok (.iload 5, 2) := by decide +kernel
theorem dX10_item_33 : decode cX10_item 33 = .ok (.ireturn, 1) := by decide +kernel
theorem dX10_item_34 : decode cX10_item 34 = .ok (.aload_n 0, 1) := by decide +kernel
theorem dX10_item_35 : decode cX10_item 35 = .ok (.getfield 123, 3) := by decide +kernel
theorem dX10_item_38 : decode cX10_item 38 = .ok (.bipush 48, 2) := by decide +kernel
theorem dX10_item_40 : decode cX10_item 40 = .ok (.iload_n 1, 1) := by decide +kernel
theorem dX10_item_41 : decode cX10_item 41 = .ok (.imul, 1) := by decide +kernel
theorem dX10_item_42 : decode cX10_item 42 = .ok (.iload_n 3, 1) := by decide +kernel
theorem dX10_item_43 : decode cX10_item 43 = .ok (.iadd, 1) := by decide +kernel
theorem dX10_item_44 : decode cX10_item 44 = .ok (.iload_n 2, 1) := by decide +kernel
theorem dX10_item_45 : decode cX10_item 45 = .ok (.ifCond .ne 16, 3) := by decide +kernel
theorem dX10_item_48 : decode cX10_item 48 = .ok (.iload 4, 2) := by decide +kernel
theorem dX10_item_50 : decode cX10_item 50 = .ok (.ifCond .eq 7, 3) := by decide +kernel
theorem dX10_item_53 : decode cX10_item 53 = .ok (.iconst 1, 1) := by decide +kernel
theorem dX10_item_54 : decode cX10_item 54 = .ok (.goto 20, 3) := by decide +kernel
theorem dX10_item_57 : decode cX10_item 57 = .ok (.iconst 0, 1) := by decide +kernel
theorem dX10_item_58 : decode cX10_item 58 = .ok (.goto 16, 3) := by decide +kernel
theorem dX10_item_61 : decode cX10_item 61 = .ok (.iload_n 2, 1) := by decide +kernel
theorem dX10_item_62 : decode cX10_item 62 = .ok (.iconst 1, 1) := by decide +kernel
theorem dX10_item_63 : decode cX10_item 63 = .ok (.if_icmp .ne 9, 3) := by decide +kernel
theorem dX10_item_66 : decode cX10_item 66 = .ok (.iload 4, 2) := by decide +kernel
theorem dX10_item_68 : decode cX10_item 68 = .ok (.i2b, 1) := by decide +kernel
theorem dX10_item_69 : decode cX10_item 69 = .ok (.goto 5, 3) := by decide +kernel
theorem dX10_item_72 : decode cX10_item 72 = .ok (.iload 4, 2) := by decide +kernel
theorem dX10_item_74 : decode cX10_item 74 = .ok (.iastore, 1) := by decide +kernel
theorem dX10_item_75 : decode cX10_item 75 = .ok (.iconst 1, 1) := by decide +kernel
theorem dX10_item_76 : decode cX10_item 76 = .ok (.ireturn, 1) := by decide +kernel
theorem dX10_copy_0 : decode cX10_copy 0 = .ok (.iload_n 1, 1) := by decide +kernel
theorem dX10_copy_1 : decode cX10_copy 1 = .ok (.invokestatic 189, 3) := by decide +kernel
theorem dX10_copy_4 : decode cX10_copy 4 = .ok (.ifCond .eq 10, 3) := by decide +kernel
theorem dX10_copy_7 : decode cX10_copy 7 = .ok (.iload_n 3, 1) := by decide +kernel
theorem dX10_copy_8 : decode cX10_copy 8 = .ok (.invokestatic 189, 3) := by decide +kernel
theorem dX10_copy_11 : decode cX10_copy 11 = .ok (.ifCond .ne 5, 3) := by decide +kernel
theorem dX10_copy_14 : decode cX10_copy 14 = .ok (.iconst (-1), 1) := by decide +kernel
theorem dX10_copy_15 : decode cX10_copy 15 = .ok (.ireturn, 1) := by decide +kernel
theorem dX10_copy_16 : decode cX10_copy 16 = .ok (.aload_n 0, 1) := by decide +kernel
theorem dX10_copy_17 : decode cX10_copy 17 = .ok (.getfield 117, 3) := by decide +kernel
theorem dX10_copy_20 : decode cX10_copy 20 = .ok (.iload_n 1, 1) := by decide +kernel
theorem dX10_copy_21 : decode cX10_copy 21 = .ok (.iaload, 1) := by decide +kernel
theorem dX10_copy_22 : decode cX10_copy 22 = .ok (.ifCond .lt 12, 3) := by decide +kernel
theorem dX10_copy_25 : decode cX10_copy 25 = .ok (.aload_n 0, 1) := by decide +kernel
theorem dX10_copy_26 : decode cX10_copy 26 = .ok (.getfield 117, 3) := by decide +kernel
theorem dX10_copy_29 : decode cX10_copy 29 = .ok (.iload_n 3, 1) := by decide +kernel
theorem dX10_copy_30 : decode cX10_copy 30 = .ok (.iaload, 1) := by decide +kernel
theorem dX10_copy_31 : decode cX10_copy 31 = .ok (.ifCond .ge 6, 3) := by decide +kernel
theorem dX10_copy_34 : decode cX10_copy 34 = .ok (.bipush (-11), 2) := by decide +kernel
theorem dX10_copy_36 : decode cX10_copy 36 = .ok (.ireturn, 1) := by decide +kernel
theorem dX10_copy_37 : decode cX10_copy 37 = .ok (.aload_n 0, 1) := by decide +kernel
theorem dX10_copy_38 : decode cX10_copy 38 = .ok (.getfield 117, 3) := by decide +kernel
theorem dX10_copy_41 : decode cX10_copy 41 = .ok (.iload_n 1, 1) := by decide +kernel
theorem dX10_copy_42 : decode cX10_copy 42 = .ok (.iaload, 1) := by decide +kernel
theorem dX10_copy_43 : decode cX10_copy 43 = .ok (.aload_n 0, 1) := by decide +kernel
theorem dX10_copy_44 : decode cX10_copy 44 = .ok (.getfield 117, 3) := by decide +kernel
theorem dX10_copy_47 : decode cX10_copy 47 = .ok (.iload_n 3, 1) := by decide +kernel
theorem dX10_copy_48 : decode cX10_copy 48 = .ok (.iaload, 1) := by decide +kernel
theorem dX10_copy_49 : decode cX10_copy 49 = .ok (.if_icmp .eq 6, 3) := by decide +kernel
theorem dX10_copy_52 : decode cX10_copy 52 = .ok (.bipush (-12), 2) := by decide +kernel
theorem dX10_copy_54 : decode cX10_copy 54 = .ok (.ireturn, 1) := by decide +kernel
theorem dX10_copy_55 : decode cX10_copy 55 = .ok (.iload 5, 2) := by decide +kernel
theorem dX10_copy_57 : decode cX10_copy 57 = .ok (.ifCond .lt 38, 3) := by decide +kernel
theorem dX10_copy_60 : decode cX10_copy 60 = .ok (.aload_n 0, 1) := by decide +kernel
theorem dX10_copy_61 : decode cX10_copy 61 = .ok (.iload_n 1, 1) := by decide +kernel
theorem dX10_copy_62 : decode cX10_copy 62 = .ok (.aload_n 0, 1) := by decide +kernel
theorem dX10_copy_63 : decode cX10_copy 63 = .ok (.getfield 117, 3) := by decide +kernel
theorem dX10_copy_66 : decode cX10_copy 66 = .ok (.iload_n 1, 1) := by decide +kernel
theorem dX10_copy_67 : decode cX10_copy 67 = .ok (.iaload, 1) := by decide +kernel
theorem dX10_copy_68 : decode cX10_copy 68 = .ok (.iload_n 2, 1) := by decide +kernel
theorem dX10_copy_69 : decode cX10_copy 69 = .ok (.iload 5, 2) := by decide +kernel
theorem dX10_copy_71 : decode cX10_copy 71 = .ok (.invokevirtual 192, 3) := by decide +kernel
theorem dX10_copy_74 : decode cX10_copy 74 = .ok (.ifCond .lt 21, 3) := by decide +kernel
theorem dX10_copy_77 : decode cX10_copy 77 = .ok (.aload_n 0, 1) := by decide +kernel
theorem dX10_copy_78 : decode cX10_copy 78 = .ok (.iload_n 3, 1) := by decide +kernel
theorem dX10_copy_79 : decode cX10_copy 79 = .ok (.aload_n 0, 1) := by decide +kernel
theorem dX10_copy_80 : decode cX10_copy 80 = .ok (.getfield 117, 3) := by decide +kernel
theorem dX10_copy_83 : decode cX10_copy 83 = .ok (.iload_n 3, 1) := by decide +kernel
theorem dX10_copy_84 : decode cX10_copy 84 = .ok (.iaload, 1) := by decide +kernel
theorem dX10_copy_85 : decode cX10_copy 85 = .ok (.iload 4, 2) := by decide +kernel
theorem dX10_copy_87 : decode cX10_copy 87 = .ok (.iload 5, 2) := by decide +kernel
theorem dX10_copy_89 : decode cX10_copy 89 = .ok (.invokevirtual 192, 3) := by decide +kernel
theorem dX10_copy_92 : decode cX10_copy 92 = .ok (.ifCond .ge 6, 3) := by decide +kernel
theorem dX10_copy_95 : decode cX10_copy 95 = .ok (.bipush (-13), 2) := by decide +kernel
theorem dX10_copy_97 : decode cX10_copy 97 = .ok (.ireturn, 1) := by decide +kernel
theorem dX10_copy_98 : decode cX10_copy 98 = .ok (.iconst 0, 1) := by decide +kernel
theorem dX10_copy_99 : decode cX10_copy 99 = .ok (.istore 6, 2) := by decide +kernel
theorem dX10_copy_101 : decode cX10_copy 101 = .ok (.iload 6, 2) := by decide +kernel
theorem dX10_copy_103 : decode cX10_copy 103 = .ok (.iload 5, 2) := by decide +kernel
theorem dX10_copy_105 : decode cX10_copy 105 = .ok (.if_icmp .ge 30, 3) := by decide +kernel
theorem dX10_copy_108 : decode cX10_copy 108 = .ok (.aload_n 0, 1) := by decide +kernel
theorem dX10_copy_109 : decode cX10_copy 109 = .ok (.getfield 126, 3) := by decide +kernel
theorem dX10_copy_112 : decode cX10_copy 112 = .ok (.iload 6, 2) := by decide +kernel
theorem dX10_copy_114 : decode cX10_copy 114 = .ok (.aload_n 0, 1) := by decide +kernel
theorem dX10_copy_115 : decode cX10_copy 115 = .ok (.getfield 123, 3) := by decide +kernel
theorem dX10_copy_118 : decode cX10_copy 118 = .ok (.bipush 48, 2) := by decide +kernel
theorem dX10_copy_120 : decode cX10_copy 120 = .ok (.iload_n 1, 1) := by decide +kernel
theorem dX10_copy_121 : decode cX10_copy 121 = .ok (.imul, 1) := by decide +kernel
theorem dX10_copy_122 : decode cX10_copy 122 = .ok (.iload_n 2, 1) := by decide +kernel
theorem dX10_copy_123 : decode cX10_copy 123 = .ok (.iadd, 1) := by decide +kernel
theorem dX10_copy_124 : decode cX10_copy 124 = .ok (.iload 6, 2) := by decide +kernel
theorem dX10_copy_126 : decode cX10_copy 126 = .ok (.iadd, 1) := by decide +kernel
theorem dX10_copy_127 : decode cX10_copy 127 = .ok (.iaload, 1) := by decide +kernel
theorem dX10_copy_128 : decode cX10_copy 128 = .ok (.iastore, 1) := by decide +kernel
theorem dX10_copy_129 : decode cX10_copy 129 = .ok (.iinc 6 1, 3) := by decide +kernel
theorem dX10_copy_132 : decode cX10_copy 132 = .ok (.goto (-31), 3) := by decide +kernel
theorem dX10_copy_135 : decode cX10_copy 135 = .ok (.iconst 0, 1) := by decide +kernel
theorem dX10_copy_136 : decode cX10_copy 136 = .ok (.istore 6, 2) := by decide +kernel
theorem dX10_copy_138 : decode cX10_copy 138 = .ok (.iload 6, 2) := by decide +kernel
theorem dX10_copy_140 : decode cX10_copy 140 = .ok (.iload 5, 2) := by decide +kernel
theorem dX10_copy_142 : decode cX10_copy 142 = .ok (.if_icmp .ge 31, 3) := by decide +kernel
theorem dX10_copy_145 : decode cX10_copy 145 = .ok (.aload_n 0, 1) := by decide +kernel
theorem dX10_copy_146 : decode cX10_copy 146 = .ok (.getfield 123, 3) := by decide +kernel
theorem dX10_copy_149 : decode cX10_copy 149 = .ok (.bipush 48, 2) := by decide +kernel
theorem dX10_copy_151 : decode cX10_copy 151 = .ok (.iload_n 3, 1) := by decide +kernel
theorem dX10_copy_152 : decode cX10_copy 152 = .ok (.imul, 1) := by decide +kernel
theorem dX10_copy_153 : decode cX10_copy 153 = .ok (.iload 4, 2) := by decide +kernel
theorem dX10_copy_155 : decode cX10_copy 155 = .ok (.iadd, 1) := by decide +kernel
theorem dX10_copy_156 : decode cX10_copy 156 = .ok (.iload 6, 2) := by decide +kernel
theorem dX10_copy_158 : decode cX10_copy 158 = .ok (.iadd, 1) := by decide +kernel
theorem dX10_copy_159 : decode cX10_copy 159 = .ok (.aload_n 0, 1) := by decide +kernel
theorem dX10_copy_160 : decode cX10_copy 160 = .ok (.getfield 126, 3) := by decide +kernel
theorem dX10_copy_163 : decode cX10_copy 163 = .ok (.iload 6, 2) := by decide +kernel
theorem dX10_copy_165 : decode cX10_copy 165 = .ok (.iaload, 1) := by decide +kernel
theorem dX10_copy_166 : decode cX10_copy 166 = .ok (.iastore, 1) := by decide +kernel
theorem dX10_copy_167 : decode cX10_copy 167 = .ok (.iinc 6 1, 3) := by decide +kernel
theorem dX10_copy_170 : decode cX10_copy 170 = .ok (.goto (-32), 3) := by decide +kernel
theorem dX10_copy_173 : decode cX10_copy 173 = .ok (.iload 5, 2) := by decide +kernel
theorem dX10_copy_175 : decode cX10_copy 175 = .ok (.ireturn, 1) := by decide +kernel
theorem dJ6_bitCount_0f7a4_0 : decode cJ6_bitCount_0f7a4 0 = .ok (.iload_n 0, 1) := by decide +kernel
theorem dJ6_bitCount_0f7a4_1 : decode cJ6_bitCount_0f7a4 1 = .ok (.iload_n 0, 1) := by decide +kernel
theorem dJ6_bitCount_0f7a4_2 : decode cJ6_bitCount_0f7a4 2 = .ok (.iconst 1, 1) := by decide +kernel
theorem dJ6_bitCount_0f7a4_3 : decode cJ6_bitCount_0f7a4 3 = .ok (.iushr, 1) := by decide +kernel
theorem dJ6_bitCount_0f7a4_4 : decode cJ6_bitCount_0f7a4 4 = .ok (.ldc_w 265, 3) := by decide +kernel
theorem dJ6_bitCount_0f7a4_7 : decode cJ6_bitCount_0f7a4 7 = .ok (.iand, 1) := by decide +kernel
theorem dJ6_bitCount_0f7a4_8 : decode cJ6_bitCount_0f7a4 8 = .ok (.isub, 1) := by decide +kernel
theorem dJ6_bitCount_0f7a4_9 : decode cJ6_bitCount_0f7a4 9 = .ok (.istore_n 0, 1) := by decide +kernel
theorem dJ6_bitCount_0f7a4_10 : decode cJ6_bitCount_0f7a4 10 = .ok (.iload_n 0, 1) := by decide +kernel
theorem dJ6_bitCount_0f7a4_11 : decode cJ6_bitCount_0f7a4 11 = .ok (.ldc_w 266, 3) := by decide +kernel
theorem dJ6_bitCount_0f7a4_14 : decode cJ6_bitCount_0f7a4 14 = .ok (.iand, 1) := by decide +kernel
theorem dJ6_bitCount_0f7a4_15 : decode cJ6_bitCount_0f7a4 15 = .ok (.iload_n 0, 1) := by decide +kernel
theorem dJ6_bitCount_0f7a4_16 : decode cJ6_bitCount_0f7a4 16 = .ok (.iconst 2, 1) := by decide +kernel
theorem dJ6_bitCount_0f7a4_17 : decode cJ6_bitCount_0f7a4 17 = .ok (.iushr, 1) := by decide +kernel
theorem dJ6_bitCount_0f7a4_18 : decode cJ6_bitCount_0f7a4 18 = .ok (.ldc_w 266, 3) := by decide +kernel
theorem dJ6_bitCount_0f7a4_21 : decode cJ6_bitCount_0f7a4 21 = .ok (.iand, 1) := by decide +kernel
theorem dJ6_bitCount_0f7a4_22 : decode cJ6_bitCount_0f7a4 22 = .ok (.iadd, 1) := by decide +kernel
theorem dJ6_bitCount_0f7a4_23 : decode cJ6_bitCount_0f7a4 23 = .ok (.istore_n 0, 1) := by decide +kernel
theorem dJ6_bitCount_0f7a4_24 : decode cJ6_bitCount_0f7a4 24 = .ok (.iload_n 0, 1) := by decide +kernel
theorem dJ6_bitCount_0f7a4_25 : decode cJ6_bitCount_0f7a4 25 = .ok (.iload_n 0, 1) := by decide +kernel
theorem dJ6_bitCount_0f7a4_26 : decode cJ6_bitCount_0f7a4 26 = .ok (.iconst 4, 1) := by decide +kernel
theorem dJ6_bitCount_0f7a4_27 : decode cJ6_bitCount_0f7a4 27 = .ok (.iushr, 1) := by decide +kernel
theorem dJ6_bitCount_0f7a4_28 : decode cJ6_bitCount_0f7a4 28 = .ok (.iadd, 1) := by decide +kernel
theorem dJ6_bitCount_0f7a4_29 : decode cJ6_bitCount_0f7a4 29 = .ok (.ldc_w 267, 3) := by decide +kernel
theorem dJ6_bitCount_0f7a4_32 : decode cJ6_bitCount_0f7a4 32 = .ok (.iand, 1) := by decide +kernel
theorem dJ6_bitCount_0f7a4_33 : decode cJ6_bitCount_0f7a4 33 = .ok (.istore_n 0, 1) := by decide +kernel
theorem dJ6_bitCount_0f7a4_34 : decode cJ6_bitCount_0f7a4 34 = .ok (.iload_n 0, 1) := by decide +kernel
theorem dJ6_bitCount_0f7a4_35 : decode cJ6_bitCount_0f7a4 35 = .ok (.iload_n 0, 1) := by decide +kernel
theorem dJ6_bitCount_0f7a4_36 : decode cJ6_bitCount_0f7a4 36 = .ok (.bipush 8, 2) := by decide +kernel
theorem dJ6_bitCount_0f7a4_38 : decode cJ6_bitCount_0f7a4 38 = .ok (.iushr, 1) := by decide +kernel
theorem dJ6_bitCount_0f7a4_39 : decode cJ6_bitCount_0f7a4 39 = .ok (.iadd, 1) := by decide +kernel
theorem dJ6_bitCount_0f7a4_40 : decode cJ6_bitCount_0f7a4 40 = .ok (.istore_n 0, 1) := by decide +kernel
theorem dJ6_bitCount_0f7a4_41 : decode cJ6_bitCount_0f7a4 41 = .ok (.iload_n 0, 1) := by decide +kernel
theorem dJ6_bitCount_0f7a4_42 : decode cJ6_bitCount_0f7a4 42 = .ok (.iload_n 0, 1) := by decide +kernel
theorem dJ6_bitCount_0f7a4_43 : decode cJ6_bitCount_0f7a4 43 = .ok (.bipush 16, 2) := by decide +kernel
theorem dJ6_bitCount_0f7a4_45 : decode cJ6_bitCount_0f7a4 45 = .ok (.iushr, 1) := by decide +kernel
theorem dJ6_bitCount_0f7a4_46 : decode cJ6_bitCount_0f7a4 46 = .ok (.iadd, 1) := by decide +kernel
theorem dJ6_bitCount_0f7a4_47 : decode cJ6_bitCount_0f7a4 47 = .ok (.istore_n 0, 1) := by decide +kernel
theorem dJ6_bitCount_0f7a4_48 : decode cJ6_bitCount_0f7a4 48 = .ok (.iload_n 0, 1) := by decide +kernel
theorem dJ6_bitCount_0f7a4_49 : decode cJ6_bitCount_0f7a4 49 = .ok (.bipush 63, 2) := by decide +kernel
theorem dJ6_bitCount_0f7a4_51 : decode cJ6_bitCount_0f7a4 51 = .ok (.iand, 1) := by decide +kernel
theorem dJ6_bitCount_0f7a4_52 : decode cJ6_bitCount_0f7a4 52 = .ok (.ireturn, 1) := by decide +kernel
theorem dJ9_max_7cf53_0 : decode cJ9_max_7cf53 0 = .ok (.iload_n 0, 1) := by decide +kernel
theorem dJ9_max_7cf53_1 : decode cJ9_max_7cf53 1 = .ok (.iload_n 1, 1) := by decide +kernel
theorem dJ9_max_7cf53_2 : decode cJ9_max_7cf53 2 = .ok (.if_icmp .lt 7, 3) := by decide +kernel
theorem dJ9_max_7cf53_5 : decode cJ9_max_7cf53 5 = .ok (.iload_n 0, 1) := by decide +kernel
theorem dJ9_max_7cf53_6 : decode cJ9_max_7cf53 6 = .ok (.goto 4, 3) := by decide +kernel
theorem dJ9_max_7cf53_9 : decode cJ9_max_7cf53 9 = .ok (.iload_n 1, 1) := by decide +kernel
theorem dJ9_max_7cf53_10 : decode cJ9_max_7cf53 10 = .ok (.ireturn, 1) := by decide +kernel
theorem dJ7_fill_53178_0 : decode cJ7_fill_53178 0 = .ok (.iconst 0, 1) := by decide +kernel
theorem dJ7_fill_53178_1 : decode cJ7_fill_53178 1 = .ok (.istore_n 2, 1) := by decide +kernel
theorem dJ7_fill_53178_2 : decode cJ7_fill_53178 2 = .ok (.aload_n 0, 1) := by decide +kernel
theorem dJ7_fill_53178_3 : decode cJ7_fill_53178 3 = .ok (.arraylength, 1) := by decide +kernel
theorem dJ7_fill_53178_4 : decode cJ7_fill_53178 4 = .ok (.istore_n 3, 1) := by decide +kernel
theorem dJ7_fill_53178_5 : decode cJ7_fill_53178 5 = .ok (.iload_n 2, 1) := by decide +kernel
theorem dJ7_fill_53178_6 : decode cJ7_fill_53178 6 = .ok (.iload_n 3, 1) := by decide +kernel
theorem dJ7_fill_53178_7 : decode cJ7_fill_53178 7 = .ok (.if_icmp .ge 13, 3) := by decide +kernel
theorem dJ7_fill_53178_10 : decode cJ7_fill_53178 10 = .ok (.aload_n 0, 1) := by decide +kernel
theorem dJ7_fill_53178_11 : decode cJ7_fill_53178 11 = .ok (.iload_n 2, 1) := by decide +kernel
theorem dJ7_fill_53178_12 : decode cJ7_fill_53178 12 = .ok (.iload_n 1, 1) := by decide +kernel
theorem dJ7_fill_53178_13 : decode cJ7_fill_53178 13 = .ok (.iastore, 1) := by decide +kernel
theorem dJ7_fill_53178_14 : decode cJ7_fill_53178 14 = .ok (.iinc 2 1, 3) := by decide +kernel
theorem dJ7_fill_53178_17 : decode cJ7_fill_53178 17 = .ok (.goto (-12), 3) := by decide +kernel
theorem dJ7_fill_53178_20 : decode cJ7_fill_53178 20 = .ok (.return_, 1) := by decide +kernel
theorem dL_law_0 : decode cL_law 0 = .ok (.new 7, 3) := by decide +kernel
theorem dL_law_3 : decode cL_law 3 = .ok (.dup, 1) := by decide +kernel
theorem dL_law_4 : decode cL_law 4 = .ok (.invokespecial 9, 3) := by decide +kernel
theorem dL_law_7 : decode cL_law 7 = .ok (.astore_n 1, 1) := by decide +kernel
theorem dL_law_8 : decode cL_law 8 = .ok (.new 10, 3) := by decide +kernel
theorem dL_law_11 : decode cL_law 11 = .ok (.dup, 1) := by decide +kernel
theorem dL_law_12 : decode cL_law 12 = .ok (.invokespecial 12, 3) := by decide +kernel
theorem dL_law_15 : decode cL_law 15 = .ok (.astore_n 2, 1) := by decide +kernel
theorem dL_law_16 : decode cL_law 16 = .ok (.iconst 0, 1) := by decide +kernel
theorem dL_law_17 : decode cL_law 17 = .ok (.istore_n 3, 1) := by decide +kernel
theorem dL_law_18 : decode cL_law 18 = .ok (.iload_n 3, 1) := by decide +kernel
theorem dL_law_19 : decode cL_law 19 = .ok (.aload_n 0, 1) := by decide +kernel
theorem dL_law_20 : decode cL_law 20 = .ok (.arraylength, 1) := by decide +kernel
theorem dL_law_21 : decode cL_law 21 = .ok (.bipush 6, 2) := by decide +kernel
theorem dL_law_23 : decode cL_law 23 = .ok (.isub, 1) := by decide +kernel
theorem dL_law_24 : decode cL_law 24 = .ok (.if_icmp .gt 1324, 3) := by decide +kernel
theorem dL_law_27 : decode cL_law 27 = .ok (.aload_n 0, 1) := by decide +kernel
theorem dL_law_28 : decode cL_law 28 = .ok (.iload_n 3, 1) := by decide +kernel
theorem dL_law_29 : decode cL_law 29 = .ok (.iaload, 1) := by decide +kernel
theorem dL_law_30 : decode cL_law 30 = .ok (.bipush 63, 2) := by decide +kernel
theorem dL_law_32 : decode cL_law 32 = .ok (.iand, 1) := by decide +kernel
theorem dL_law_33 : decode cL_law 33 = .ok (.tableswitch 1309 0 35 #[159, 222, 245, 288, 311, 354, 397, 430, 473, 526, 549, 582, 615, 648, 681, 704, 727, 760, 773, 786, 809, 842, 885, 898, 921, 934, 947, 970, 993, 1026, 1101, 1114, 1127, 1170, 1193, 1246], 159) := by decide +kernel
theorem dL_law_192 : decode cL_law 192 = .ok (.aload_n 1, 1) := by decide +kernel
theorem dL_law_193 : decode cL_law 193 = .ok (.aload_n 0, 1) := by decide +kernel
theorem dL_law_194 : decode cL_law 194 = .ok (.iload_n 3, 1) := by decide +kernel
theorem dL_law_195 : decode cL_law 195 = .ok (.iconst 1, 1) := by decide +kernel
theorem dL_law_196 : decode cL_law 196 = .ok (.iadd, 1) := by decide +kernel
theorem dL_law_197 : decode cL_law 197 = .ok (.iaload, 1) := by decide +kernel
theorem dL_law_198 : decode cL_law 198 = .ok (.i2l, 1) := by decide +kernel
theorem dL_law_199 : decode cL_law 199 = .ok (.bipush 32, 2) := by decide +kernel
theorem dL_law_201 : decode cL_law 201 = .ok (.lshl, 1) := by decide +kernel
theorem dL_law_202 : decode cL_law 202 = .ok (.aload_n 0, 1) := by decide +kernel
theorem dL_law_203 : decode cL_law 203 = .ok (.iload_n 3, 1) := by decide +kernel
theorem dL_law_204 : decode cL_law 204 = .ok (.iconst 2, 1) := by decide +kernel
theorem dL_law_205 : decode cL_law 205 = .ok (.iadd, 1) := by decide +kernel
theorem dL_law_206 : decode cL_law 206 = .ok (.iaload, 1) := by decide +kernel
theorem dL_law_207 : decode cL_law 207 = .ok (.i2l, 1) := by decide +kernel
theorem dL_law_208 : decode cL_law 208 = .ok (.ldc2_w 13, 3) := by decide +kernel
theorem dL_law_211 : decode cL_law 211 = .ok (.land, 1) := by decide +kernel
theorem dL_law_212 : decode cL_law 212 = .ok (.lor, 1) := by decide +kernel
theorem dL_law_213 : decode cL_law 213 = .ok (.aload_n 0, 1) := by decide +kernel
theorem dL_law_214 : decode cL_law 214 = .ok (.iload_n 3, 1) := by decide +kernel
theorem dL_law_215 : decode cL_law 215 = .ok (.iconst 3, 1) := by decide +kernel
theorem dL_law_216 : decode cL_law 216 = .ok (.iadd, 1) := by decide +kernel
theorem dL_law_217 : decode cL_law 217 = .ok (.iaload, 1) := by decide +kernel
theorem dL_law_218 : decode cL_law 218 = .ok (.invokevirtual 15, 3) := by decide +kernel
theorem dL_law_221 : decode cL_law 221 = .ok (.aload_n 2, 1) := by decide +kernel
theorem dL_law_222 : decode cL_law 222 = .ok (.aload_n 0, 1) := by decide +kernel
theorem dL_law_223 : decode cL_law 223 = .ok (.iload_n 3, 1) := by decide +kernel
theorem dL_law_224 : decode cL_law 224 = .ok (.iconst 1, 1) := by decide +kernel
theorem dL_law_225 : decode cL_law 225 = .ok (.iadd, 1) := by decide +kernel
theorem dL_law_226 : decode cL_law 226 = .ok (.iaload, 1) := by decide +kernel
theorem dL_law_227 : decode cL_law 227 = .ok (.i2l, 1) := by decide +kernel
theorem dL_law_228 : decode cL_law 228 = .ok (.bipush 32, 2) := by decide +kernel
theorem dL_law_230 : decode cL_law 230 = .ok (.lshl, 1) := by decide +kernel
theorem dL_law_231 : decode cL_law 231 = .ok (.aload_n 0, 1) := by decide +kernel
theorem dL_law_232 : decode cL_law 232 = .ok (.iload_n 3, 1) := by decide +kernel
theorem dL_law_233 : decode cL_law 233 = .ok (.iconst 2, 1) := by decide +kernel
theorem dL_law_234 : decode cL_law 234 = .ok (.iadd, 1) := by decide +kernel
theorem dL_law_235 : decode cL_law 235 = .ok (.iaload, 1) := by decide +kernel
theorem dL_law_236 : decode cL_law 236 = .ok (.i2l, 1) := by decide +kernel
theorem dL_law_237 : decode cL_law 237 = .ok (.ldc2_w 13, 3) := by decide +kernel
theorem dL_law_240 : decode cL_law 240 = .ok (.land, 1) := by decide +kernel
theorem dL_law_241 : decode cL_law 241 = .ok (.lor, 1) := by decide +kernel
theorem dL_law_242 : decode cL_law 242 = .ok (.aload_n 0, 1) := by decide +kernel
theorem dL_law_243 : decode cL_law 243 = .ok (.iload_n 3, 1) := by decide +kernel
theorem dL_law_244 : decode cL_law 244 = .ok (.iconst 3, 1) := by decide +kernel
theorem dL_law_245 : decode cL_law 245 = .ok (.iadd, 1) := by decide +kernel
theorem dL_law_246 : decode cL_law 246 = .ok (.iaload, 1) := by decide +kernel
theorem dL_law_247 : decode cL_law 247 = .ok (.invokevirtual 19, 3) := by decide +kernel
theorem dL_law_250 : decode cL_law 250 = .ok (.if_icmp .eq 1092, 3) := by decide +kernel
theorem dL_law_253 : decode cL_law 253 = .ok (.iconst 0, 1) := by decide +kernel
theorem dL_law_254 : decode cL_law 254 = .ok (.ireturn, 1) := by decide +kernel
theorem dL_law_255 : decode cL_law 255 = .ok (.aload_n 1, 1) := by decide +kernel
theorem dL_law_256 : decode cL_law 256 = .ok (.aload_n 0, 1) := by decide +kernel
theorem dL_law_257 : decode cL_law 257 = .ok (.iload_n 3, 1) := by decide +kernel
theorem dL_law_258 : decode cL_law 258 = .ok (.iconst 1, 1) := by decide +kernel
theorem dL_law_259 : decode cL_law 259 = .ok (.iadd, 1) := by decide +kernel
theorem dL_law_260 : decode cL_law 260 = .ok (.iaload, 1) := by decide +kernel
theorem dL_law_261 : decode cL_law 261 = .ok (.invokevirtual 20, 3) := by decide +kernel
theorem dL_law_264 : decode cL_law 264 = .ok (.aload_n 2, 1) := by decide +kernel
theorem dL_law_265 : decode cL_law 265 = .ok (.aload_n 0, 1) := by decide +kernel
theorem dL_law_266 : decode cL_law 266 = .ok (.iload_n 3, 1) := by decide +kernel
theorem dL_law_267 : decode cL_law 267 = .ok (.iconst 1, 1) := by decide +kernel
theorem dL_law_268 : decode cL_law 268 = .ok (.iadd, 1) := by decide +kernel
theorem dL_law_269 : decode cL_law 269 = .ok (.iaload, 1) := by decide +kernel
theorem dL_law_270 : decode cL_law 270 = .ok (.invokevirtual 24, 3) := by decide +kernel
theorem dL_law_273 : decode cL_law 273 = .ok (.if_icmp .eq 1069, 3) := by decide +kernel
theorem dL_law_276 : decode cL_law 276 = .ok (.iconst 0, 1) := by decide +kernel
theorem dL_law_277 : decode cL_law 277 = .ok (.ireturn, 1) := by decide +kernel
theorem dL_law_278 : decode cL_law 278 = .ok (.aload_n 1, 1) := by decide +kernel
theorem dL_law_279 : decode cL_law 279 = .ok (.aload_n 0, 1) := by decide +kernel
theorem dL_law_280 : decode cL_law 280 = .ok (.iload_n 3, 1) := by decide +kernel
theorem dL_law_281 : decode cL_law 281 = .ok (.iconst 1, 1) := by decide +kernel
theorem dL_law_282 : decode cL_law 282 = .ok (.iadd, 1) := by decide +kernel
theorem dL_law_283 : decode cL_law 283 = .ok (.iaload, 1) := by decide +kernel
theorem dL_law_284 : decode cL_law 284 = .ok (.aload_n 0, 1) := by decide +kernel
theorem dL_law_285 : decode cL_law 285 = .ok (.iload_n 3, 1) := by decide +kernel
theorem dL_law_286 : decode cL_law 286 = .ok (.iconst 2, 1) := by decide +kernel
theorem dL_law_287 : decode cL_law 287 = .ok (.iadd, 1) := by decide +kernel
theorem dL_law_288 : decode cL_law 288 = .ok (.iaload, 1) := by decide +kernel
theorem dL_law_289 : decode cL_law 289 = .ok (.aload_n 0, 1) := by decide +kernel
theorem dL_law_290 : decode cL_law 290 = .ok (.iload_n 3, 1) := by decide +kernel
theorem dL_law_291 : decode cL_law 291 = .ok (.iconst 3, 1) := by decide +kernel
theorem dL_law_292 : decode cL_law 292 = .ok (.iadd, 1) := by decide +kernel
theorem dL_law_293 : decode cL_law 293 = .ok (.iaload, 1) := by decide +kernel
theorem dL_law_294 : decode cL_law 294 = .ok (.invokevirtual 25, 3) := by decide +kernel
theorem dL_law_297 : decode cL_law 297 = .ok (.aload_n 2, 1) := by decide +kernel
theorem dL_law_298 : decode cL_law 298 = .ok (.aload_n 0, 1) := by decide +kernel
theorem dL_law_299 : decode cL_law 299 = .ok (.iload_n 3, 1) := by decide +kernel
theorem dL_law_300 : decode cL_law 300 = .ok (.iconst 1, 1) := by decide +kernel
theorem dL_law_301 : decode cL_law 301 = .ok (.iadd, 1) := by decide +kernel
theorem dL_law_302 : decode cL_law 302 = .ok (.iaload, 1) := by decide +kernel
theorem dL_law_303 : decode cL_law 303 = .ok (.aload_n 0, 1) := by decide +kernel
theorem dL_law_304 : decode cL_law 304 = .ok (.iload_n 3, 1) := by decide +kernel
theorem dL_law_305 : decode cL_law 305 = .ok (.iconst 2, 1) := by decide +kernel
theorem dL_law_306 : decode cL_law 306 = .ok (.iadd, 1) := by decide +kernel
theorem dL_law_307 : decode cL_law 307 = .ok (.iaload, 1) := by decide +kernel
theorem dL_law_308 : decode cL_law 308 = .ok (.aload_n 0, 1) := by decide +kernel
theorem dL_law_309 : decode cL_law 309 = .ok (.iload_n 3, 1) := by decide +kernel
theorem dL_law_310 : decode cL_law 310 = .ok (.iconst 3, 1) := by decide +kernel
theorem dL_law_311 : decode cL_law 311 = .ok (.iadd, 1) := by decide +kernel
theorem dL_law_312 : decode cL_law 312 = .ok (.iaload, 1) := by decide +kernel
theorem dL_law_313 : decode cL_law 313 = .ok (.invokevirtual 29, 3) := by decide +kernel
theorem dL_law_316 : decode cL_law 316 = .ok (.if_icmp .eq 1026, 3) := by decide +kernel
theorem dL_law_319 : decode cL_law 319 = .ok (.iconst 0, 1) := by decide +kernel
theorem dL_law_320 : decode cL_law 320 = .ok (.ireturn, 1) := by decide +kernel
theorem dL_law_321 : decode cL_law 321 = .ok (.aload_n 1, 1) := by decide +kernel
theorem dL_law_322 : decode cL_law 322 = .ok (.aload_n 0, 1) := by decide +kernel
theorem dL_law_323 : decode cL_law 323 = .ok (.iload_n 3, 1) := by decide +kernel
theorem dL_law_324 : decode cL_law 324 = .ok (.iconst 1, 1) := by decide +kernel
theorem dL_law_325 : decode cL_law 325 = .ok (.iadd, 1) := by decide +kernel
theorem dL_law_326 : decode cL_law 326 = .ok (.iaload, 1) := by decide +kernel
theorem dL_law_327 : decode cL_law 327 = .ok (.invokevirtual 30, 3) := by decide +kernel
theorem dL_law_330 : decode cL_law 330 = .ok (.aload_n 2, 1) := by decide +kernel
theorem dL_law_331 : decode cL_law 331 = .ok (.aload_n 0, 1) := by decide +kernel
theorem dL_law_332 : decode cL_law 332 = .ok (.iload_n 3, 1) := by decide +kernel
theorem dL_law_333 : decode cL_law 333 = .ok (.iconst 1, 1) := by decide +kernel
theorem dL_law_334 : decode cL_law 334 = .ok (.iadd, 1) := by decide +kernel
theorem dL_law_335 : decode cL_law 335 = .ok (.iaload, 1) := by decide +kernel
theorem dL_law_336 : decode cL_law 336 = .ok (.invokevirtual 33, 3) := by decide +kernel
theorem dL_law_339 : decode cL_law 339 = .ok (.if_icmp .eq 1003, 3) := by decide +kernel
theorem dL_law_342 : decode cL_law 342 = .ok (.iconst 0, 1) := by decide +kernel
theorem dL_law_343 : decode cL_law 343 = .ok (.ireturn, 1) := by decide +kernel
theorem dL_law_344 : decode cL_law 344 = .ok (.aload_n 1, 1) := by decide +kernel
theorem dL_law_345 : decode cL_law 345 = .ok (.aload_n 0, 1) := by decide +kernel
theorem dL_law_346 : decode cL_law 346 = .ok (.iload_n 3, 1) := by decide +kernel
theorem dL_law_347 : decode cL_law 347 = .ok (.iconst 1, 1) := by decide +kernel
theorem dL_law_348 : decode cL_law 348 = .ok (.iadd, 1) := by decide +kernel
theorem dL_law_349 : decode cL_law 349 = .ok (.iaload, 1) := by decide +kernel
theorem dL_law_350 : decode cL_law 350 = .ok (.aload_n 0, 1) := by decide +kernel
theorem dL_law_351 : decode cL_law 351 = .ok (.iload_n 3, 1) := by decide +kernel
theorem dL_law_352 : decode cL_law 352 = .ok (.iconst 2, 1) := by decide +kernel
theorem dL_law_353 : decode cL_law 353 = .ok (.iadd, 1) := by decide +kernel
theorem dL_law_354 : decode cL_law 354 = .ok (.iaload, 1) := by decide +kernel
theorem dL_law_355 : decode cL_law 355 = .ok (.aload_n 0, 1) := by decide +kernel
theorem dL_law_356 : decode cL_law 356 = .ok (.iload_n 3, 1) := by decide +kernel
theorem dL_law_357 : decode cL_law 357 = .ok (.iconst 3, 1) := by decide +kernel
theorem dL_law_358 : decode cL_law 358 = .ok (.iadd, 1) := by decide +kernel
theorem dL_law_359 : decode cL_law 359 = .ok (.iaload, 1) := by decide +kernel
theorem dL_law_360 : decode cL_law 360 = .ok (.invokevirtual 34, 3) := by decide +kernel
theorem dL_law_363 : decode cL_law 363 = .ok (.aload_n 2, 1) := by decide +kernel
theorem dL_law_364 : decode cL_law 364 = .ok (.aload_n 0, 1) := by decide +kernel
theorem dL_law_365 : decode cL_law 365 = .ok (.iload_n 3, 1) := by decide +kernel
theorem dL_law_366 : decode cL_law 366 = .ok (.iconst 1, 1) := by decide +kernel
theorem dL_law_367 : decode cL_law 367 = .ok (.iadd, 1) := by decide +kernel
theorem dL_law_368 : decode cL_law 368 = .ok (.iaload, 1) := by decide +kernel
theorem dL_law_369 : decode cL_law 369 = .ok (.aload_n 0, 1) := by decide +kernel
theorem dL_law_370 : decode cL_law 370 = .ok (.iload_n 3, 1) := by decide +kernel
theorem dL_law_371 : decode cL_law 371 = .ok (.iconst 2, 1) := by decide +kernel
theorem dL_law_372 : decode cL_law 372 = .ok (.iadd, 1) := by decide +kernel
theorem dL_law_373 : decode cL_law 373 = .ok (.iaload, 1) := by decide +kernel
theorem dL_law_374 : decode cL_law 374 = .ok (.aload_n 0, 1) := by decide +kernel
theorem dL_law_375 : decode cL_law 375 = .ok (.iload_n 3, 1) := by decide +kernel
theorem dL_law_376 : decode cL_law 376 = .ok (.iconst 3, 1) := by decide +kernel
theorem dL_law_377 : decode cL_law 377 = .ok (.iadd, 1) := by decide +kernel
theorem dL_law_378 : decode cL_law 378 = .ok (.iaload, 1) := by decide +kernel
theorem dL_law_379 : decode cL_law 379 = .ok (.invokevirtual 37, 3) := by decide +kernel
theorem dL_law_382 : decode cL_law 382 = .ok (.if_icmp .eq 960, 3) := by decide +kernel
theorem dL_law_385 : decode cL_law 385 = .ok (.iconst 0, 1) := by decide +kernel
theorem dL_law_386 : decode cL_law 386 = .ok (.ireturn, 1) := by decide +kernel
theorem dL_law_387 : decode cL_law 387 = .ok (.aload_n 1, 1) := by decide +kernel
theorem dL_law_388 : decode cL_law 388 = .ok (.aload_n 0, 1) := by decide +kernel
theorem dL_law_389 : decode cL_law 389 = .ok (.iload_n 3, 1) := by decide +kernel
theorem dL_law_390 : decode cL_law 390 = .ok (.iconst 1, 1) := by decide +kernel
theorem dL_law_391 : decode cL_law 391 = .ok (.iadd, 1) := by decide +kernel
theorem dL_law_392 : decode cL_law 392 = .ok (.iaload, 1) := by decide +kernel
theorem dL_law_393 : decode cL_law 393 = .ok (.aload_n 0, 1) := by decide +kernel
theorem dL_law_394 : decode cL_law 394 = .ok (.iload_n 3, 1) := by decide +kernel
theorem dL_law_395 : decode cL_law 395 = .ok (.iconst 2, 1) := by decide +kernel
theorem dL_law_396 : decode cL_law 396 = .ok (.iadd, 1) := by decide +kernel
theorem dL_law_397 : decode cL_law 397 = .ok (.iaload, 1) := by decide +kernel
theorem dL_law_398 : decode cL_law 398 = .ok (.aload_n 0, 1) := by decide +kernel
theorem dL_law_399 : decode cL_law 399 = .ok (.iload_n 3, 1) := by decide +kernel
theorem dL_law_400 : decode cL_law 400 = .ok (.iconst 3, 1) := by decide +kernel
theorem dL_law_401 : decode cL_law 401 = .ok (.iadd, 1) := by decide +kernel
theorem dL_law_402 : decode cL_law 402 = .ok (.iaload, 1) := by decide +kernel
theorem dL_law_403 : decode cL_law 403 = .ok (.invokevirtual 38, 3) := by decide +kernel
theorem dL_law_406 : decode cL_law 406 = .ok (.aload_n 2, 1) := by decide +kernel
theorem dL_law_407 : decode cL_law 407 = .ok (.aload_n 0, 1) := by decide +kernel
theorem dL_law_408 : decode cL_law 408 = .ok (.iload_n 3, 1) := by decide +kernel
theorem dL_law_409 : decode cL_law 409 = .ok (.iconst 1, 1) := by decide +kernel
theorem dL_law_410 : decode cL_law 410 = .ok (.iadd, 1) := by decide +kernel
theorem dL_law_411 : decode cL_law 411 = .ok (.iaload, 1) := by decide +kernel
theorem dL_law_412 : decode cL_law 412 = .ok (.aload_n 0, 1) := by decide +kernel
theorem dL_law_413 : decode cL_law 413 = .ok (.iload_n 3, 1) := by decide +kernel
theorem dL_law_414 : decode cL_law 414 = .ok (.iconst 2, 1) := by decide +kernel
theorem dL_law_415 : decode cL_law 415 = .ok (.iadd, 1) := by decide +kernel
theorem dL_law_416 : decode cL_law 416 = .ok (.iaload, 1) := by decide +kernel
theorem dL_law_417 : decode cL_law 417 = .ok (.aload_n 0, 1) := by decide +kernel
theorem dL_law_418 : decode cL_law 418 = .ok (.iload_n 3, 1) := by decide +kernel
theorem dL_law_419 : decode cL_law 419 = .ok (.iconst 3, 1) := by decide +kernel
theorem dL_law_420 : decode cL_law 420 = .ok (.iadd, 1) := by decide +kernel
theorem dL_law_421 : decode cL_law 421 = .ok (.iaload, 1) := by decide +kernel
theorem dL_law_422 : decode cL_law 422 = .ok (.invokevirtual 41, 3) := by decide +kernel
theorem dL_law_425 : decode cL_law 425 = .ok (.if_icmp .eq 917, 3) := by decide +kernel
theorem dL_law_428 : decode cL_law 428 = .ok (.iconst 0, 1) := by decide +kernel
theorem dL_law_429 : decode cL_law 429 = .ok (.ireturn, 1) := by decide +kernel
theorem dL_law_430 : decode cL_law 430 = .ok (.aload_n 1, 1) := by decide +kernel
theorem dL_law_431 : decode cL_law 431 = .ok (.aload_n 0, 1) := by decide +kernel
theorem dL_law_432 : decode cL_law 432 = .ok (.iload_n 3, 1) := by decide +kernel
theorem dL_law_433 : decode cL_law 433 = .ok (.iconst 1, 1) := by decide +kernel
theorem dL_law_434 : decode cL_law 434 = .ok (.iadd, 1) := by decide +kernel
theorem dL_law_435 : decode cL_law 435 = .ok (.iaload, 1) := by decide +kernel
theorem dL_law_436 : decode cL_law 436 = .ok (.aload_n 0, 1) := by decide +kernel
theorem dL_law_437 : decode cL_law 437 = .ok (.iload_n 3, 1) := by decide +kernel
theorem dL_law_438 : decode cL_law 438 = .ok (.iconst 2, 1) := by decide +kernel
theorem dL_law_439 : decode cL_law 439 = .ok (.iadd, 1) := by decide +kernel
theorem dL_law_440 : decode cL_law 440 = .ok (.iaload, 1) := by decide +kernel
theorem dL_law_441 : decode cL_law 441 = .ok (.invokevirtual 42, 3) := by decide +kernel
theorem dL_law_444 : decode cL_law 444 = .ok (.aload_n 2, 1) := by decide +kernel
theorem dL_law_445 : decode cL_law 445 = .ok (.aload_n 0, 1) := by decide +kernel
theorem dL_law_446 : decode cL_law 446 = .ok (.iload_n 3, 1) := by decide +kernel
theorem dL_law_447 : decode cL_law 447 = .ok (.iconst 1, 1) := by decide +kernel
theorem dL_law_448 : decode cL_law 448 = .ok (.iadd, 1) := by decide +kernel
theorem dL_law_449 : decode cL_law 449 = .ok (.iaload, 1) := by decide +kernel
theorem dL_law_450 : decode cL_law 450 = .ok (.aload_n 0, 1) := by decide +kernel
theorem dL_law_451 : decode cL_law 451 = .ok (.iload_n 3, 1) := by decide +kernel
theorem dL_law_452 : decode cL_law 452 = .ok (.iconst 2, 1) := by decide +kernel
theorem dL_law_453 : decode cL_law 453 = .ok (.iadd, 1) := by decide +kernel
theorem dL_law_454 : decode cL_law 454 = .ok (.iaload, 1) := by decide +kernel
theorem dL_law_455 : decode cL_law 455 = .ok (.invokevirtual 46, 3) := by decide +kernel
theorem dL_law_458 : decode cL_law 458 = .ok (.if_icmp .eq 884, 3) := by decide +kernel
theorem dL_law_461 : decode cL_law 461 = .ok (.iconst 0, 1) := by decide +kernel
theorem dL_law_462 : decode cL_law 462 = .ok (.ireturn, 1) := by decide +kernel
theorem dL_law_463 : decode cL_law 463 = .ok (.aload_n 1, 1) := by decide +kernel
theorem dL_law_464 : decode cL_law 464 = .ok (.aload_n 0, 1) := by decide +kernel
theorem dL_law_465 : decode cL_law 465 = .ok (.iload_n 3, 1) := by decide +kernel
theorem dL_law_466 : decode cL_law 466 = .ok (.iconst 1, 1) := by decide +kernel
theorem dL_law_467 : decode cL_law 467 = .ok (.iadd, 1) := by decide +kernel
theorem dL_law_468 : decode cL_law 468 = .ok (.iaload, 1) := by decide +kernel
theorem dL_law_469 : decode cL_law 469 = .ok (.aload_n 0, 1) := by decide +kernel
theorem dL_law_470 : decode cL_law 470 = .ok (.iload_n 3, 1) := by decide +kernel
theorem dL_law_471 : decode cL_law 471 = .ok (.iconst 2, 1) := by decide +kernel
theorem dL_law_472 : decode cL_law 472 = .ok (.iadd, 1) := by decide +kernel
theorem dL_law_473 : decode cL_law 473 = .ok (.iaload, 1) := by decide +kernel
theorem dL_law_474 : decode cL_law 474 = .ok (.aload_n 0, 1) := by decide +kernel
theorem dL_law_475 : decode cL_law 475 = .ok (.iload_n 3, 1) := by decide +kernel
theorem dL_law_476 : decode cL_law 476 = .ok (.iconst 3, 1) := by decide +kernel
theorem dL_law_477 : decode cL_law 477 = .ok (.iadd, 1) := by decide +kernel
theorem dL_law_478 : decode cL_law 478 = .ok (.iaload, 1) := by decide +kernel
theorem dL_law_479 : decode cL_law 479 = .ok (.invokevirtual 47, 3) := by decide +kernel
theorem dL_law_482 : decode cL_law 482 = .ok (.aload_n 2, 1) := by decide +kernel
theorem dL_law_483 : decode cL_law 483 = .ok (.aload_n 0, 1) := by decide +kernel
theorem dL_law_484 : decode cL_law 484 = .ok (.iload_n 3, 1) := by decide +kernel
theorem dL_law_485 : decode cL_law 485 = .ok (.iconst 1, 1) := by decide +kernel
theorem dL_law_486 : decode cL_law 486 = .ok (.iadd, 1) := by decide +kernel
theorem dL_law_487 : decode cL_law 487 = .ok (.iaload, 1) := by decide +kernel
theorem dL_law_488 : decode cL_law 488 = .ok (.aload_n 0, 1) := by decide +kernel
theorem dL_law_489 : decode cL_law 489 = .ok (.iload_n 3, 1) := by decide +kernel
theorem dL_law_490 : decode cL_law 490 = .ok (.iconst 2, 1) := by decide +kernel
theorem dL_law_491 : decode cL_law 491 = .ok (.iadd, 1) := by decide +kernel
theorem dL_law_492 : decode cL_law 492 = .ok (.iaload, 1) := by decide +kernel
theorem dL_law_493 : decode cL_law 493 = .ok (.aload_n 0, 1) := by decide +kernel
theorem dL_law_494 : decode cL_law 494 = .ok (.iload_n 3, 1) := by decide +kernel
theorem dL_law_495 : decode cL_law 495 = .ok (.iconst 3, 1) := by decide +kernel
theorem dL_law_496 : decode cL_law 496 = .ok (.iadd, 1) := by decide +kernel
theorem dL_law_497 : decode cL_law 497 = .ok (.iaload, 1) := by decide +kernel
theorem dL_law_498 : decode cL_law 498 = .ok (.invokevirtual 50, 3) := by decide +kernel
theorem dL_law_501 : decode cL_law 501 = .ok (.if_icmp .eq 841, 3) := by decide +kernel
theorem dL_law_504 : decode cL_law 504 = .ok (.iconst 0, 1) := by decide +kernel
theorem dL_law_505 : decode cL_law 505 = .ok (.ireturn, 1) := by decide +kernel
theorem dL_law_506 : decode cL_law 506 = .ok (.aload_n 1, 1) := by decide +kernel
theorem dL_law_507 : decode cL_law 507 = .ok (.aload_n 0, 1) := by decide +kernel
theorem dL_law_508 : decode cL_law 508 = .ok (.iload_n 3, 1) := by decide +kernel
theorem dL_law_509 : decode cL_law 509 = .ok (.iconst 1, 1) := by decide +kernel
theorem dL_law_510 : decode cL_law 510 = .ok (.iadd, 1) := by decide +kernel
theorem dL_law_511 : decode cL_law 511 = .ok (.iaload, 1) := by decide +kernel
theorem dL_law_512 : decode cL_law 512 = .ok (.aload_n 0, 1) := by decide +kernel
theorem dL_law_513 : decode cL_law 513 = .ok (.iload_n 3, 1) := by decide +kernel
theorem dL_law_514 : decode cL_law 514 = .ok (.iconst 2, 1) := by decide +kernel
theorem dL_law_515 : decode cL_law 515 = .ok (.iadd, 1) := by decide +kernel
theorem dL_law_516 : decode cL_law 516 = .ok (.iaload, 1) := by decide +kernel
theorem dL_law_517 : decode cL_law 517 = .ok (.aload_n 0, 1) := by decide +kernel
theorem dL_law_518 : decode cL_law 518 = .ok (.iload_n 3, 1) := by decide +kernel
theorem dL_law_519 : decode cL_law 519 = .ok (.iconst 3, 1) := by decide +kernel
theorem dL_law_520 : decode cL_law 520 = .ok (.iadd, 1) := by decide +kernel
theorem dL_law_521 : decode cL_law 521 = .ok (.iaload, 1) := by decide +kernel
theorem dL_law_522 : decode cL_law 522 = .ok (.aload_n 0, 1) := by decide +kernel
theorem dL_law_523 : decode cL_law 523 = .ok (.iload_n 3, 1) := by decide +kernel
theorem dL_law_524 : decode cL_law 524 = .ok (.iconst 4, 1) := by decide +kernel
theorem dL_law_525 : decode cL_law 525 = .ok (.iadd, 1) := by decide +kernel
theorem dL_law_526 : decode cL_law 526 = .ok (.iaload, 1) := by decide +kernel
theorem dL_law_527 : decode cL_law 527 = .ok (.invokevirtual 51, 3) := by decide +kernel
theorem dL_law_530 : decode cL_law 530 = .ok (.aload_n 2, 1) := by decide +kernel
theorem dL_law_531 : decode cL_law 531 = .ok (.aload_n 0, 1) := by decide +kernel
theorem dL_law_532 : decode cL_law 532 = .ok (.iload_n 3, 1) := by decide +kernel
theorem dL_law_533 : decode cL_law 533 = .ok (.iconst 1, 1) := by decide +kernel
theorem dL_law_534 : decode cL_law 534 = .ok (.iadd, 1) := by decide +kernel
theorem dL_law_535 : decode cL_law 535 = .ok (.iaload, 1) := by decide +kernel
theorem dL_law_536 : decode cL_law 536 = .ok (.aload_n 0, 1) := by decide +kernel
theorem dL_law_537 : decode cL_law 537 = .ok (.iload_n 3, 1) := by decide +kernel
theorem dL_law_538 : decode cL_law 538 = .ok (.iconst 2, 1) := by decide +kernel
theorem dL_law_539 : decode cL_law 539 = .ok (.iadd, 1) := by decide +kernel
theorem dL_law_540 : decode cL_law 540 = .ok (.iaload, 1) := by decide +kernel
theorem dL_law_541 : decode cL_law 541 = .ok (.aload_n 0, 1) := by decide +kernel
theorem dL_law_542 : decode cL_law 542 = .ok (.iload_n 3, 1) := by decide +kernel
theorem dL_law_543 : decode cL_law 543 = .ok (.iconst 3, 1) := by decide +kernel
theorem dL_law_544 : decode cL_law 544 = .ok (.iadd, 1) := by decide +kernel
theorem dL_law_545 : decode cL_law 545 = .ok (.iaload, 1) := by decide +kernel
theorem dL_law_546 : decode cL_law 546 = .ok (.aload_n 0, 1) := by decide +kernel
theorem dL_law_547 : decode cL_law 547 = .ok (.iload_n 3, 1) := by decide +kernel
theorem dL_law_548 : decode cL_law 548 = .ok (.iconst 4, 1) := by decide +kernel
theorem dL_law_549 : decode cL_law 549 = .ok (.iadd, 1) := by decide +kernel
theorem dL_law_550 : decode cL_law 550 = .ok (.iaload, 1) := by decide +kernel
theorem dL_law_551 : decode cL_law 551 = .ok (.invokevirtual 55, 3) := by decide +kernel
theorem dL_law_554 : decode cL_law 554 = .ok (.if_icmp .eq 788, 3) := by decide +kernel
theorem dL_law_557 : decode cL_law 557 = .ok (.iconst 0, 1) := by decide +kernel
theorem dL_law_558 : decode cL_law 558 = .ok (.ireturn, 1) := by decide +kernel
theorem dL_law_559 : decode cL_law 559 = .ok (.aload_n 1, 1) := by decide +kernel
theorem dL_law_560 : decode cL_law 560 = .ok (.aload_n 0, 1) := by decide +kernel
theorem dL_law_561 : decode cL_law 561 = .ok (.iload_n 3, 1) := by decide +kernel
theorem dL_law_562 : decode cL_law 562 = .ok (.iconst 1, 1) := by decide +kernel
theorem dL_law_563 : decode cL_law 563 = .ok (.iadd, 1) := by decide +kernel
theorem dL_law_564 : decode cL_law 564 = .ok (.iaload, 1) := by decide +kernel
theorem dL_law_565 : decode cL_law 565 = .ok (.invokevirtual 56, 3) := by decide +kernel
theorem dL_law_568 : decode cL_law 568 = .ok (.aload_n 2, 1) := by decide +kernel
theorem dL_law_569 : decode cL_law 569 = .ok (.aload_n 0, 1) := by decide +kernel
theorem dL_law_570 : decode cL_law 570 = .ok (.iload_n 3, 1) := by decide +kernel
theorem dL_law_571 : decode cL_law 571 = .ok (.iconst 1, 1) := by decide +kernel
theorem dL_law_572 : decode cL_law 572 = .ok (.iadd, 1) := by decide +kernel
theorem dL_law_573 : decode cL_law 573 = .ok (.iaload, 1) := by decide +kernel
theorem dL_law_574 : decode cL_law 574 = .ok (.invokevirtual 59, 3) := by decide +kernel
theorem dL_law_577 : decode cL_law 577 = .ok (.if_icmp .eq 765, 3) := by decide +kernel
theorem dL_law_580 : decode cL_law 580 = .ok (.iconst 0, 1) := by decide +kernel
theorem dL_law_581 : decode cL_law 581 = .ok (.ireturn, 1) := by decide +kernel
theorem dL_law_582 : decode cL_law 582 = .ok (.aload_n 1, 1) := by decide +kernel
theorem dL_law_583 : decode cL_law 583 = .ok (.aload_n 0, 1) := by decide +kernel
theorem dL_law_584 : decode cL_law 584 = .ok (.iload_n 3, 1) := by decide +kernel
theorem dL_law_585 : decode cL_law 585 = .ok (.iconst 1, 1) := by decide +kernel
theorem dL_law_586 : decode cL_law 586 = .ok (.iadd, 1) := by decide +kernel
theorem dL_law_587 : decode cL_law 587 = .ok (.iaload, 1) := by decide +kernel
theorem dL_law_588 : decode cL_law 588 = .ok (.aload_n 0, 1) := by decide +kernel
theorem dL_law_589 : decode cL_law 589 = .ok (.iload_n 3, 1) := by decide +kernel
theorem dL_law_590 : decode cL_law 590 = .ok (.iconst 2, 1) := by decide +kernel
theorem dL_law_591 : decode cL_law 591 = .ok (.iadd, 1) := by decide +kernel
theorem dL_law_592 : decode cL_law 592 = .ok (.iaload, 1) := by decide +kernel
theorem dL_law_593 : decode cL_law 593 = .ok (.invokevirtual 60, 3) := by decide +kernel
theorem dL_law_596 : decode cL_law 596 = .ok (.aload_n 2, 1) := by decide +kernel
theorem dL_law_597 : decode cL_law 597 = .ok (.aload_n 0, 1) := by decide +kernel
theorem dL_law_598 : decode cL_law 598 = .ok (.iload_n 3, 1) := by decide +kernel
theorem dL_law_599 : decode cL_law 599 = .ok (.iconst 1, 1) := by decide +kernel
theorem dL_law_600 : decode cL_law 600 = .ok (.iadd, 1) := by decide +kernel
theorem dL_law_601 : decode cL_law 601 = .ok (.iaload, 1) := by decide +kernel
theorem dL_law_602 : decode cL_law 602 = .ok (.aload_n 0, 1) := by decide +kernel
theorem dL_law_603 : decode cL_law 603 = .ok (.iload_n 3, 1) := by decide +kernel
theorem dL_law_604 : decode cL_law 604 = .ok (.iconst 2, 1) := by decide +kernel
theorem dL_law_605 : decode cL_law 605 = .ok (.iadd, 1) := by decide +kernel
theorem dL_law_606 : decode cL_law 606 = .ok (.iaload, 1) := by decide +kernel
theorem dL_law_607 : decode cL_law 607 = .ok (.invokevirtual 63, 3) := by decide +kernel
theorem dL_law_610 : decode cL_law 610 = .ok (.if_icmp .eq 732, 3) := by decide +kernel
theorem dL_law_613 : decode cL_law 613 = .ok (.iconst 0, 1) := by decide +kernel
theorem dL_law_614 : decode cL_law 614 = .ok (.ireturn, 1) := by decide +kernel
theorem dL_law_615 : decode cL_law 615 = .ok (.aload_n 1, 1) := by decide +kernel
theorem dL_law_616 : decode cL_law 616 = .ok (.aload_n 0, 1) := by decide +kernel
theorem dL_law_617 : decode cL_law 617 = .ok (.iload_n 3, 1) := by decide +kernel
theorem dL_law_618 : decode cL_law 618 = .ok (.iconst 1, 1) := by decide +kernel
theorem dL_law_619 : decode cL_law 619 = .ok (.iadd, 1) := by decide +kernel
theorem dL_law_620 : decode cL_law 620 = .ok (.iaload, 1) := by decide +kernel
theorem dL_law_621 : decode cL_law 621 = .ok (.aload_n 0, 1) := by decide +kernel
theorem dL_law_622 : decode cL_law 622 = .ok (.iload_n 3, 1) := by decide +kernel
theorem dL_law_623 : decode cL_law 623 = .ok (.iconst 2, 1) := by decide +kernel
theorem dL_law_624 : decode cL_law 624 = .ok (.iadd, 1) := by decide +kernel
theorem dL_law_625 : decode cL_law 625 = .ok (.iaload, 1) := by decide +kernel
theorem dL_law_626 : decode cL_law 626 = .ok (.invokevirtual 64, 3) := by decide +kernel
theorem dL_law_629 : decode cL_law 629 = .ok (.aload_n 2, 1) := by decide +kernel
theorem dL_law_630 : decode cL_law 630 = .ok (.aload_n 0, 1) := by decide +kernel
theorem dL_law_631 : decode cL_law 631 = .ok (.iload_n 3, 1) := by decide +kernel
theorem dL_law_632 : decode cL_law 632 = .ok (.iconst 1, 1) := by decide +kernel
theorem dL_law_633 : decode cL_law 633 = .ok (.iadd, 1) := by decide +kernel
theorem dL_law_634 : decode cL_law 634 = .ok (.iaload, 1) := by decide +kernel
theorem dL_law_635 : decode cL_law 635 = .ok (.aload_n 0, 1) := by decide +kernel
theorem dL_law_636 : decode cL_law 636 = .ok (.iload_n 3, 1) := by decide +kernel
theorem dL_law_637 : decode cL_law 637 = .ok (.iconst 2, 1) := by decide +kernel
theorem dL_law_638 : decode cL_law 638 = .ok (.iadd, 1) := by decide +kernel
theorem dL_law_639 : decode cL_law 639 = .ok (.iaload, 1) := by decide +kernel
theorem dL_law_640 : decode cL_law 640 = .ok (.invokevirtual 67, 3) := by decide +kernel
theorem dL_law_643 : decode cL_law 643 = .ok (.if_icmp .eq 699, 3) := by decide +kernel
theorem dL_law_646 : decode cL_law 646 = .ok (.iconst 0, 1) := by decide +kernel
theorem dL_law_647 : decode cL_law 647 = .ok (.ireturn, 1) := by decide +kernel
theorem dL_law_648 : decode cL_law 648 = .ok (.aload_n 1, 1) := by decide +kernel
theorem dL_law_649 : decode cL_law 649 = .ok (.aload_n 0, 1) := by decide +kernel
theorem dL_law_650 : decode cL_law 650 = .ok (.iload_n 3, 1) := by decide +kernel
theorem dL_law_651 : decode cL_law 651 = .ok (.iconst 1, 1) := by decide +kernel
theorem dL_law_652 : decode cL_law 652 = .ok (.iadd, 1) := by decide +kernel
theorem dL_law_653 : decode cL_law 653 = .ok (.iaload, 1) := by decide +kernel
theorem dL_law_654 : decode cL_law 654 = .ok (.aload_n 0, 1) := by decide +kernel
theorem dL_law_655 : decode cL_law 655 = .ok (.iload_n 3, 1) := by decide +kernel
theorem dL_law_656 : decode cL_law 656 = .ok (.iconst 2, 1) := by decide +kernel
theorem dL_law_657 : decode cL_law 657 = .ok (.iadd, 1) := by decide +kernel
theorem dL_law_658 : decode cL_law 658 = .ok (.iaload, 1) := by decide +kernel
theorem dL_law_659 : decode cL_law 659 = .ok (.invokevirtual 68, 3) := by decide +kernel
theorem dL_law_662 : decode cL_law 662 = .ok (.aload_n 2, 1) := by decide +kernel
theorem dL_law_663 : decode cL_law 663 = .ok (.aload_n 0, 1) := by decide +kernel
theorem dL_law_664 : decode cL_law 664 = .ok (.iload_n 3, 1) := by decide +kernel
theorem dL_law_665 : decode cL_law 665 = .ok (.iconst 1, 1) := by decide +kernel
theorem dL_law_666 : decode cL_law 666 = .ok (.iadd, 1) := by decide +kernel
theorem dL_law_667 : decode cL_law 667 = .ok (.iaload, 1) := by decide +kernel
theorem dL_law_668 : decode cL_law 668 = .ok (.aload_n 0, 1) := by decide +kernel
theorem dL_law_669 : decode cL_law 669 = .ok (.iload_n 3, 1) := by decide +kernel
theorem dL_law_670 : decode cL_law 670 = .ok (.iconst 2, 1) := by decide +kernel
theorem dL_law_671 : decode cL_law 671 = .ok (.iadd, 1) := by decide +kernel
theorem dL_law_672 : decode cL_law 672 = .ok (.iaload, 1) := by decide +kernel
theorem dL_law_673 : decode cL_law 673 = .ok (.invokevirtual 71, 3) := by decide +kernel
theorem dL_law_676 : decode cL_law 676 = .ok (.if_icmp .eq 666, 3) := by decide +kernel
theorem dL_law_679 : decode cL_law 679 = .ok (.iconst 0, 1) := by decide +kernel
theorem dL_law_680 : decode cL_law 680 = .ok (.ireturn, 1) := by decide +kernel
theorem dL_law_681 : decode cL_law 681 = .ok (.aload_n 1, 1) := by decide +kernel
theorem dL_law_682 : decode cL_law 682 = .ok (.aload_n 0, 1) := by decide +kernel
theorem dL_law_683 : decode cL_law 683 = .ok (.iload_n 3, 1) := by decide +kernel
theorem dL_law_684 : decode cL_law 684 = .ok (.iconst 1, 1) := by decide +kernel
theorem dL_law_685 : decode cL_law 685 = .ok (.iadd, 1) := by decide +kernel
theorem dL_law_686 : decode cL_law 686 = .ok (.iaload, 1) := by decide +kernel
theorem dL_law_687 : decode cL_law 687 = .ok (.aload_n 0, 1) := by decide +kernel
theorem dL_law_688 : decode cL_law 688 = .ok (.iload_n 3, 1) := by decide +kernel
theorem dL_law_689 : decode cL_law 689 = .ok (.iconst 2, 1) := by decide +kernel
theorem dL_law_690 : decode cL_law 690 = .ok (.iadd, 1) := by decide +kernel
theorem dL_law_691 : decode cL_law 691 = .ok (.iaload, 1) := by decide +kernel
theorem dL_law_692 : decode cL_law 692 = .ok (.invokevirtual 72, 3) := by decide +kernel
theorem dL_law_695 : decode cL_law 695 = .ok (.aload_n 2, 1) := by decide +kernel
theorem dL_law_696 : decode cL_law 696 = .ok (.aload_n 0, 1) := by decide +kernel
theorem dL_law_697 : decode cL_law 697 = .ok (.iload_n 3, 1) := by decide +kernel
theorem dL_law_698 : decode cL_law 698 = .ok (.iconst 1, 1) := by decide +kernel
theorem dL_law_699 : decode cL_law 699 = .ok (.iadd, 1) := by decide +kernel
theorem dL_law_700 : decode cL_law 700 = .ok (.iaload, 1) := by decide +kernel
theorem dL_law_701 : decode cL_law 701 = .ok (.aload_n 0, 1) := by decide +kernel
theorem dL_law_702 : decode cL_law 702 = .ok (.iload_n 3, 1) := by decide +kernel
theorem dL_law_703 : decode cL_law 703 = .ok (.iconst 2, 1) := by decide +kernel
theorem dL_law_704 : decode cL_law 704 = .ok (.iadd, 1) := by decide +kernel
theorem dL_law_705 : decode cL_law 705 = .ok (.iaload, 1) := by decide +kernel
theorem dL_law_706 : decode cL_law 706 = .ok (.invokevirtual 75, 3) := by decide +kernel
theorem dL_law_709 : decode cL_law 709 = .ok (.if_icmp .eq 633, 3) := by decide +kernel
theorem dL_law_712 : decode cL_law 712 = .ok (.iconst 0, 1) := by decide +kernel
theorem dL_law_713 : decode cL_law 713 = .ok (.ireturn, 1) := by decide +kernel
theorem dL_law_714 : decode cL_law 714 = .ok (.aload_n 1, 1) := by decide +kernel
theorem dL_law_715 : decode cL_law 715 = .ok (.aload_n 0, 1) := by decide +kernel
theorem dL_law_716 : decode cL_law 716 = .ok (.iload_n 3, 1) := by decide +kernel
theorem dL_law_717 : decode cL_law 717 = .ok (.iconst 1, 1) := by decide +kernel
theorem dL_law_718 : decode cL_law 718 = .ok (.iadd, 1) := by decide +kernel
theorem dL_law_719 : decode cL_law 719 = .ok (.iaload, 1) := by decide +kernel
theorem dL_law_720 : decode cL_law 720 = .ok (.invokevirtual 76, 3) := by decide +kernel
theorem dL_law_723 : decode cL_law 723 = .ok (.aload_n 2, 1) := by decide +kernel
theorem dL_law_724 : decode cL_law 724 = .ok (.aload_n 0, 1) := by decide +kernel
theorem dL_law_725 : decode cL_law 725 = .ok (.iload_n 3, 1) := by decide +kernel
theorem dL_law_726 : decode cL_law 726 = .ok (.iconst 1, 1) := by decide +kernel
theorem dL_law_727 : decode cL_law 727 = .ok (.iadd, 1) := by decide +kernel
theorem dL_law_728 : decode cL_law 728 = .ok (.iaload, 1) := by decide +kernel
theorem dL_law_729 : decode cL_law 729 = .ok (.invokevirtual 79, 3) := by decide +kernel
theorem dL_law_732 : decode cL_law 732 = .ok (.if_icmp .eq 610, 3) := by decide +kernel
theorem dL_law_735 : decode cL_law 735 = .ok (.iconst 0, 1) := by decide +kernel
theorem dL_law_736 : decode cL_law 736 = .ok (.ireturn, 1) := by decide +kernel
theorem dL_law_737 : decode cL_law 737 = .ok (.aload_n 1, 1) := by decide +kernel
theorem dL_law_738 : decode cL_law 738 = .ok (.aload_n 0, 1) := by decide +kernel
theorem dL_law_739 : decode cL_law 739 = .ok (.iload_n 3, 1) := by decide +kernel
theorem dL_law_740 : decode cL_law 740 = .ok (.iconst 1, 1) := by decide +kernel
theorem dL_law_741 : decode cL_law 741 = .ok (.iadd, 1) := by decide +kernel
theorem dL_law_742 : decode cL_law 742 = .ok (.iaload, 1) := by decide +kernel
theorem dL_law_743 : decode cL_law 743 = .ok (.invokevirtual 80, 3) := by decide +kernel
theorem dL_law_746 : decode cL_law 746 = .ok (.aload_n 2, 1) := by decide +kernel
theorem dL_law_747 : decode cL_law 747 = .ok (.aload_n 0, 1) := by decide +kernel
theorem dL_law_748 : decode cL_law 748 = .ok (.iload_n 3, 1) := by decide +kernel
theorem dL_law_749 : decode cL_law 749 = .ok (.iconst 1, 1) := by decide +kernel
theorem dL_law_750 : decode cL_law 750 = .ok (.iadd, 1) := by decide +kernel
theorem dL_law_751 : decode cL_law 751 = .ok (.iaload, 1) := by decide +kernel
theorem dL_law_752 : decode cL_law 752 = .ok (.invokevirtual 83, 3) := by decide +kernel
theorem dL_law_755 : decode cL_law 755 = .ok (.if_icmp .eq 587, 3) := by decide +kernel
theorem dL_law_758 : decode cL_law 758 = .ok (.iconst 0, 1) := by decide +kernel
theorem dL_law_759 : decode cL_law 759 = .ok (.ireturn, 1) := by decide +kernel
theorem dL_law_760 : decode cL_law 760 = .ok (.aload_n 1, 1) := by decide +kernel
theorem dL_law_761 : decode cL_law 761 = .ok (.aload_n 0, 1) := by decide +kernel
theorem dL_law_762 : decode cL_law 762 = .ok (.iload_n 3, 1) := by decide +kernel
theorem dL_law_763 : decode cL_law 763 = .ok (.iconst 1, 1) := by decide +kernel
theorem dL_law_764 : decode cL_law 764 = .ok (.iadd, 1) := by decide +kernel
theorem dL_law_765 : decode cL_law 765 = .ok (.iaload, 1) := by decide +kernel
theorem dL_law_766 : decode cL_law 766 = .ok (.aload_n 0, 1) := by decide +kernel
theorem dL_law_767 : decode cL_law 767 = .ok (.iload_n 3, 1) := by decide +kernel
theorem dL_law_768 : decode cL_law 768 = .ok (.iconst 2, 1) := by decide +kernel
theorem dL_law_769 : decode cL_law 769 = .ok (.iadd, 1) := by decide +kernel
theorem dL_law_770 : decode cL_law 770 = .ok (.iaload, 1) := by decide +kernel
theorem dL_law_771 : decode cL_law 771 = .ok (.invokevirtual 84, 3) := by decide +kernel
theorem dL_law_774 : decode cL_law 774 = .ok (.aload_n 2, 1) := by decide +kernel
theorem dL_law_775 : decode cL_law 775 = .ok (.aload_n 0, 1) := by decide +kernel
theorem dL_law_776 : decode cL_law 776 = .ok (.iload_n 3, 1) := by decide +kernel
theorem dL_law_777 : decode cL_law 777 = .ok (.iconst 1, 1) := by decide +kernel
theorem dL_law_778 : decode cL_law 778 = .ok (.iadd, 1) := by decide +kernel
theorem dL_law_779 : decode cL_law 779 = .ok (.iaload, 1) := by decide +kernel
theorem dL_law_780 : decode cL_law 780 = .ok (.aload_n 0, 1) := by decide +kernel
theorem dL_law_781 : decode cL_law 781 = .ok (.iload_n 3, 1) := by decide +kernel
theorem dL_law_782 : decode cL_law 782 = .ok (.iconst 2, 1) := by decide +kernel
theorem dL_law_783 : decode cL_law 783 = .ok (.iadd, 1) := by decide +kernel
theorem dL_law_784 : decode cL_law 784 = .ok (.iaload, 1) := by decide +kernel
theorem dL_law_785 : decode cL_law 785 = .ok (.invokevirtual 87, 3) := by decide +kernel
theorem dL_law_788 : decode cL_law 788 = .ok (.if_icmp .eq 554, 3) := by decide +kernel
theorem dL_law_791 : decode cL_law 791 = .ok (.iconst 0, 1) := by decide +kernel
theorem dL_law_792 : decode cL_law 792 = .ok (.ireturn, 1) := by decide +kernel
theorem dL_law_793 : decode cL_law 793 = .ok (.aload_n 1, 1) := by decide +kernel
theorem dL_law_794 : decode cL_law 794 = .ok (.invokevirtual 88, 3) := by decide +kernel
theorem dL_law_797 : decode cL_law 797 = .ok (.aload_n 2, 1) := by decide +kernel
theorem dL_law_798 : decode cL_law 798 = .ok (.invokevirtual 92, 3) := by decide +kernel
theorem dL_law_801 : decode cL_law 801 = .ok (.if_icmp .eq 541, 3) := by decide +kernel
theorem dL_law_804 : decode cL_law 804 = .ok (.iconst 0, 1) := by decide +kernel
theorem dL_law_805 : decode cL_law 805 = .ok (.ireturn, 1) := by decide +kernel
theorem dL_law_806 : decode cL_law 806 = .ok (.aload_n 1, 1) := by decide +kernel
theorem dL_law_807 : decode cL_law 807 = .ok (.invokevirtual 93, 3) := by decide +kernel
theorem dL_law_810 : decode cL_law 810 = .ok (.aload_n 2, 1) := by decide +kernel
theorem dL_law_811 : decode cL_law 811 = .ok (.invokevirtual 96, 3) := by decide +kernel
theorem dL_law_814 : decode cL_law 814 = .ok (.if_icmp .eq 528, 3) := by decide +kernel
theorem dL_law_817 : decode cL_law 817 = .ok (.iconst 0, 1) := by decide +kernel
theorem dL_law_818 : decode cL_law 818 = .ok (.ireturn, 1) := by decide +kernel
theorem dL_law_819 : decode cL_law 819 = .ok (.aload_n 1, 1) := by decide +kernel
theorem dL_law_820 : decode cL_law 820 = .ok (.aload_n 0, 1) := by decide +kernel
theorem dL_law_821 : decode cL_law 821 = .ok (.iload_n 3, 1) := by decide +kernel
theorem dL_law_822 : decode cL_law 822 = .ok (.iconst 1, 1) := by decide +kernel
theorem dL_law_823 : decode cL_law 823 = .ok (.iadd, 1) := by decide +kernel
theorem dL_law_824 : decode cL_law 824 = .ok (.iaload, 1) := by decide +kernel
theorem dL_law_825 : decode cL_law 825 = .ok (.invokevirtual 97, 3) := by decide +kernel
theorem dL_law_828 : decode cL_law 828 = .ok (.aload_n 2, 1) := by decide +kernel
theorem dL_law_829 : decode cL_law 829 = .ok (.aload_n 0, 1) := by decide +kernel
theorem dL_law_830 : decode cL_law 830 = .ok (.iload_n 3, 1) := by decide +kernel
theorem dL_law_831 : decode cL_law 831 = .ok (.iconst 1, 1) := by decide +kernel
theorem dL_law_832 : decode cL_law 832 = .ok (.iadd, 1) := by decide +kernel
theorem dL_law_833 : decode cL_law 833 = .ok (.iaload, 1) := by decide +kernel
theorem dL_law_834 : decode cL_law 834 = .ok (.invokevirtual 100, 3) := by decide +kernel
theorem dL_law_837 : decode cL_law 837 = .ok (.if_icmp .eq 505, 3) := by decide +kernel
theorem dL_law_840 : decode cL_law 840 = .ok (.iconst 0, 1) := by decide +kernel
theorem dL_law_841 : decode cL_law 841 = .ok (.ireturn, 1) := by decide +kernel
theorem dL_law_842 : decode cL_law 842 = .ok (.aload_n 1, 1) := by decide +kernel
theorem dL_law_843 : decode cL_law 843 = .ok (.aload_n 0, 1) := by decide +kernel
theorem dL_law_844 : decode cL_law 844 = .ok (.iload_n 3, 1) := by decide +kernel
theorem dL_law_845 : decode cL_law 845 = .ok (.iconst 1, 1) := by decide +kernel
theorem dL_law_846 : decode cL_law 846 = .ok (.iadd, 1) := by decide +kernel
theorem dL_law_847 : decode cL_law 847 = .ok (.iaload, 1) := by decide +kernel
theorem dL_law_848 : decode cL_law 848 = .ok (.aload_n 0, 1) := by decide +kernel
theorem dL_law_849 : decode cL_law 849 = .ok (.iload_n 3, 1) := by decide +kernel
theorem dL_law_850 : decode cL_law 850 = .ok (.iconst 2, 1) := by decide +kernel
theorem dL_law_851 : decode cL_law 851 = .ok (.iadd, 1) := by decide +kernel
theorem dL_law_852 : decode cL_law 852 = .ok (.iaload, 1) := by decide +kernel
theorem dL_law_853 : decode cL_law 853 = .ok (.invokevirtual 101, 3) := by decide +kernel
theorem dL_law_856 : decode cL_law 856 = .ok (.aload_n 2, 1) := by decide +kernel
theorem dL_law_857 : decode cL_law 857 = .ok (.aload_n 0, 1) := by decide +kernel
theorem dL_law_858 : decode cL_law 858 = .ok (.iload_n 3, 1) := by decide +kernel
theorem dL_law_859 : decode cL_law 859 = .ok (.iconst 1, 1) := by decide +kernel
theorem dL_law_860 : decode cL_law 860 = .ok (.iadd, 1) := by decide +kernel
theorem dL_law_861 : decode cL_law 861 = .ok (.iaload, 1) := by decide +kernel
theorem dL_law_862 : decode cL_law 862 = .ok (.aload_n 0, 1) := by decide +kernel
theorem dL_law_863 : decode cL_law 863 = .ok (.iload_n 3, 1) := by decide +kernel
theorem dL_law_864 : decode cL_law 864 = .ok (.iconst 2, 1) := by decide +kernel
theorem dL_law_865 : decode cL_law 865 = .ok (.iadd, 1) := by decide +kernel
theorem dL_law_866 : decode cL_law 866 = .ok (.iaload, 1) := by decide +kernel
theorem dL_law_867 : decode cL_law 867 = .ok (.invokevirtual 104, 3) := by decide +kernel
theorem dL_law_870 : decode cL_law 870 = .ok (.if_icmp .eq 472, 3) := by decide +kernel
theorem dL_law_873 : decode cL_law 873 = .ok (.iconst 0, 1) := by decide +kernel
theorem dL_law_874 : decode cL_law 874 = .ok (.ireturn, 1) := by decide +kernel
theorem dL_law_875 : decode cL_law 875 = .ok (.aload_n 1, 1) := by decide +kernel
theorem dL_law_876 : decode cL_law 876 = .ok (.aload_n 0, 1) := by decide +kernel
theorem dL_law_877 : decode cL_law 877 = .ok (.iload_n 3, 1) := by decide +kernel
theorem dL_law_878 : decode cL_law 878 = .ok (.iconst 1, 1) := by decide +kernel
theorem dL_law_879 : decode cL_law 879 = .ok (.iadd, 1) := by decide +kernel
theorem dL_law_880 : decode cL_law 880 = .ok (.iaload, 1) := by decide +kernel
theorem dL_law_881 : decode cL_law 881 = .ok (.aload_n 0, 1) := by decide +kernel
theorem dL_law_882 : decode cL_law 882 = .ok (.iload_n 3, 1) := by decide +kernel
theorem dL_law_883 : decode cL_law 883 = .ok (.iconst 2, 1) := by decide +kernel
theorem dL_law_884 : decode cL_law 884 = .ok (.iadd, 1) := by decide +kernel
theorem dL_law_885 : decode cL_law 885 = .ok (.iaload, 1) := by decide +kernel
theorem dL_law_886 : decode cL_law 886 = .ok (.aload_n 0, 1) := by decide +kernel
theorem dL_law_887 : decode cL_law 887 = .ok (.iload_n 3, 1) := by decide +kernel
theorem dL_law_888 : decode cL_law 888 = .ok (.iconst 3, 1) := by decide +kernel
theorem dL_law_889 : decode cL_law 889 = .ok (.iadd, 1) := by decide +kernel
theorem dL_law_890 : decode cL_law 890 = .ok (.iaload, 1) := by decide +kernel
theorem dL_law_891 : decode cL_law 891 = .ok (.invokevirtual 105, 3) := by decide +kernel
theorem dL_law_894 : decode cL_law 894 = .ok (.aload_n 2, 1) := by decide +kernel
theorem dL_law_895 : decode cL_law 895 = .ok (.aload_n 0, 1) := by decide +kernel
theorem dL_law_896 : decode cL_law 896 = .ok (.iload_n 3, 1) := by decide +kernel
theorem dL_law_897 : decode cL_law 897 = .ok (.iconst 1, 1) := by decide +kernel
theorem dL_law_898 : decode cL_law 898 = .ok (.iadd, 1) := by decide +kernel
theorem dL_law_899 : decode cL_law 899 = .ok (.iaload, 1) := by decide +kernel
theorem dL_law_900 : decode cL_law 900 = .ok (.aload_n 0, 1) := by decide +kernel
theorem dL_law_901 : decode cL_law 901 = .ok (.iload_n 3, 1) := by decide +kernel
theorem dL_law_902 : decode cL_law 902 = .ok (.iconst 2, 1) := by decide +kernel
theorem dL_law_903 : decode cL_law 903 = .ok (.iadd, 1) := by decide +kernel
theorem dL_law_904 : decode cL_law 904 = .ok (.iaload, 1) := by decide +kernel
theorem dL_law_905 : decode cL_law 905 = .ok (.aload_n 0, 1) := by decide +kernel
theorem dL_law_906 : decode cL_law 906 = .ok (.iload_n 3, 1) := by decide +kernel
theorem dL_law_907 : decode cL_law 907 = .ok (.iconst 3, 1) := by decide +kernel
theorem dL_law_908 : decode cL_law 908 = .ok (.iadd, 1) := by decide +kernel
theorem dL_law_909 : decode cL_law 909 = .ok (.iaload, 1) := by decide +kernel
theorem dL_law_910 : decode cL_law 910 = .ok (.invokevirtual 108, 3) := by decide +kernel
theorem dL_law_913 : decode cL_law 913 = .ok (.if_icmp .eq 429, 3) := by decide +kernel
theorem dL_law_916 : decode cL_law 916 = .ok (.iconst 0, 1) := by decide +kernel
theorem dL_law_917 : decode cL_law 917 = .ok (.ireturn, 1) := by decide +kernel
theorem dL_law_918 : decode cL_law 918 = .ok (.aload_n 1, 1) := by decide +kernel
theorem dL_law_919 : decode cL_law 919 = .ok (.invokevirtual 109, 3) := by decide +kernel
theorem dL_law_922 : decode cL_law 922 = .ok (.aload_n 2, 1) := by decide +kernel
theorem dL_law_923 : decode cL_law 923 = .ok (.invokevirtual 112, 3) := by decide +kernel
theorem dL_law_926 : decode cL_law 926 = .ok (.if_icmp .eq 416, 3) := by decide +kernel
theorem dL_law_929 : decode cL_law 929 = .ok (.iconst 0, 1) := by decide +kernel
theorem dL_law_930 : decode cL_law 930 = .ok (.ireturn, 1) := by decide +kernel
theorem dL_law_931 : decode cL_law 931 = .ok (.aload_n 1, 1) := by decide +kernel
theorem dL_law_932 : decode cL_law 932 = .ok (.aload_n 0, 1) := by decide +kernel
theorem dL_law_933 : decode cL_law 933 = .ok (.iload_n 3, 1) := by decide +kernel
theorem dL_law_934 : decode cL_law 934 = .ok (.iconst 1, 1) := by decide +kernel
theorem dL_law_935 : decode cL_law 935 = .ok (.iadd, 1) := by decide +kernel
theorem dL_law_936 : decode cL_law 936 = .ok (.iaload, 1) := by decide +kernel
theorem dL_law_937 : decode cL_law 937 = .ok (.invokevirtual 113, 3) := by decide +kernel
theorem dL_law_940 : decode cL_law 940 = .ok (.aload_n 2, 1) := by decide +kernel
theorem dL_law_941 : decode cL_law 941 = .ok (.aload_n 0, 1) := by decide +kernel
theorem dL_law_942 : decode cL_law 942 = .ok (.iload_n 3, 1) := by decide +kernel
theorem dL_law_943 : decode cL_law 943 = .ok (.iconst 1, 1) := by decide +kernel
theorem dL_law_944 : decode cL_law 944 = .ok (.iadd, 1) := by decide +kernel
theorem dL_law_945 : decode cL_law 945 = .ok (.iaload, 1) := by decide +kernel
theorem dL_law_946 : decode cL_law 946 = .ok (.invokevirtual 116, 3) := by decide +kernel
theorem dL_law_949 : decode cL_law 949 = .ok (.if_icmp .eq 393, 3) := by decide +kernel
theorem dL_law_952 : decode cL_law 952 = .ok (.iconst 0, 1) := by decide +kernel
theorem dL_law_953 : decode cL_law 953 = .ok (.ireturn, 1) := by decide +kernel
theorem dL_law_954 : decode cL_law 954 = .ok (.aload_n 1, 1) := by decide +kernel
theorem dL_law_955 : decode cL_law 955 = .ok (.invokevirtual 117, 3) := by decide +kernel
theorem dL_law_958 : decode cL_law 958 = .ok (.aload_n 2, 1) := by decide +kernel
theorem dL_law_959 : decode cL_law 959 = .ok (.invokevirtual 120, 3) := by decide +kernel
theorem dL_law_962 : decode cL_law 962 = .ok (.if_icmp .eq 380, 3) := by decide +kernel
theorem dL_law_965 : decode cL_law 965 = .ok (.iconst 0, 1) := by decide +kernel
theorem dL_law_966 : decode cL_law 966 = .ok (.ireturn, 1) := by decide +kernel
theorem dL_law_967 : decode cL_law 967 = .ok (.aload_n 1, 1) := by decide +kernel
theorem dL_law_968 : decode cL_law 968 = .ok (.invokevirtual 121, 3) := by decide +kernel
theorem dL_law_971 : decode cL_law 971 = .ok (.aload_n 2, 1) := by decide +kernel
theorem dL_law_972 : decode cL_law 972 = .ok (.invokevirtual 124, 3) := by decide +kernel
theorem dL_law_975 : decode cL_law 975 = .ok (.if_icmp .eq 367, 3) := by decide +kernel
theorem dL_law_978 : decode cL_law 978 = .ok (.iconst 0, 1) := by decide +kernel
theorem dL_law_979 : decode cL_law 979 = .ok (.ireturn, 1) := by decide +kernel
theorem dL_law_980 : decode cL_law 980 = .ok (.aload_n 1, 1) := by decide +kernel
theorem dL_law_981 : decode cL_law 981 = .ok (.aload_n 0, 1) := by decide +kernel
theorem dL_law_982 : decode cL_law 982 = .ok (.iload_n 3, 1) := by decide +kernel
theorem dL_law_983 : decode cL_law 983 = .ok (.iconst 1, 1) := by decide +kernel
theorem dL_law_984 : decode cL_law 984 = .ok (.iadd, 1) := by decide +kernel
theorem dL_law_985 : decode cL_law 985 = .ok (.iaload, 1) := by decide +kernel
theorem dL_law_986 : decode cL_law 986 = .ok (.invokevirtual 125, 3) := by decide +kernel
theorem dL_law_989 : decode cL_law 989 = .ok (.aload_n 2, 1) := by decide +kernel
theorem dL_law_990 : decode cL_law 990 = .ok (.aload_n 0, 1) := by decide +kernel
theorem dL_law_991 : decode cL_law 991 = .ok (.iload_n 3, 1) := by decide +kernel
theorem dL_law_992 : decode cL_law 992 = .ok (.iconst 1, 1) := by decide +kernel
theorem dL_law_993 : decode cL_law 993 = .ok (.iadd, 1) := by decide +kernel
theorem dL_law_994 : decode cL_law 994 = .ok (.iaload, 1) := by decide +kernel
theorem dL_law_995 : decode cL_law 995 = .ok (.invokevirtual 128, 3) := by decide +kernel
theorem dL_law_998 : decode cL_law 998 = .ok (.if_icmp .eq 344, 3) := by decide +kernel
theorem dL_law_1001 : decode cL_law 1001 = .ok (.iconst 0, 1) := by decide +kernel
theorem dL_law_1002 : decode cL_law 1002 = .ok (.ireturn, 1) := by decide +kernel
theorem dL_law_1003 : decode cL_law 1003 = .ok (.aload_n 1, 1) := by decide +kernel
theorem dL_law_1004 : decode cL_law 1004 = .ok (.aload_n 0, 1) := by decide +kernel
theorem dL_law_1005 : decode cL_law 1005 = .ok (.iload_n 3, 1) := by decide +kernel
theorem dL_law_1006 : decode cL_law 1006 = .ok (.iconst 1, 1) := by decide +kernel
theorem dL_law_1007 : decode cL_law 1007 = .ok (.iadd, 1) := by decide +kernel
theorem dL_law_1008 : decode cL_law 1008 = .ok (.iaload, 1) := by decide +kernel
theorem dL_law_1009 : decode cL_law 1009 = .ok (.invokevirtual 129, 3) := by decide +kernel
theorem dL_law_1012 : decode cL_law 1012 = .ok (.aload_n 2, 1) := by decide +kernel
end
section
theorem dL_law_1013 : decode cL_law 1013 = .ok (.aload_n 0, 1) := by decide +kernel
theorem dL_law_1014 : decode cL_law 1014 = .ok (.iload_n 3, 1) := by decide +kernel
theorem dL_law_1015 : decode cL_law 1015 = .ok (.iconst 1, 1) := by decide +kernel
theorem dL_law_1016 : decode cL_law 1016 = .ok (.iadd, 1) := by decide +kernel
theorem dL_law_1017 : decode cL_law 1017 = .ok (.iaload, 1) := by decide +kernel
theorem dL_law_1018 : decode cL_law 1018 = .ok (.invokevirtual 132, 3) := by decide +kernel
theorem dL_law_1021 : decode cL_law 1021 = .ok (.if_icmp .eq 321, 3) := by decide +kernel
theorem dL_law_1024 : decode cL_law 1024 = .ok (.iconst 0, 1) := by decide +kernel
theorem dL_law_1025 : decode cL_law 1025 = .ok (.ireturn, 1) := by decide +kernel
theorem dL_law_1026 : decode cL_law 1026 = .ok (.aload_n 1, 1) := by decide +kernel
theorem dL_law_1027 : decode cL_law 1027 = .ok (.aload_n 0, 1) := by decide +kernel
theorem dL_law_1028 : decode cL_law 1028 = .ok (.iload_n 3, 1) := by decide +kernel
theorem dL_law_1029 : decode cL_law 1029 = .ok (.iconst 1, 1) := by decide +kernel
theorem dL_law_1030 : decode cL_law 1030 = .ok (.iadd, 1) := by decide +kernel
theorem dL_law_1031 : decode cL_law 1031 = .ok (.iaload, 1) := by decide +kernel
theorem dL_law_1032 : decode cL_law 1032 = .ok (.aload_n 0, 1) := by decide +kernel
theorem dL_law_1033 : decode cL_law 1033 = .ok (.iload_n 3, 1) := by decide +kernel
theorem dL_law_1034 : decode cL_law 1034 = .ok (.iconst 2, 1) := by decide +kernel
theorem dL_law_1035 : decode cL_law 1035 = .ok (.iadd, 1) := by decide +kernel
theorem dL_law_1036 : decode cL_law 1036 = .ok (.iaload, 1) := by decide +kernel
theorem dL_law_1037 : decode cL_law 1037 = .ok (.invokevirtual 133, 3) := by decide +kernel
theorem dL_law_1040 : decode cL_law 1040 = .ok (.aload_n 2, 1) := by decide +kernel
theorem dL_law_1041 : decode cL_law 1041 = .ok (.aload_n 0, 1) := by decide +kernel
theorem dL_law_1042 : decode cL_law 1042 = .ok (.iload_n 3, 1) := by decide +kernel
theorem dL_law_1043 : decode cL_law 1043 = .ok (.iconst 1, 1) := by decide +kernel
theorem dL_law_1044 : decode cL_law 1044 = .ok (.iadd, 1) := by decide +kernel
theorem dL_law_1045 : decode cL_law 1045 = .ok (.iaload, 1) := by decide +kernel
theorem dL_law_1046 : decode cL_law 1046 = .ok (.aload_n 0, 1) := by decide +kernel
theorem dL_law_1047 : decode cL_law 1047 = .ok (.iload_n 3, 1) := by decide +kernel
theorem dL_law_1048 : decode cL_law 1048 = .ok (.iconst 2, 1) := by decide +kernel
theorem dL_law_1049 : decode cL_law 1049 = .ok (.iadd, 1) := by decide +kernel
theorem dL_law_1050 : decode cL_law 1050 = .ok (.iaload, 1) := by decide +kernel
theorem dL_law_1051 : decode cL_law 1051 = .ok (.invokevirtual 136, 3) := by decide +kernel
theorem dL_law_1054 : decode cL_law 1054 = .ok (.if_icmp .eq 288, 3) := by decide +kernel
theorem dL_law_1057 : decode cL_law 1057 = .ok (.iconst 0, 1) := by decide +kernel
theorem dL_law_1058 : decode cL_law 1058 = .ok (.ireturn, 1) := by decide +kernel
theorem dL_law_1059 : decode cL_law 1059 = .ok (.aload_n 1, 1) := by decide +kernel
theorem dL_law_1060 : decode cL_law 1060 = .ok (.aload_n 0, 1) := by decide +kernel
theorem dL_law_1061 : decode cL_law 1061 = .ok (.iload_n 3, 1) := by decide +kernel
theorem dL_law_1062 : decode cL_law 1062 = .ok (.iconst 1, 1) := by decide +kernel
theorem dL_law_1063 : decode cL_law 1063 = .ok (.iadd, 1) := by decide +kernel
theorem dL_law_1064 : decode cL_law 1064 = .ok (.iaload, 1) := by decide +kernel
theorem dL_law_1065 : decode cL_law 1065 = .ok (.aload_n 0, 1) := by decide +kernel
theorem dL_law_1066 : decode cL_law 1066 = .ok (.iload_n 3, 1) := by decide +kernel
theorem dL_law_1067 : decode cL_law 1067 = .ok (.iconst 2, 1) := by decide +kernel
theorem dL_law_1068 : decode cL_law 1068 = .ok (.iadd, 1) := by decide +kernel
theorem dL_law_1069 : decode cL_law 1069 = .ok (.iaload, 1) := by decide +kernel
theorem dL_law_1070 : decode cL_law 1070 = .ok (.ifCond .eq 7, 3) := by decide +kernel
theorem dL_law_1073 : decode cL_law 1073 = .ok (.iconst 1, 1) := by decide +kernel
theorem dL_law_1074 : decode cL_law 1074 = .ok (.goto 4, 3) := by decide +kernel
theorem dL_law_1077 : decode cL_law 1077 = .ok (.iconst 0, 1) := by decide +kernel
theorem dL_law_1078 : decode cL_law 1078 = .ok (.aload_n 0, 1) := by decide +kernel
theorem dL_law_1079 : decode cL_law 1079 = .ok (.iload_n 3, 1) := by decide +kernel
theorem dL_law_1080 : decode cL_law 1080 = .ok (.iconst 3, 1) := by decide +kernel
theorem dL_law_1081 : decode cL_law 1081 = .ok (.iadd, 1) := by decide +kernel
theorem dL_law_1082 : decode cL_law 1082 = .ok (.iaload, 1) := by decide +kernel
theorem dL_law_1083 : decode cL_law 1083 = .ok (.ifCond .eq 7, 3) := by decide +kernel
theorem dL_law_1086 : decode cL_law 1086 = .ok (.iconst 1, 1) := by decide +kernel
theorem dL_law_1087 : decode cL_law 1087 = .ok (.goto 4, 3) := by decide +kernel
theorem dL_law_1090 : decode cL_law 1090 = .ok (.iconst 0, 1) := by decide +kernel
theorem dL_law_1091 : decode cL_law 1091 = .ok (.invokevirtual 137, 3) := by decide +kernel
theorem dL_law_1094 : decode cL_law 1094 = .ok (.aload_n 2, 1) := by decide +kernel
theorem dL_law_1095 : decode cL_law 1095 = .ok (.aload_n 0, 1) := by decide +kernel
theorem dL_law_1096 : decode cL_law 1096 = .ok (.iload_n 3, 1) := by decide +kernel
theorem dL_law_1097 : decode cL_law 1097 = .ok (.iconst 1, 1) := by decide +kernel
theorem dL_law_1098 : decode cL_law 1098 = .ok (.iadd, 1) := by decide +kernel
theorem dL_law_1099 : decode cL_law 1099 = .ok (.iaload, 1) := by decide +kernel
theorem dL_law_1100 : decode cL_law 1100 = .ok (.aload_n 0, 1) := by decide +kernel
theorem dL_law_1101 : decode cL_law 1101 = .ok (.iload_n 3, 1) := by decide +kernel
theorem dL_law_1102 : decode cL_law 1102 = .ok (.iconst 2, 1) := by decide +kernel
theorem dL_law_1103 : decode cL_law 1103 = .ok (.iadd, 1) := by decide +kernel
theorem dL_law_1104 : decode cL_law 1104 = .ok (.iaload, 1) := by decide +kernel
theorem dL_law_1105 : decode cL_law 1105 = .ok (.ifCond .eq 7, 3) := by decide +kernel
theorem dL_law_1108 : decode cL_law 1108 = .ok (.iconst 1, 1) := by decide +kernel
theorem dL_law_1109 : decode cL_law 1109 = .ok (.goto 4, 3) := by decide +kernel
theorem dL_law_1112 : decode cL_law 1112 = .ok (.iconst 0, 1) := by decide +kernel
theorem dL_law_1113 : decode cL_law 1113 = .ok (.aload_n 0, 1) := by decide +kernel
theorem dL_law_1114 : decode cL_law 1114 = .ok (.iload_n 3, 1) := by decide +kernel
theorem dL_law_1115 : decode cL_law 1115 = .ok (.iconst 3, 1) := by decide +kernel
theorem dL_law_1116 : decode cL_law 1116 = .ok (.iadd, 1) := by decide +kernel
theorem dL_law_1117 : decode cL_law 1117 = .ok (.iaload, 1) := by decide +kernel
theorem dL_law_1118 : decode cL_law 1118 = .ok (.ifCond .eq 7, 3) := by decide +kernel
theorem dL_law_1121 : decode cL_law 1121 = .ok (.iconst 1, 1) := by decide +kernel
theorem dL_law_1122 : decode cL_law 1122 = .ok (.goto 4, 3) := by decide +kernel
theorem dL_law_1125 : decode cL_law 1125 = .ok (.iconst 0, 1) := by decide +kernel
theorem dL_law_1126 : decode cL_law 1126 = .ok (.invokevirtual 141, 3) := by decide +kernel
theorem dL_law_1129 : decode cL_law 1129 = .ok (.if_icmp .eq 213, 3) := by decide +kernel
theorem dL_law_1132 : decode cL_law 1132 = .ok (.iconst 0, 1) := by decide +kernel
theorem dL_law_1133 : decode cL_law 1133 = .ok (.ireturn, 1) := by decide +kernel
theorem dL_law_1134 : decode cL_law 1134 = .ok (.aload_n 1, 1) := by decide +kernel
theorem dL_law_1135 : decode cL_law 1135 = .ok (.invokevirtual 142, 3) := by decide +kernel
theorem dL_law_1138 : decode cL_law 1138 = .ok (.aload_n 2, 1) := by decide +kernel
theorem dL_law_1139 : decode cL_law 1139 = .ok (.invokevirtual 145, 3) := by decide +kernel
theorem dL_law_1142 : decode cL_law 1142 = .ok (.if_icmp .eq 200, 3) := by decide +kernel
theorem dL_law_1145 : decode cL_law 1145 = .ok (.iconst 0, 1) := by decide +kernel
theorem dL_law_1146 : decode cL_law 1146 = .ok (.ireturn, 1) := by decide +kernel
theorem dL_law_1147 : decode cL_law 1147 = .ok (.aload_n 1, 1) := by decide +kernel
theorem dL_law_1148 : decode cL_law 1148 = .ok (.invokevirtual 146, 3) := by decide +kernel
theorem dL_law_1151 : decode cL_law 1151 = .ok (.aload_n 2, 1) := by decide +kernel
theorem dL_law_1152 : decode cL_law 1152 = .ok (.invokevirtual 149, 3) := by decide +kernel
theorem dL_law_1155 : decode cL_law 1155 = .ok (.if_icmp .eq 187, 3) := by decide +kernel
theorem dL_law_1158 : decode cL_law 1158 = .ok (.iconst 0, 1) := by decide +kernel
theorem dL_law_1159 : decode cL_law 1159 = .ok (.ireturn, 1) := by decide +kernel
theorem dL_law_1160 : decode cL_law 1160 = .ok (.aload_n 1, 1) := by decide +kernel
theorem dL_law_1161 : decode cL_law 1161 = .ok (.aload_n 0, 1) := by decide +kernel
theorem dL_law_1162 : decode cL_law 1162 = .ok (.iload_n 3, 1) := by decide +kernel
theorem dL_law_1163 : decode cL_law 1163 = .ok (.iconst 1, 1) := by decide +kernel
theorem dL_law_1164 : decode cL_law 1164 = .ok (.iadd, 1) := by decide +kernel
theorem dL_law_1165 : decode cL_law 1165 = .ok (.iaload, 1) := by decide +kernel
theorem dL_law_1166 : decode cL_law 1166 = .ok (.aload_n 0, 1) := by decide +kernel
theorem dL_law_1167 : decode cL_law 1167 = .ok (.iload_n 3, 1) := by decide +kernel
theorem dL_law_1168 : decode cL_law 1168 = .ok (.iconst 2, 1) := by decide +kernel
theorem dL_law_1169 : decode cL_law 1169 = .ok (.iadd, 1) := by decide +kernel
theorem dL_law_1170 : decode cL_law 1170 = .ok (.iaload, 1) := by decide +kernel
theorem dL_law_1171 : decode cL_law 1171 = .ok (.aload_n 0, 1) := by decide +kernel
theorem dL_law_1172 : decode cL_law 1172 = .ok (.iload_n 3, 1) := by decide +kernel
theorem dL_law_1173 : decode cL_law 1173 = .ok (.iconst 3, 1) := by decide +kernel
theorem dL_law_1174 : decode cL_law 1174 = .ok (.iadd, 1) := by decide +kernel
theorem dL_law_1175 : decode cL_law 1175 = .ok (.iaload, 1) := by decide +kernel
theorem dL_law_1176 : decode cL_law 1176 = .ok (.invokevirtual 150, 3) := by decide +kernel
theorem dL_law_1179 : decode cL_law 1179 = .ok (.aload_n 2, 1) := by decide +kernel
theorem dL_law_1180 : decode cL_law 1180 = .ok (.aload_n 0, 1) := by decide +kernel
theorem dL_law_1181 : decode cL_law 1181 = .ok (.iload_n 3, 1) := by decide +kernel
theorem dL_law_1182 : decode cL_law 1182 = .ok (.iconst 1, 1) := by decide +kernel
theorem dL_law_1183 : decode cL_law 1183 = .ok (.iadd, 1) := by decide +kernel
theorem dL_law_1184 : decode cL_law 1184 = .ok (.iaload, 1) := by decide +kernel
theorem dL_law_1185 : decode cL_law 1185 = .ok (.aload_n 0, 1) := by decide +kernel
theorem dL_law_1186 : decode cL_law 1186 = .ok (.iload_n 3, 1) := by decide +kernel
theorem dL_law_1187 : decode cL_law 1187 = .ok (.iconst 2, 1) := by decide +kernel
theorem dL_law_1188 : decode cL_law 1188 = .ok (.iadd, 1) := by decide +kernel
theorem dL_law_1189 : decode cL_law 1189 = .ok (.iaload, 1) := by decide +kernel
theorem dL_law_1190 : decode cL_law 1190 = .ok (.aload_n 0, 1) := by decide +kernel
theorem dL_law_1191 : decode cL_law 1191 = .ok (.iload_n 3, 1) := by decide +kernel
theorem dL_law_1192 : decode cL_law 1192 = .ok (.iconst 3, 1) := by decide +kernel
theorem dL_law_1193 : decode cL_law 1193 = .ok (.iadd, 1) := by decide +kernel
theorem dL_law_1194 : decode cL_law 1194 = .ok (.iaload, 1) := by decide +kernel
theorem dL_law_1195 : decode cL_law 1195 = .ok (.invokevirtual 153, 3) := by decide +kernel
theorem dL_law_1198 : decode cL_law 1198 = .ok (.if_icmp .eq 144, 3) := by decide +kernel
theorem dL_law_1201 : decode cL_law 1201 = .ok (.iconst 0, 1) := by decide +kernel
theorem dL_law_1202 : decode cL_law 1202 = .ok (.ireturn, 1) := by decide +kernel
theorem dL_law_1203 : decode cL_law 1203 = .ok (.aload_n 1, 1) := by decide +kernel
theorem dL_law_1204 : decode cL_law 1204 = .ok (.aload_n 0, 1) := by decide +kernel
theorem dL_law_1205 : decode cL_law 1205 = .ok (.iload_n 3, 1) := by decide +kernel
theorem dL_law_1206 : decode cL_law 1206 = .ok (.iconst 1, 1) := by decide +kernel
theorem dL_law_1207 : decode cL_law 1207 = .ok (.iadd, 1) := by decide +kernel
theorem dL_law_1208 : decode cL_law 1208 = .ok (.iaload, 1) := by decide +kernel
theorem dL_law_1209 : decode cL_law 1209 = .ok (.invokevirtual 154, 3) := by decide +kernel
theorem dL_law_1212 : decode cL_law 1212 = .ok (.aload_n 2, 1) := by decide +kernel
theorem dL_law_1213 : decode cL_law 1213 = .ok (.aload_n 0, 1) := by decide +kernel
theorem dL_law_1214 : decode cL_law 1214 = .ok (.iload_n 3, 1) := by decide +kernel
theorem dL_law_1215 : decode cL_law 1215 = .ok (.iconst 1, 1) := by decide +kernel
theorem dL_law_1216 : decode cL_law 1216 = .ok (.iadd, 1) := by decide +kernel
theorem dL_law_1217 : decode cL_law 1217 = .ok (.iaload, 1) := by decide +kernel
theorem dL_law_1218 : decode cL_law 1218 = .ok (.invokevirtual 157, 3) := by decide +kernel
theorem dL_law_1221 : decode cL_law 1221 = .ok (.if_icmp .eq 121, 3) := by decide +kernel
theorem dL_law_1224 : decode cL_law 1224 = .ok (.iconst 0, 1) := by decide +kernel
theorem dL_law_1225 : decode cL_law 1225 = .ok (.ireturn, 1) := by decide +kernel
theorem dL_law_1226 : decode cL_law 1226 = .ok (.aload_n 1, 1) := by decide +kernel
theorem dL_law_1227 : decode cL_law 1227 = .ok (.aload_n 0, 1) := by decide +kernel
theorem dL_law_1228 : decode cL_law 1228 = .ok (.iload_n 3, 1) := by decide +kernel
theorem dL_law_1229 : decode cL_law 1229 = .ok (.iconst 1, 1) := by decide +kernel
theorem dL_law_1230 : decode cL_law 1230 = .ok (.iadd, 1) := by decide +kernel
theorem dL_law_1231 : decode cL_law 1231 = .ok (.iaload, 1) := by decide +kernel
theorem dL_law_1232 : decode cL_law 1232 = .ok (.aload_n 0, 1) := by decide +kernel
theorem dL_law_1233 : decode cL_law 1233 = .ok (.iload_n 3, 1) := by decide +kernel
theorem dL_law_1234 : decode cL_law 1234 = .ok (.iconst 2, 1) := by decide +kernel
theorem dL_law_1235 : decode cL_law 1235 = .ok (.iadd, 1) := by decide +kernel
theorem dL_law_1236 : decode cL_law 1236 = .ok (.iaload, 1) := by decide +kernel
theorem dL_law_1237 : decode cL_law 1237 = .ok (.aload_n 0, 1) := by decide +kernel
theorem dL_law_1238 : decode cL_law 1238 = .ok (.iload_n 3, 1) := by decide +kernel
theorem dL_law_1239 : decode cL_law 1239 = .ok (.iconst 3, 1) := by decide +kernel
theorem dL_law_1240 : decode cL_law 1240 = .ok (.iadd, 1) := by decide +kernel
theorem dL_law_1241 : decode cL_law 1241 = .ok (.iaload, 1) := by decide +kernel
theorem dL_law_1242 : decode cL_law 1242 = .ok (.aload_n 0, 1) := by decide +kernel
theorem dL_law_1243 : decode cL_law 1243 = .ok (.iload_n 3, 1) := by decide +kernel
theorem dL_law_1244 : decode cL_law 1244 = .ok (.iconst 4, 1) := by decide +kernel
theorem dL_law_1245 : decode cL_law 1245 = .ok (.iadd, 1) := by decide +kernel
theorem dL_law_1246 : decode cL_law 1246 = .ok (.iaload, 1) := by decide +kernel
theorem dL_law_1247 : decode cL_law 1247 = .ok (.invokevirtual 158, 3) := by decide +kernel
theorem dL_law_1250 : decode cL_law 1250 = .ok (.aload_n 2, 1) := by decide +kernel
theorem dL_law_1251 : decode cL_law 1251 = .ok (.aload_n 0, 1) := by decide +kernel
theorem dL_law_1252 : decode cL_law 1252 = .ok (.iload_n 3, 1) := by decide +kernel
theorem dL_law_1253 : decode cL_law 1253 = .ok (.iconst 1, 1) := by decide +kernel
theorem dL_law_1254 : decode cL_law 1254 = .ok (.iadd, 1) := by decide +kernel
theorem dL_law_1255 : decode cL_law 1255 = .ok (.iaload, 1) := by decide +kernel
theorem dL_law_1256 : decode cL_law 1256 = .ok (.aload_n 0, 1) := by decide +kernel
theorem dL_law_1257 : decode cL_law 1257 = .ok (.iload_n 3, 1) := by decide +kernel
theorem dL_law_1258 : decode cL_law 1258 = .ok (.iconst 2, 1) := by decide +kernel
theorem dL_law_1259 : decode cL_law 1259 = .ok (.iadd, 1) := by decide +kernel
theorem dL_law_1260 : decode cL_law 1260 = .ok (.iaload, 1) := by decide +kernel
theorem dL_law_1261 : decode cL_law 1261 = .ok (.aload_n 0, 1) := by decide +kernel
theorem dL_law_1262 : decode cL_law 1262 = .ok (.iload_n 3, 1) := by decide +kernel
theorem dL_law_1263 : decode cL_law 1263 = .ok (.iconst 3, 1) := by decide +kernel
theorem dL_law_1264 : decode cL_law 1264 = .ok (.iadd, 1) := by decide +kernel
theorem dL_law_1265 : decode cL_law 1265 = .ok (.iaload, 1) := by decide +kernel
theorem dL_law_1266 : decode cL_law 1266 = .ok (.aload_n 0, 1) := by decide +kernel
theorem dL_law_1267 : decode cL_law 1267 = .ok (.iload_n 3, 1) := by decide +kernel
theorem dL_law_1268 : decode cL_law 1268 = .ok (.iconst 4, 1) := by decide +kernel
theorem dL_law_1269 : decode cL_law 1269 = .ok (.iadd, 1) := by decide +kernel
theorem dL_law_1270 : decode cL_law 1270 = .ok (.iaload, 1) := by decide +kernel
theorem dL_law_1271 : decode cL_law 1271 = .ok (.invokevirtual 161, 3) := by decide +kernel
theorem dL_law_1274 : decode cL_law 1274 = .ok (.if_icmp .eq 68, 3) := by decide +kernel
theorem dL_law_1277 : decode cL_law 1277 = .ok (.iconst 0, 1) := by decide +kernel
theorem dL_law_1278 : decode cL_law 1278 = .ok (.ireturn, 1) := by decide +kernel
theorem dL_law_1279 : decode cL_law 1279 = .ok (.aload_n 1, 1) := by decide +kernel
theorem dL_law_1280 : decode cL_law 1280 = .ok (.aload_n 0, 1) := by decide +kernel
theorem dL_law_1281 : decode cL_law 1281 = .ok (.iload_n 3, 1) := by decide +kernel
theorem dL_law_1282 : decode cL_law 1282 = .ok (.iconst 1, 1) := by decide +kernel
theorem dL_law_1283 : decode cL_law 1283 = .ok (.iadd, 1) := by decide +kernel
theorem dL_law_1284 : decode cL_law 1284 = .ok (.iaload, 1) := by decide +kernel
theorem dL_law_1285 : decode cL_law 1285 = .ok (.aload_n 0, 1) := by decide +kernel
theorem dL_law_1286 : decode cL_law 1286 = .ok (.iload_n 3, 1) := by decide +kernel
theorem dL_law_1287 : decode cL_law 1287 = .ok (.iconst 2, 1) := by decide +kernel
theorem dL_law_1288 : decode cL_law 1288 = .ok (.iadd, 1) := by decide +kernel
theorem dL_law_1289 : decode cL_law 1289 = .ok (.iaload, 1) := by decide +kernel
theorem dL_law_1290 : decode cL_law 1290 = .ok (.aload_n 0, 1) := by decide +kernel
theorem dL_law_1291 : decode cL_law 1291 = .ok (.iload_n 3, 1) := by decide +kernel
theorem dL_law_1292 : decode cL_law 1292 = .ok (.iconst 3, 1) := by decide +kernel
theorem dL_law_1293 : decode cL_law 1293 = .ok (.iadd, 1) := by decide +kernel
theorem dL_law_1294 : decode cL_law 1294 = .ok (.iaload, 1) := by decide +kernel
theorem dL_law_1295 : decode cL_law 1295 = .ok (.aload_n 0, 1) := by decide +kernel
theorem dL_law_1296 : decode cL_law 1296 = .ok (.iload_n 3, 1) := by decide +kernel
theorem dL_law_1297 : decode cL_law 1297 = .ok (.iconst 4, 1) := by decide +kernel
theorem dL_law_1298 : decode cL_law 1298 = .ok (.iadd, 1) := by decide +kernel
theorem dL_law_1299 : decode cL_law 1299 = .ok (.iaload, 1) := by decide +kernel
theorem dL_law_1300 : decode cL_law 1300 = .ok (.aload_n 0, 1) := by decide +kernel
theorem dL_law_1301 : decode cL_law 1301 = .ok (.iload_n 3, 1) := by decide +kernel
theorem dL_law_1302 : decode cL_law 1302 = .ok (.iconst 5, 1) := by decide +kernel
theorem dL_law_1303 : decode cL_law 1303 = .ok (.iadd, 1) := by decide +kernel
theorem dL_law_1304 : decode cL_law 1304 = .ok (.iaload, 1) := by decide +kernel
theorem dL_law_1305 : decode cL_law 1305 = .ok (.invokevirtual 162, 3) := by decide +kernel
theorem dL_law_1308 : decode cL_law 1308 = .ok (.aload_n 2, 1) := by decide +kernel
theorem dL_law_1309 : decode cL_law 1309 = .ok (.aload_n 0, 1) := by decide +kernel
theorem dL_law_1310 : decode cL_law 1310 = .ok (.iload_n 3, 1) := by decide +kernel
theorem dL_law_1311 : decode cL_law 1311 = .ok (.iconst 1, 1) := by decide +kernel
theorem dL_law_1312 : decode cL_law 1312 = .ok (.iadd, 1) := by decide +kernel
theorem dL_law_1313 : decode cL_law 1313 = .ok (.iaload, 1) := by decide +kernel
theorem dL_law_1314 : decode cL_law 1314 = .ok (.aload_n 0, 1) := by decide +kernel
theorem dL_law_1315 : decode cL_law 1315 = .ok (.iload_n 3, 1) := by decide +kernel
theorem dL_law_1316 : decode cL_law 1316 = .ok (.iconst 2, 1) := by decide +kernel
theorem dL_law_1317 : decode cL_law 1317 = .ok (.iadd, 1) := by decide +kernel
theorem dL_law_1318 : decode cL_law 1318 = .ok (.iaload, 1) := by decide +kernel
theorem dL_law_1319 : decode cL_law 1319 = .ok (.aload_n 0, 1) := by decide +kernel
theorem dL_law_1320 : decode cL_law 1320 = .ok (.iload_n 3, 1) := by decide +kernel
theorem dL_law_1321 : decode cL_law 1321 = .ok (.iconst 3, 1) := by decide +kernel
theorem dL_law_1322 : decode cL_law 1322 = .ok (.iadd, 1) := by decide +kernel
theorem dL_law_1323 : decode cL_law 1323 = .ok (.iaload, 1) := by decide +kernel
theorem dL_law_1324 : decode cL_law 1324 = .ok (.aload_n 0, 1) := by decide +kernel
theorem dL_law_1325 : decode cL_law 1325 = .ok (.iload_n 3, 1) := by decide +kernel
theorem dL_law_1326 : decode cL_law 1326 = .ok (.iconst 4, 1) := by decide +kernel
theorem dL_law_1327 : decode cL_law 1327 = .ok (.iadd, 1) := by decide +kernel
theorem dL_law_1328 : decode cL_law 1328 = .ok (.iaload, 1) := by decide +kernel
theorem dL_law_1329 : decode cL_law 1329 = .ok (.aload_n 0, 1) := by decide +kernel
theorem dL_law_1330 : decode cL_law 1330 = .ok (.iload_n 3, 1) := by decide +kernel
theorem dL_law_1331 : decode cL_law 1331 = .ok (.iconst 5, 1) := by decide +kernel
theorem dL_law_1332 : decode cL_law 1332 = .ok (.iadd, 1) := by decide +kernel
theorem dL_law_1333 : decode cL_law 1333 = .ok (.iaload, 1) := by decide +kernel
theorem dL_law_1334 : decode cL_law 1334 = .ok (.invokevirtual 166, 3) := by decide +kernel
theorem dL_law_1337 : decode cL_law 1337 = .ok (.if_icmp .eq 5, 3) := by decide +kernel
theorem dL_law_1340 : decode cL_law 1340 = .ok (.iconst 0, 1) := by decide +kernel
theorem dL_law_1341 : decode cL_law 1341 = .ok (.ireturn, 1) := by decide +kernel
theorem dL_law_1342 : decode cL_law 1342 = .ok (.iinc 3 6, 3) := by decide +kernel
theorem dL_law_1345 : decode cL_law 1345 = .ok (.goto (-1327), 3) := by decide +kernel
theorem dL_law_1348 : decode cL_law 1348 = .ok (.iconst 1, 1) := by decide +kernel
theorem dL_law_1349 : decode cL_law 1349 = .ok (.ireturn, 1) := by decide +kernel
end
section
/-! THE ABSTRACT MACHINE over the kit: cells by number, a shape (how many cells, their kinds, their references) and a memory of ints. -/
abbrev zS : Type := Nat × (Nat → Nat × Nat) × (Nat → Nat → Option Nat)
abbrev zM : Type := Nat → Nat → Int32
/-- tables' numbers, array classes by kind, where the cells begin, outside arrays, the script -/
abbrev zG : Type := va_G × (Nat → ClassId) × Nat × (Nat → Nat) × Nat × (Nat → Int32)
abbrev gD (g : zG) : va_G := g.1
abbrev gY (g : zG) : Nat → ClassId := g.2.1
abbrev gB (g : zG) : Nat := g.2.2.1
abbrev gE (g : zG) : Nat → Nat := g.2.2.2.1
abbrev gL (g : zG) : Nat := g.2.2.2.2.1
abbrev gX (g : zG) : Nat → Int32 := g.2.2.2.2.2
abbrev gA (g : zG) : Nat → Prop := fun q => gB g ≤ q
/-- how many fields a class has; which hold references -/
def z_n (t : Nat) : Nat := match t with
  | 0 => 2 | 1 => 2 | 2 => 5 | 3 => 5 | 4 => 7 | 5 => 3 | 6 => 2 | 7 => 4 | 8 => 2 | 9 => 16 | _ => 46
def z_rf (t j : Nat) : Bool := match t with
  | 0 => j == 0 | 1 => j == 0 | 2 => Nat.blt j 4 | 3 => true | 4 => Nat.blt j 4 | 5 => j == 0 | 6 => j == 0 | 7 => Nat.blt j 3 | 8 => j == 0 | 9 => Nat.blt j 13
  | _ => match j with | 1 => false | 2 => false | 3 => false | 16 => false | 25 => false | 32 => false | 33 => false | 34 => false | 39 => false | _ => true
/-- outside arrays: four tables of the class, and the script -/
def z_sn (i : Nat) : String := match i with | 0 => "NUMBER_LAST" | 1 => "LOST_FIRST" | 2 => "ORDERS" | _ => "WITH_FEATURE"
def z_sv (i j : Nat) : Int32 := match i with
  | 0 => ([15, 8, 3, 1, 99, 99] : List Int32).getD j 0
  | 1 => ([2, 1, 0, 3] : List Int32).getD j 0
  | 2 => ([6, 2, 2, 6] : List Int32).getD j 0
  | _ => ([-858993460, -252645136, -16711936, -65536] : List Int32).getD j 0
def z_sl (i : Nat) : Nat := match i with | 0 => 6 | _ => 4
def z_el (g : zG) (i : Nat) : Nat := if i < 4 then z_sl i else gL g
def z_ev (g : zG) (i j : Nat) : Int32 := if i < 4 then z_sv i j else gX g j
def z_ad (g : zG) (k : Nat) : Nat := if k < 1000000 then gB g + k else gE g (k - 1000000)
def zc (g : zG) (v : Value) : Value := match v with | .ref k => .ref (z_ad g k) | v => v
theorem zc_int (g : zG) (x : Int32) : zc g (.int x) = .int x := rfl
theorem zc_cat (g : zG) (v : Value) : (zc g v).category = v.category := by cases v <;> rfl
theorem zc_cats (g : zG) (st : List Value) : ((st.map (zc g)).map fun v => v.category) = st.map fun v => v.category := by
  rw [List.map_map]; exact List.map_congr_left (fun v _ => zc_cat g v)
def z_cell (g : zG) (S : zS) (M : zM) (k : Nat) : va_E :=
  if (S.2.1 k).1 < 11 then .inr ((S.2.1 k).1, (List.range (z_n (S.2.1 k).1)).map (fun j => if z_rf (S.2.1 k).1 j then va_rf ((S.2.2 k j).map (z_ad g)) else .int (M k j)))
  else if (S.2.1 k).1 < 13 then .inl (gY g (S.2.1 k).1, (S.2.1 k).2, .inl (M k))
  else .inl (gY g (S.2.1 k).1, (S.2.1 k).2, .inr (.inr (.inr (.inr (fun j => (S.2.2 k j).map (z_ad g))))))
def z_w (g : zG) (S : zS) (M : zM) : va_W := (List.range S.1).map (fun k => (gB g + k, z_cell g S M k))
theorem z_w_at (g : zG) (S : zS) (M : zM) {k : Nat} (h : k < S.1) : (z_w g S M)[k]? = some (gB g + k, z_cell g S M k) := by simp [z_w, h]
theorem z_w_of {g : zG} {S : zS} {M : zM} {k : Nat} {q : Nat × va_E} (h : (z_w g S M)[k]? = some q) : k < S.1 ∧ q = (gB g + k, z_cell g S M k) := by
  have hk : k < S.1 := by have := (List.getElem?_eq_some_iff.mp h).1; simpa [z_w] using this
  exact ⟨hk, Option.some.inj (h.symm.trans (z_w_at g S M hk))⟩
theorem z_w_D (g : zG) (S : zS) (M : zM) : va_D (gA g) (z_w g S M) := by
  refine ⟨fun i j p q hi hj hpq => ?_, fun k q hk => ?_⟩
  · rw [(z_w_of hi).2, (z_w_of hj).2] at hpq
    have : gB g + i = gB g + j := hpq
    omega
  · rw [(z_w_of hk).2]; exact Nat.le_add_right _ _
theorem z_w_len (g : zG) (S : zS) (M : zM) : (z_w g S M).length = S.1 := by simp [z_w]
/-- one int of a cell changes -/
def z_st (M : zM) (k j : Nat) (v : Int32) : zM := va_up M k (upd (M k) j v)
/-- a whole row changes -/
def z_row (M : zM) (k : Nat) (f : Nat → Int32) : zM := va_up M k f
def z_sR (S : zS) (k j i : Nat) : zS := (S.1, S.2.1, va_up S.2.2 k (va_up (S.2.2 k) j (some i)))
theorem z_cell_ne {g : zG} {S : zS} {M : zM} {k i : Nat} {f : Nat → Int32} (h : i ≠ k) : z_cell g S (va_up M k f) i = z_cell g S M i := by
  unfold z_cell; rw [va_up_ne _ _ h]
theorem z_set_arr {g : zG} {S : zS} {M : zM} {k : Nat} (f : Nat → Int32) (hk : k < S.1) (h1 : ¬ (S.2.1 k).1 < 11) (h2 : (S.2.1 k).1 < 13) :
    (z_w g S M).set k (gB g + k, .inl (gY g (S.2.1 k).1, (S.2.1 k).2, .inl f)) = z_w g S (z_row M k f) := by
  apply List.ext_getElem?
  intro i
  by_cases hi : i < S.1
  · by_cases hik : i = k
    · subst hik
      rw [List.getElem?_set_self (by rw [z_w_len]; exact hi), z_w_at g S _ hi]
      unfold z_cell z_row
      rw [if_neg h1, if_pos h2, va_up_self]
    · rw [List.getElem?_set_ne (Ne.symm hik), z_w_at g S _ hi, z_w_at g S _ hi]
      rw [z_row, z_cell_ne hik]
  · rw [List.getElem?_eq_none (by rw [List.length_set, z_w_len]; omega), List.getElem?_eq_none (by rw [z_w_len]; omega)]
theorem z_set_obj {g : zG} {S : zS} {M : zM} {k j : Nat} {fs : List Value} (v : Int32) (hk : k < S.1) (h1 : (S.2.1 k).1 < 11) (hr : z_rf (S.2.1 k).1 j = false)
    (hfs : fs = (List.range (z_n (S.2.1 k).1)).map (fun j => if z_rf (S.2.1 k).1 j then va_rf ((S.2.2 k j).map (z_ad g)) else .int (M k j))) :
    (z_w g S M).set k (gB g + k, .inr ((S.2.1 k).1, fs.set j (.int v))) = z_w g S (z_st M k j v) := by
  apply List.ext_getElem?
  intro i
  by_cases hi : i < S.1
  · by_cases hik : i = k
    · subst hik
      rw [List.getElem?_set_self (by rw [z_w_len]; exact hi), z_w_at g S _ hi]
      unfold z_cell z_st
      rw [if_pos h1, va_up_self, hfs]
      congr 4
      apply List.ext_getElem?
      intro a
      by_cases ha : a < z_n (S.2.1 i).1
      · by_cases haj : a = j
        · subst haj
          rw [List.getElem?_set_self (by simp [ha])]
          simp [ha, hr, upd]
        · rw [List.getElem?_set_ne (Ne.symm haj)]
          simp [ha, upd, haj]
      · rw [List.getElem?_eq_none (by simp; omega), List.getElem?_eq_none (by simp; omega)]
    · rw [List.getElem?_set_ne (Ne.symm hik), z_w_at g S _ hi, z_w_at g S _ hi]
      rw [z_st, z_cell_ne hik]
  · rw [List.getElem?_eq_none (by rw [List.length_set, z_w_len]; omega), List.getElem?_eq_none (by rw [z_w_len]; omega)]
theorem z_cellR_ne {g : zG} {S : zS} {M : zM} {k j i a : Nat} (h : a ≠ k) : z_cell g (z_sR S k j i) M a = z_cell g S M a := by
  unfold z_cell z_sR; simp only [va_up_ne _ _ h]
theorem z_set_ref {g : zG} {S : zS} {M : zM} {k j i : Nat} {fs : List Value} (hk : k < S.1) (h1 : (S.2.1 k).1 < 11) (hr : z_rf (S.2.1 k).1 j = true)
    (hfs : fs = (List.range (z_n (S.2.1 k).1)).map (fun j => if z_rf (S.2.1 k).1 j then va_rf ((S.2.2 k j).map (z_ad g)) else .int (M k j))) :
    (z_w g S M).set k (gB g + k, .inr ((S.2.1 k).1, fs.set j (.ref (z_ad g i)))) = z_w g (z_sR S k j i) M := by
  apply List.ext_getElem?
  intro a
  by_cases hi : a < S.1
  · by_cases hik : a = k
    · subst hik
      rw [List.getElem?_set_self (by rw [z_w_len]; exact hi), z_w_at g (z_sR S a j i) _ hi]
      unfold z_cell z_sR
      simp only [va_up_self]
      rw [if_pos h1, hfs]
      congr 4
      apply List.ext_getElem?
      intro b
      by_cases hb : b < z_n (S.2.1 a).1
      · by_cases hbj : b = j
        · subst hbj
          rw [List.getElem?_set_self (by simp [hb])]
          simp [hb, hr, va_up, va_rf]
        · rw [List.getElem?_set_ne (Ne.symm hbj)]
          simp [hb, va_up, hbj]
      · rw [List.getElem?_eq_none (by simp; omega), List.getElem?_eq_none (by simp; omega)]
    · rw [List.getElem?_set_ne (Ne.symm hik), z_w_at g S _ hi, z_w_at g (z_sR S k j i) _ hi, z_cellR_ne hik]
  · rw [List.getElem?_eq_none (by rw [List.length_set, z_w_len]; omega), List.getElem?_eq_none (by rw [z_w_len]; exact Nat.not_lt.mp hi)]
theorem z_set_rarr {g : zG} {S : zS} {M : zM} {k j i : Nat} (hk : k < S.1) (h1 : ¬ (S.2.1 k).1 < 13) :
    (z_w g S M).set k (gB g + k, .inl (gY g (S.2.1 k).1, (S.2.1 k).2, .inr (.inr (.inr (.inr (va_up (fun j => (S.2.2 k j).map (z_ad g)) j (some (z_ad g i)))))))) = z_w g (z_sR S k j i) M := by
  apply List.ext_getElem?
  intro a
  by_cases hi : a < S.1
  · by_cases hik : a = k
    · subst hik
      rw [List.getElem?_set_self (by rw [z_w_len]; exact hi), z_w_at g (z_sR S a j i) _ hi]
      unfold z_cell z_sR
      simp only [va_up_self]
      rw [if_neg (by omega), if_neg h1]
      congr 9
      funext b
      by_cases hb : b = j
      · subst hb; simp [va_up]
      · simp [va_up, hb]
    · rw [List.getElem?_set_ne (Ne.symm hik), z_w_at g S _ hi, z_w_at g (z_sR S k j i) _ hi, z_cellR_ne hik]
  · rw [List.getElem?_eq_none (by rw [List.length_set, z_w_len]; omega), List.getElem?_eq_none (by rw [z_w_len]; exact Nat.not_lt.mp hi)]
/-- the tables' words that stay -/
def z_good (w : Cond) : Bool := goodWord w || (match w with | .methodLinkNest _ _ _ _ => true | .fieldLinkNest _ _ _ _ _ _ => true | _ => false)
/-- the words that every method of the system may use -/
def z_U : List Cond := lw_tbl.filter z_good
theorem z_U_in {w : Cond} (h : w ∈ z_U) : w ∈ lw_tbl ∧ z_good w = true := List.mem_filter.mp h
theorem z_U_of {w : Cond} (h : w ∈ lw_tbl) (hg : z_good w = true) : w ∈ z_U := List.mem_filter.mpr ⟨h, hg⟩
theorem z_word {w : Cond} (hg : z_good w = true) {a a' : Array Value} {s U : State} (hW : s.WarmedH U.vm) (h : w.before a s = true) : w.before a' U = true := by
  unfold z_good at hg
  rcases Bool.or_eq_true_iff.mp hg with h1 | h1
  · exact word_at hW (good_of_word h1) h
  · cases w <;> first | (simp at h1; done) | (exact va_Nw.use rfl (va_Nw.warmM hW (va_Nw.of rfl h))) | (exact va_Nw.use rfl (va_Nw.warmF hW (va_Nw.of rfl h)))
end
section
theorem z_AOA {t : FieldType} {u U : State} (hvm : u.vm.Alike U.vm) (h : (Cond.arrayOver (.array t)).before #[] u = true) : (Cond.arrayOver (.array t)).before #[] U = true := by
  unfold Cond.before Cond.holds at h ⊢
  simp only [Cond.value] at h ⊢
  rw [hvm.findClass]
  cases hc : u.vm.findClass (FieldType.array t).toString with
  | none => rw [hc] at h; cases h
  | some comp =>
    rw [hc, Option.bind_some] at h
    rw [Option.bind_some]
    have hi : (U.vm.classes.findIdx? fun (x : Class) => match x.kind with | .array component _ => component == comp | _ => false) = (u.vm.classes.findIdx? fun (x : Class) => match x.kind with | .array component _ => component == comp | _ => false) := by
      have e : U.vm.bare = u.vm.bare := by first | exact hvm.bare_eq | exact hvm.bare_eq.symm
      exact (va_idx_bare U.vm comp).symm.trans ((congrArg (fun v : Vm => v.classes.findIdx? fun (x : Class) => match x.kind with | .array component _ => component == comp | _ => false) e).trans (va_idx_bare u.vm comp))
    refine (congrArg (fun o : Option Nat => (o.bind (fun c => (U.vm.classes[c]?).map fun (k : Class) => match k.kind with | .array _ ty => decide (ty = FieldType.array t) && decide (U.vm.findClass ("[" ++ (FieldType.array t).toString) = some c) | _ => false) == some true)) hi).trans ?_
    cases hd : (u.vm.classes.findIdx? fun (x : Class) => match x.kind with | .array component _ => component == comp | _ => false) with
    | none =>
      exfalso
      have h2 := (congrArg (fun o : Option Nat => (o.bind (fun c => (u.vm.classes[c]?).map fun (k : Class) => match k.kind with | .array _ ty => decide (ty = FieldType.array t) && decide (u.vm.findClass ("[" ++ (FieldType.array t).toString) = some c) | _ => false) == some true)) hd).symm.trans h
      cases h2
    | some c =>
      have h2 := (congrArg (fun o : Option Nat => (o.bind (fun c => (u.vm.classes[c]?).map fun (k : Class) => match k.kind with | .array _ ty => decide (ty = FieldType.array t) && decide (u.vm.findClass ("[" ++ (FieldType.array t).toString) = some c) | _ => false) == some true)) hd).symm.trans h
      dsimp only [Option.bind_some] at h2 ⊢
      cases hk : u.vm.classes[c]? with
      | none => rw [hk] at h2; cases h2
      | some k =>
        obtain ⟨k', hk', he⟩ := hvm.2.2 _ _ hk
        rw [hk] at h2
        rw [hk', hvm.findClass]
        have hkk : k'.kind = k.kind := by rw [he]
        dsimp only [Option.map_some] at h2 ⊢
        rw [hkk]
        exact h2
/-- the types of the array classes, by kind 11 .. 16 -/
def z_tys (g : zG) : List (ClassId × FieldType) := [(gY g 11, .int), (gY g 12, .boolean), (gY g 13, .object RX1), (gY g 14, .object RX2), (gY g 15, .object RX5), (gY g 16, .array .int)]
/-- what holds of every state of the run, at a method's start -/
def z_Amb (g : zG) (s : State) : Prop := (∀ w ∈ z_U, w.before #[] s = true) ∧ va_K (gD g) vwCl (z_tys g) s ∧ gB g ≤ s.heap.size ∧
  (∀ i, i < 4 → va_Z "MachineBench" (z_sn i) "[I" (.ref (gE g i)) (gA g) s s.heap) ∧ (∀ i, i < 5 → va_T .int (gE g i) (z_el g i) (fun j => .int (z_ev g i j)) (gA g) s s.heap) ∧
  (∀ C : String, Cond.arrayOver (.object C) ∈ lw_tbl → va_AO C s) ∧ (Cond.arrayOver (.array .int)).before #[] s = true
theorem z_Amb.moved {g : zG} {s U : State} (h : z_Amb g s) (hW : s.WarmedH U.vm) (hz : s.heap.size ≤ U.heap.size) (hq : ∀ q : Nat, q < s.heap.size → ¬ gA g q → U.heap[q]? = s.heap[q]?) : z_Amb g U :=
  ⟨fun w hw => z_word (z_U_in hw).2 hW (h.1 w hw), va_K.moved hW.alike h.2.1, Nat.le_trans h.2.2.1 hz, fun i hi => ((h.2.2.2.1 i hi).kept hq).moved hW.alike, fun i hi => ((h.2.2.2.2.1 i hi).kept hq).moved hW.alike, fun C hC => va_AO.moved hW.alike (h.2.2.2.2.2.1 C hC), z_AOA hW.alike h.2.2.2.2.2.2⟩
theorem z_Amb.calling {g : zG} {U : State} {f : JFrame} {mk : MethodId} {a : Array Value} (h : z_Amb g U) : z_Amb g (U.calling f mk a) :=
  z_Amb.moved h (State.WarmedH.refl U) (Nat.le_refl _) (fun _ _ _ => rfl)
theorem z_Amb.word {g : zG} {s : State} (h : z_Amb g s) {args : Array Value} : ∀ w ∈ z_U, w.before args s = true := fun w hw => z_word (z_U_in hw).2 (State.WarmedH.refl s) (h.1 w hw)
/-- locals by place -/
def z_lp (g : zG) (ls : List (Option Value)) : List (Nat × Value) := (List.range ls.length).filterMap (fun k => match ls[k]? with | some (some v) => some (k, zc g v) | _ => none)
theorem z_lp_mem {g : zG} {ls : List (Option Value)} {k : Nat} {v : Value} (h : ls[k]? = some (some v)) : (k, zc g v) ∈ z_lp g ls :=
  List.mem_filterMap.mpr ⟨k, List.mem_range.mpr (List.getElem?_eq_some_iff.mp h).1, by rw [h]⟩
theorem z_lp_of {g : zG} {ls : List (Option Value)} {q : Nat × Value} (h : q ∈ z_lp g ls) : ∃ v, ls[q.1]? = some (some v) ∧ q.2 = zc g v := by
  obtain ⟨k, -, hk⟩ := List.mem_filterMap.mp h
  split at hk
  · rename_i v hv
    cases hk
    exact ⟨v, hv, rfl⟩
  · cases hk
def z_has (g : zG) (la : Array Slot) (nL : Nat) (ls : List (Option Value)) : Prop := ls.length = nL ∧ lv_has la nL (z_lp g ls)
theorem z_has.at {g : zG} {la : Array Slot} {nL : Nat} {ls : List (Option Value)} (h : z_has g la nL ls) {k : Nat} {v : Value} (hk : ls[k]? = some (some v)) : la[k]? = some (.val (zc g v)) := h.2.2.2 _ (z_lp_mem hk)
/-- no long stands just ahead of a place that is stored to -/
def z_ok (ls : List (Option Value)) (i : Nat) : Bool := match i with
  | 0 => true
  | j + 1 => match ls[j]? with | some (some v) => v.category == 1 | _ => true
theorem z_has.set {g : zG} {la' : Array Slot} {nL i : Nat} {ls : List (Option Value)} {v : Value} (hl : ls.length = nL) (hok : z_ok ls i = true)
    (h : lv_has la' nL ((i, zc g v) :: (z_lp g ls).filter (fun q => !(q.1 == i) && !(q.1 + 1 == i && q.2.category == 2)))) : z_has g la' nL (ls.set i (some v)) := by
  refine ⟨by rw [List.length_set]; exact hl, h.1, h.2.1, fun q hq => ?_⟩
  obtain ⟨w, h1, h2⟩ := z_lp_of hq
  refine h.2.2 q ?_
  obtain ⟨k, x⟩ := q
  dsimp only at h1 h2
  subst h2
  by_cases hk : k = i
  · subst hk
    have hlt : k < ls.length := by have := (List.getElem?_eq_some_iff.mp h1).1; rwa [List.length_set] at this
    rw [List.getElem?_set_self hlt] at h1
    cases h1
    exact List.mem_cons_self
  · rw [List.getElem?_set_ne (Ne.symm hk)] at h1
    refine List.mem_cons_of_mem _ (List.mem_filter.mpr ⟨z_lp_mem h1, ?_⟩)
    by_cases h3 : k + 1 = i
    · subst h3
      have h4 : z_ok ls (k + 1) = (w.category == 1) := by simp only [z_ok, h1]
      rw [h4] at hok
      have h5 : w.category = 1 := eq_of_beq hok
      simp [zc_cat, h5]
    · simp [hk, h3]
/-- what a method leaves behind -/
def z_Q (g : zG) (mc : Nat) (Q : Option Value → zS → zM → Prop) : Array Value → State → Outcome → State → Prop := fun _ st o t =>
  (∃ (v : Option Value) (S : zS) (M : zM), o = .returned (v.map (zc g)) ∧ Q v S M ∧ gB g + S.1 = st.heap.size + mc ∧ S.1 ≤ 1000000 ∧ gB g + S.1 ≤ t.heap.size ∧ va_P (gD g) vwCl (z_w g S M) t.heap) ∧ va_F (gA g) st t
/-- THE JUDGEMENT: the method (own, cc, nL, rt) comes from pc with these locals, stack, shape and memory to its end with Q; d: frames that are left, bc, bs: cells and slots that it still makes -/
def AW (l : Launch) (g : zG) (own : String) (cc : ByteArray) (nL : Nat) (rt : Option FieldType) (ini : Bool) (d bc bs pc : Nat) (ls : List (Option Value)) (st : List Value) (S : zS) (M : zM) (Q : Option Value → zS → zM → Prop) : Prop :=
  ∀ (p : Program) (e : Env) (R : Room) (s : State) (m : MethodId) (args : Array Value) (below : List Frame) (meth : Method) (c : Code) (H : Heap) (locs : List Loc) (cells slots mc ms : Nat),
    p.tables.exec = Jvm.exec → c.code = cc → meth.sig.returnType = rt → c.maxLocals = nL → s.vm.findClass own = some m.cls → meth.locks = false → (ini = true → meth.name = "<init>") → z_Amb g s →
    d ≤ R.frames → 40 * d ≤ R.locals → cells + bc = mc → slots + bs ≤ ms → mc ≤ R.cells → ms ≤ R.slots → s.heap.size + cells = gB g + S.1 → gB g + S.1 ≤ H.size → S.1 ≤ 1000000 →
    va_P (gD g) vwCl (z_w g S M) H → va_S (gA g) s.heap H locs → ∀ la : Array Slot, z_has g la nL ls →
    W p l e R s m args below meth c H locs cells slots (MQ below (z_Q g mc Q) args s mc ms (gA g)) (F0 m pc la (st.map (zc g)))
section AWR
variable {l : Launch} {g : zG} {own : String} {cc : ByteArray} {nL : Nat} {rt : Option FieldType} {ini : Bool} {d bc bs pc : Nat} {ls : List (Option Value)} {st : List Value} {S : zS} {M : zM} {Q : Option Value → zS → zM → Prop}
theorem AW.iconst (pc' : Nat) {n : Int} (v : Int32) (hd : decode cc pc = .ok (.iconst n, 1)) (hv : Int32.ofInt n = v) (hp : pc + 1 = pc') (k : AW l g own cc nL rt ini d bc bs pc' ls (.int v :: st) S M Q) : AW l g own cc nL rt ini d bc bs pc ls st S M Q := by
  subst hp
  intro p e R s m args below meth c H locs cells slots mc ms hx hb hr hml hown hlk hin hA h1 h2 h3 h4 h5 h6 h7 h8 h9 hP hS la hl
  exact lv_iconst hx hb hd hv (k p e R s m args below meth c H locs cells slots mc ms hx hb hr hml hown hlk hin hA h1 h2 h3 h4 h5 h6 h7 h8 h9 hP hS la hl)
end AWR
end
section
section AWR
variable {l : Launch} {g : zG} {own : String} {cc : ByteArray} {nL : Nat} {rt : Option FieldType} {ini : Bool} {d bc bs pc : Nat} {ls : List (Option Value)} {st : List Value} {S : zS} {M : zM} {Q : Option Value → zS → zM → Prop}
theorem AW.bipush (pc' : Nat) {n : Int} (v : Int32) (hd : decode cc pc = .ok (.bipush n, 2)) (hv : (Int8.ofInt n).toInt32 = v) (hp : pc + 2 = pc') (k : AW l g own cc nL rt ini d bc bs pc' ls (.int v :: st) S M Q) : AW l g own cc nL rt ini d bc bs pc ls (st) S M Q := by
  subst hp
  intro p e R s m args below meth c H locs cells slots mc ms hx hb hr hml hown hlk hin hA h1 h2 h3 h4 h5 h6 h7 h8 h9 hP hS la hl
  exact lv_bipush hx hb hd hv (k p e R s m args below meth c H locs cells slots mc ms hx hb hr hml hown hlk hin hA h1 h2 h3 h4 h5 h6 h7 h8 h9 hP hS la hl)
theorem AW.sipush (pc' : Nat) {n : Int} (v : Int32) (hd : decode cc pc = .ok (.sipush n, 3)) (hv : (Int16.ofInt n).toInt32 = v) (hp : pc + 3 = pc') (k : AW l g own cc nL rt ini d bc bs pc' ls (.int v :: st) S M Q) : AW l g own cc nL rt ini d bc bs pc ls (st) S M Q := by
  subst hp
  intro p e R s m args below meth c H locs cells slots mc ms hx hb hr hml hown hlk hin hA h1 h2 h3 h4 h5 h6 h7 h8 h9 hP hS la hl
  exact lv_sipush hx hb hd hv (k p e R s m args below meth c H locs cells slots mc ms hx hb hr hml hown hlk hin hA h1 h2 h3 h4 h5 h6 h7 h8 h9 hP hS la hl)
theorem AW.lconst (pc' : Nat) {n : Fin 2} (v : Int64) (hd : decode cc pc = .ok (.lconst n, 1)) (hv : Int64.ofNat (n : Nat) = v) (hp : pc + 1 = pc') (k : AW l g own cc nL rt ini d bc bs pc' ls (.long v :: st) S M Q) : AW l g own cc nL rt ini d bc bs pc ls (st) S M Q := by
  subst hp
  intro p e R s m args below meth c H locs cells slots mc ms hx hb hr hml hown hlk hin hA h1 h2 h3 h4 h5 h6 h7 h8 h9 hP hS la hl
  exact lv_lconst hx hb hd hv (k p e R s m args below meth c H locs cells slots mc ms hx hb hr hml hown hlk hin hA h1 h2 h3 h4 h5 h6 h7 h8 h9 hP hS la hl)
theorem AW.ldc (pc' : Nat) {ix : Nat} (v : Int32) (hd : decode cc pc = .ok (.ldc ix, 2)) (hw : Cond.constant own ix v ∈ z_U) (hp : pc + 2 = pc') (k : AW l g own cc nL rt ini d bc bs pc' ls (.int v :: st) S M Q) : AW l g own cc nL rt ini d bc bs pc ls (st) S M Q := by
  subst hp
  intro p e R s m args below meth c H locs cells slots mc ms hx hb hr hml hown hlk hin hA h1 h2 h3 h4 h5 h6 h7 h8 h9 hP hS la hl
  exact lv_ldc hx hb hown (hA.word _ hw) hd (k p e R s m args below meth c H locs cells slots mc ms hx hb hr hml hown hlk hin hA h1 h2 h3 h4 h5 h6 h7 h8 h9 hP hS la hl)
theorem AW.ldc2 (pc' : Nat) {ix : Nat} (v : Int64) (hd : decode cc pc = .ok (.ldc2_w ix, 3)) (hw : Cond.constantLong own ix v ∈ z_U) (hp : pc + 3 = pc') (k : AW l g own cc nL rt ini d bc bs pc' ls (.long v :: st) S M Q) : AW l g own cc nL rt ini d bc bs pc ls (st) S M Q := by
  subst hp
  intro p e R s m args below meth c H locs cells slots mc ms hx hb hr hml hown hlk hin hA h1 h2 h3 h4 h5 h6 h7 h8 h9 hP hS la hl
  exact lv_ldc2 hx hb hown (hA.word _ hw) hd (k p e R s m args below meth c H locs cells slots mc ms hx hb hr hml hown hlk hin hA h1 h2 h3 h4 h5 h6 h7 h8 h9 hP hS la hl)
theorem AW.iload_n (pc' : Nat) {k0 : Fin 4} {x : Int32} (hd : decode cc pc = .ok (.iload_n k0, 1)) (hv : ls[(k0 : Nat)]? = some (some (.int x))) (hp : pc + 1 = pc') (k : AW l g own cc nL rt ini d bc bs pc' ls (.int x :: st) S M Q) : AW l g own cc nL rt ini d bc bs pc ls (st) S M Q := by
  subst hp
  intro p e R s m args below meth c H locs cells slots mc ms hx hb hr hml hown hlk hin hA h1 h2 h3 h4 h5 h6 h7 h8 h9 hP hS la hl
  exact lv_iload_n hx hb hd rfl (hl.at hv) (k p e R s m args below meth c H locs cells slots mc ms hx hb hr hml hown hlk hin hA h1 h2 h3 h4 h5 h6 h7 h8 h9 hP hS la hl)
theorem AW.iload (pc' : Nat) {i : Nat} {x : Int32} (hd : decode cc pc = .ok (.iload i, 2)) (hv : ls[i]? = some (some (.int x))) (hp : pc + 2 = pc') (k : AW l g own cc nL rt ini d bc bs pc' ls (.int x :: st) S M Q) : AW l g own cc nL rt ini d bc bs pc ls (st) S M Q := by
  subst hp
  intro p e R s m args below meth c H locs cells slots mc ms hx hb hr hml hown hlk hin hA h1 h2 h3 h4 h5 h6 h7 h8 h9 hP hS la hl
  exact lv_iload hx hb hd (hl.at hv) (k p e R s m args below meth c H locs cells slots mc ms hx hb hr hml hown hlk hin hA h1 h2 h3 h4 h5 h6 h7 h8 h9 hP hS la hl)
theorem AW.lload_n (pc' : Nat) {k0 : Fin 4} {x : Int64} (hd : decode cc pc = .ok (.lload_n k0, 1)) (hv : ls[(k0 : Nat)]? = some (some (.long x))) (hp : pc + 1 = pc') (k : AW l g own cc nL rt ini d bc bs pc' ls (.long x :: st) S M Q) : AW l g own cc nL rt ini d bc bs pc ls (st) S M Q := by
  subst hp
  intro p e R s m args below meth c H locs cells slots mc ms hx hb hr hml hown hlk hin hA h1 h2 h3 h4 h5 h6 h7 h8 h9 hP hS la hl
  exact lv_lload_n hx hb hd rfl (hl.at hv) (k p e R s m args below meth c H locs cells slots mc ms hx hb hr hml hown hlk hin hA h1 h2 h3 h4 h5 h6 h7 h8 h9 hP hS la hl)
theorem AW.lload (pc' : Nat) {i : Nat} {x : Int64} (hd : decode cc pc = .ok (.lload i, 2)) (hv : ls[i]? = some (some (.long x))) (hp : pc + 2 = pc') (k : AW l g own cc nL rt ini d bc bs pc' ls (.long x :: st) S M Q) : AW l g own cc nL rt ini d bc bs pc ls (st) S M Q := by
  subst hp
  intro p e R s m args below meth c H locs cells slots mc ms hx hb hr hml hown hlk hin hA h1 h2 h3 h4 h5 h6 h7 h8 h9 hP hS la hl
  exact lv_lload hx hb hd (hl.at hv) (k p e R s m args below meth c H locs cells slots mc ms hx hb hr hml hown hlk hin hA h1 h2 h3 h4 h5 h6 h7 h8 h9 hP hS la hl)
theorem AW.aload_n (pc' : Nat) {k0 : Fin 4} {x : Nat} (hd : decode cc pc = .ok (.aload_n k0, 1)) (hv : ls[(k0 : Nat)]? = some (some (.ref x))) (hp : pc + 1 = pc') (k : AW l g own cc nL rt ini d bc bs pc' ls (.ref x :: st) S M Q) : AW l g own cc nL rt ini d bc bs pc ls (st) S M Q := by
  subst hp
  intro p e R s m args below meth c H locs cells slots mc ms hx hb hr hml hown hlk hin hA h1 h2 h3 h4 h5 h6 h7 h8 h9 hP hS la hl
  exact lv_aload_n hx hb hd rfl (hl.at hv) (k p e R s m args below meth c H locs cells slots mc ms hx hb hr hml hown hlk hin hA h1 h2 h3 h4 h5 h6 h7 h8 h9 hP hS la hl)
theorem AW.aload (pc' : Nat) {i : Nat} {x : Nat} (hd : decode cc pc = .ok (.aload i, 2)) (hv : ls[i]? = some (some (.ref x))) (hp : pc + 2 = pc') (k : AW l g own cc nL rt ini d bc bs pc' ls (.ref x :: st) S M Q) : AW l g own cc nL rt ini d bc bs pc ls (st) S M Q := by
  subst hp
  intro p e R s m args below meth c H locs cells slots mc ms hx hb hr hml hown hlk hin hA h1 h2 h3 h4 h5 h6 h7 h8 h9 hP hS la hl
  exact lv_aload hx hb hd (hl.at hv) (k p e R s m args below meth c H locs cells slots mc ms hx hb hr hml hown hlk hin hA h1 h2 h3 h4 h5 h6 h7 h8 h9 hP hS la hl)
theorem AW.istore_n (pc' : Nat) {k0 : Fin 4} {x : Int32} {ls' : List (Option Value)} (hd : decode cc pc = .ok (.istore_n k0, 1)) (hi : (k0 : Nat) < nL) (hok : z_ok ls (k0 : Nat) = true) (hp : pc + 1 = pc') (hls : ls.set (k0 : Nat) (some (.int x)) = ls') (k : AW l g own cc nL rt ini d bc bs pc' ls' st S M Q) : AW l g own cc nL rt ini d bc bs pc ls (.int x :: st) S M Q := by
  subst hp; subst hls
  intro p e R s m args below meth c H locs cells slots mc ms hx hb hr hml hown hlk hin hA h1 h2 h3 h4 h5 h6 h7 h8 h9 hP hS la hl
  exact lv_istore_n hx hb hd rfl hl.2 hi rfl (fun la' hl' => k p e R s m args below meth c H locs cells slots mc ms hx hb hr hml hown hlk hin hA h1 h2 h3 h4 h5 h6 h7 h8 h9 hP hS la' (z_has.set (v := .int x) hl.1 hok hl'))
theorem AW.istore (pc' : Nat) {i : Nat} {x : Int32} {ls' : List (Option Value)} (hd : decode cc pc = .ok (.istore i, 2)) (hi : i < nL) (hok : z_ok ls i = true) (hp : pc + 2 = pc') (hls : ls.set i (some (.int x)) = ls') (k : AW l g own cc nL rt ini d bc bs pc' ls' st S M Q) : AW l g own cc nL rt ini d bc bs pc ls (.int x :: st) S M Q := by
  subst hp; subst hls
  intro p e R s m args below meth c H locs cells slots mc ms hx hb hr hml hown hlk hin hA h1 h2 h3 h4 h5 h6 h7 h8 h9 hP hS la hl
  exact lv_istore hx hb hd hl.2 hi rfl (fun la' hl' => k p e R s m args below meth c H locs cells slots mc ms hx hb hr hml hown hlk hin hA h1 h2 h3 h4 h5 h6 h7 h8 h9 hP hS la' (z_has.set (v := .int x) hl.1 hok hl'))
theorem AW.astore_n (pc' : Nat) {k0 : Fin 4} {x : Nat} {ls' : List (Option Value)} (hd : decode cc pc = .ok (.astore_n k0, 1)) (hi : (k0 : Nat) < nL) (hok : z_ok ls (k0 : Nat) = true) (hp : pc + 1 = pc') (hls : ls.set (k0 : Nat) (some (.ref x)) = ls') (k : AW l g own cc nL rt ini d bc bs pc' ls' st S M Q) : AW l g own cc nL rt ini d bc bs pc ls (.ref x :: st) S M Q := by
  subst hp; subst hls
  intro p e R s m args below meth c H locs cells slots mc ms hx hb hr hml hown hlk hin hA h1 h2 h3 h4 h5 h6 h7 h8 h9 hP hS la hl
  exact lv_astore_n hx hb hd rfl hl.2 hi rfl (fun la' hl' => k p e R s m args below meth c H locs cells slots mc ms hx hb hr hml hown hlk hin hA h1 h2 h3 h4 h5 h6 h7 h8 h9 hP hS la' (z_has.set (v := .ref x) hl.1 hok hl'))
theorem AW.astore (pc' : Nat) {i : Nat} {x : Nat} {ls' : List (Option Value)} (hd : decode cc pc = .ok (.astore i, 2)) (hi : i < nL) (hok : z_ok ls i = true) (hp : pc + 2 = pc') (hls : ls.set i (some (.ref x)) = ls') (k : AW l g own cc nL rt ini d bc bs pc' ls' st S M Q) : AW l g own cc nL rt ini d bc bs pc ls (.ref x :: st) S M Q := by
  subst hp; subst hls
  intro p e R s m args below meth c H locs cells slots mc ms hx hb hr hml hown hlk hin hA h1 h2 h3 h4 h5 h6 h7 h8 h9 hP hS la hl
  exact lv_astore hx hb hd hl.2 hi rfl (fun la' hl' => k p e R s m args below meth c H locs cells slots mc ms hx hb hr hml hown hlk hin hA h1 h2 h3 h4 h5 h6 h7 h8 h9 hP hS la' (z_has.set (v := .ref x) hl.1 hok hl'))
theorem z_lp_get {ls : List (Option Value)} {i : Nat} {v : Value} (h : ls[i]? = some (some v)) : ∃ k : Nat, (z_lp g ls)[k]? = some (i, zc g v) := List.getElem?_of_mem (z_lp_mem h)
theorem AW.iinc (pc' : Nat) {i : Nat} {n : Int} {x : Int32} (v : Int32) {ls' : List (Option Value)} (hd : decode cc pc = .ok (.iinc i n, 3)) (hx0 : ls[i]? = some (some (.int x))) (hv : x + Int32.ofInt n = v) (hi : i < nL) (hok : z_ok ls i = true) (hp : pc + 3 = pc') (hls : ls.set i (some (.int v)) = ls') (k : AW l g own cc nL rt ini d bc bs pc' ls' st S M Q) : AW l g own cc nL rt ini d bc bs pc ls st S M Q := by
  subst hp; subst hls
  intro p e R s m args below meth c H locs cells slots mc ms hx hb hr hml hown hlk hin hA h1 h2 h3 h4 h5 h6 h7 h8 h9 hP hS la hl
  obtain ⟨k0, hk0⟩ := z_lp_get (g := g) hx0
  exact lv_iinc hx hb hd hl.2 hk0 hv hi rfl (fun la' hl' => k p e R s m args below meth c H locs cells slots mc ms hx hb hr hml hown hlk hin hA h1 h2 h3 h4 h5 h6 h7 h8 h9 hP hS la' (z_has.set (v := .int v) hl.1 hok hl'))
theorem AW.iadd (pc' : Nat) {x y : Int32} (hd : decode cc pc = .ok (.iadd, 1))  (hp : pc + 1 = pc') (k : AW l g own cc nL rt ini d bc bs pc' ls (.int (x + y) :: st) S M Q) : AW l g own cc nL rt ini d bc bs pc ls (.int y :: .int x :: st) S M Q := by
  subst hp
  intro p e R s m args below meth c H locs cells slots mc ms hx hb hr hml hown hlk hin hA h1 h2 h3 h4 h5 h6 h7 h8 h9 hP hS la hl
  exact lv_iadd hx hb hd (k p e R s m args below meth c H locs cells slots mc ms hx hb hr hml hown hlk hin hA h1 h2 h3 h4 h5 h6 h7 h8 h9 hP hS la hl)
theorem AW.isub (pc' : Nat) {x y : Int32} (hd : decode cc pc = .ok (.isub, 1))  (hp : pc + 1 = pc') (k : AW l g own cc nL rt ini d bc bs pc' ls (.int (x - y) :: st) S M Q) : AW l g own cc nL rt ini d bc bs pc ls (.int y :: .int x :: st) S M Q := by
  subst hp
  intro p e R s m args below meth c H locs cells slots mc ms hx hb hr hml hown hlk hin hA h1 h2 h3 h4 h5 h6 h7 h8 h9 hP hS la hl
  exact lv_isub hx hb hd (k p e R s m args below meth c H locs cells slots mc ms hx hb hr hml hown hlk hin hA h1 h2 h3 h4 h5 h6 h7 h8 h9 hP hS la hl)
theorem AW.imul (pc' : Nat) {x y : Int32} (hd : decode cc pc = .ok (.imul, 1))  (hp : pc + 1 = pc') (k : AW l g own cc nL rt ini d bc bs pc' ls (.int (x * y) :: st) S M Q) : AW l g own cc nL rt ini d bc bs pc ls (.int y :: .int x :: st) S M Q := by
  subst hp
  intro p e R s m args below meth c H locs cells slots mc ms hx hb hr hml hown hlk hin hA h1 h2 h3 h4 h5 h6 h7 h8 h9 hP hS la hl
  exact lv_imul hx hb hd (k p e R s m args below meth c H locs cells slots mc ms hx hb hr hml hown hlk hin hA h1 h2 h3 h4 h5 h6 h7 h8 h9 hP hS la hl)
theorem AW.iand (pc' : Nat) {x y : Int32} (hd : decode cc pc = .ok (.iand, 1))  (hp : pc + 1 = pc') (k : AW l g own cc nL rt ini d bc bs pc' ls (.int (x &&& y) :: st) S M Q) : AW l g own cc nL rt ini d bc bs pc ls (.int y :: .int x :: st) S M Q := by
  subst hp
  intro p e R s m args below meth c H locs cells slots mc ms hx hb hr hml hown hlk hin hA h1 h2 h3 h4 h5 h6 h7 h8 h9 hP hS la hl
  exact lv_iand hx hb hd (k p e R s m args below meth c H locs cells slots mc ms hx hb hr hml hown hlk hin hA h1 h2 h3 h4 h5 h6 h7 h8 h9 hP hS la hl)
theorem AW.ior (pc' : Nat) {x y : Int32} (hd : decode cc pc = .ok (.ior, 1))  (hp : pc + 1 = pc') (k : AW l g own cc nL rt ini d bc bs pc' ls (.int (x ||| y) :: st) S M Q) : AW l g own cc nL rt ini d bc bs pc ls (.int y :: .int x :: st) S M Q := by
  subst hp
  intro p e R s m args below meth c H locs cells slots mc ms hx hb hr hml hown hlk hin hA h1 h2 h3 h4 h5 h6 h7 h8 h9 hP hS la hl
  exact lv_ior hx hb hd (k p e R s m args below meth c H locs cells slots mc ms hx hb hr hml hown hlk hin hA h1 h2 h3 h4 h5 h6 h7 h8 h9 hP hS la hl)
theorem AW.ixor (pc' : Nat) {x y : Int32} (hd : decode cc pc = .ok (.ixor, 1))  (hp : pc + 1 = pc') (k : AW l g own cc nL rt ini d bc bs pc' ls (.int (x ^^^ y) :: st) S M Q) : AW l g own cc nL rt ini d bc bs pc ls (.int y :: .int x :: st) S M Q := by
  subst hp
  intro p e R s m args below meth c H locs cells slots mc ms hx hb hr hml hown hlk hin hA h1 h2 h3 h4 h5 h6 h7 h8 h9 hP hS la hl
  exact lv_ixor hx hb hd (k p e R s m args below meth c H locs cells slots mc ms hx hb hr hml hown hlk hin hA h1 h2 h3 h4 h5 h6 h7 h8 h9 hP hS la hl)
theorem AW.ishl (pc' : Nat) {x y : Int32} (hd : decode cc pc = .ok (.ishl, 1))  (hp : pc + 1 = pc') (k : AW l g own cc nL rt ini d bc bs pc' ls (.int (x <<< (y &&& 31)) :: st) S M Q) : AW l g own cc nL rt ini d bc bs pc ls (.int y :: .int x :: st) S M Q := by
  subst hp
  intro p e R s m args below meth c H locs cells slots mc ms hx hb hr hml hown hlk hin hA h1 h2 h3 h4 h5 h6 h7 h8 h9 hP hS la hl
  exact lv_ishl hx hb hd (k p e R s m args below meth c H locs cells slots mc ms hx hb hr hml hown hlk hin hA h1 h2 h3 h4 h5 h6 h7 h8 h9 hP hS la hl)
theorem AW.ishr (pc' : Nat) {x y : Int32} (hd : decode cc pc = .ok (.ishr, 1))  (hp : pc + 1 = pc') (k : AW l g own cc nL rt ini d bc bs pc' ls (.int (x >>> (y &&& 31)) :: st) S M Q) : AW l g own cc nL rt ini d bc bs pc ls (.int y :: .int x :: st) S M Q := by
  subst hp
  intro p e R s m args below meth c H locs cells slots mc ms hx hb hr hml hown hlk hin hA h1 h2 h3 h4 h5 h6 h7 h8 h9 hP hS la hl
  exact lv_ishr hx hb hd (k p e R s m args below meth c H locs cells slots mc ms hx hb hr hml hown hlk hin hA h1 h2 h3 h4 h5 h6 h7 h8 h9 hP hS la hl)
theorem AW.iushr (pc' : Nat) {x y : Int32} (hd : decode cc pc = .ok (.iushr, 1))  (hp : pc + 1 = pc') (k : AW l g own cc nL rt ini d bc bs pc' ls (.int (x.toUInt32 >>> (y.toUInt32 &&& Int32.toUInt32 31)).toInt32 :: st) S M Q) : AW l g own cc nL rt ini d bc bs pc ls (.int y :: .int x :: st) S M Q := by
  subst hp
  intro p e R s m args below meth c H locs cells slots mc ms hx hb hr hml hown hlk hin hA h1 h2 h3 h4 h5 h6 h7 h8 h9 hP hS la hl
  exact lv_iushr hx hb hd rfl (k p e R s m args below meth c H locs cells slots mc ms hx hb hr hml hown hlk hin hA h1 h2 h3 h4 h5 h6 h7 h8 h9 hP hS la hl)
theorem AW.idiv (pc' : Nat) {x y : Int32} (hd : decode cc pc = .ok (.idiv, 1)) (hne : ¬ y = 0) (hp : pc + 1 = pc') (k : AW l g own cc nL rt ini d bc bs pc' ls (.int (x / y) :: st) S M Q) : AW l g own cc nL rt ini d bc bs pc ls (.int y :: .int x :: st) S M Q := by
  subst hp
  intro p e R s m args below meth c H locs cells slots mc ms hx hb hr hml hown hlk hin hA h1 h2 h3 h4 h5 h6 h7 h8 h9 hP hS la hl
  exact lv_idiv hx hb hd hne (k p e R s m args below meth c H locs cells slots mc ms hx hb hr hml hown hlk hin hA h1 h2 h3 h4 h5 h6 h7 h8 h9 hP hS la hl)
theorem AW.irem (pc' : Nat) {x y : Int32} (hd : decode cc pc = .ok (.irem, 1)) (hne : ¬ y = 0) (hp : pc + 1 = pc') (k : AW l g own cc nL rt ini d bc bs pc' ls (.int (x - x / y * y) :: st) S M Q) : AW l g own cc nL rt ini d bc bs pc ls (.int y :: .int x :: st) S M Q := by
  subst hp
  intro p e R s m args below meth c H locs cells slots mc ms hx hb hr hml hown hlk hin hA h1 h2 h3 h4 h5 h6 h7 h8 h9 hP hS la hl
  exact lv_irem hx hb hd hne (k p e R s m args below meth c H locs cells slots mc ms hx hb hr hml hown hlk hin hA h1 h2 h3 h4 h5 h6 h7 h8 h9 hP hS la hl)
theorem AW.ladd (pc' : Nat) {x y : Int64} (hd : decode cc pc = .ok (.ladd, 1))  (hp : pc + 1 = pc') (k : AW l g own cc nL rt ini d bc bs pc' ls (.long (x + y) :: st) S M Q) : AW l g own cc nL rt ini d bc bs pc ls (.long y :: .long x :: st) S M Q := by
  subst hp
  intro p e R s m args below meth c H locs cells slots mc ms hx hb hr hml hown hlk hin hA h1 h2 h3 h4 h5 h6 h7 h8 h9 hP hS la hl
  exact lv_ladd hx hb hd (k p e R s m args below meth c H locs cells slots mc ms hx hb hr hml hown hlk hin hA h1 h2 h3 h4 h5 h6 h7 h8 h9 hP hS la hl)
theorem AW.land (pc' : Nat) {x y : Int64} (hd : decode cc pc = .ok (.land, 1))  (hp : pc + 1 = pc') (k : AW l g own cc nL rt ini d bc bs pc' ls (.long (x &&& y) :: st) S M Q) : AW l g own cc nL rt ini d bc bs pc ls (.long y :: .long x :: st) S M Q := by
  subst hp
  intro p e R s m args below meth c H locs cells slots mc ms hx hb hr hml hown hlk hin hA h1 h2 h3 h4 h5 h6 h7 h8 h9 hP hS la hl
  exact lv_land hx hb hd (k p e R s m args below meth c H locs cells slots mc ms hx hb hr hml hown hlk hin hA h1 h2 h3 h4 h5 h6 h7 h8 h9 hP hS la hl)
theorem AW.lor (pc' : Nat) {x y : Int64} (hd : decode cc pc = .ok (.lor, 1))  (hp : pc + 1 = pc') (k : AW l g own cc nL rt ini d bc bs pc' ls (.long (x ||| y) :: st) S M Q) : AW l g own cc nL rt ini d bc bs pc ls (.long y :: .long x :: st) S M Q := by
  subst hp
  intro p e R s m args below meth c H locs cells slots mc ms hx hb hr hml hown hlk hin hA h1 h2 h3 h4 h5 h6 h7 h8 h9 hP hS la hl
  exact lv_lor hx hb hd (k p e R s m args below meth c H locs cells slots mc ms hx hb hr hml hown hlk hin hA h1 h2 h3 h4 h5 h6 h7 h8 h9 hP hS la hl)
theorem AW.lshl (pc' : Nat) {x : Int64} {y : Int32} (hd : decode cc pc = .ok (.lshl, 1))  (hp : pc + 1 = pc') (k : AW l g own cc nL rt ini d bc bs pc' ls (.long (x <<< (y.toInt64 &&& 63)) :: st) S M Q) : AW l g own cc nL rt ini d bc bs pc ls (.int y :: .long x :: st) S M Q := by
  subst hp
  intro p e R s m args below meth c H locs cells slots mc ms hx hb hr hml hown hlk hin hA h1 h2 h3 h4 h5 h6 h7 h8 h9 hP hS la hl
  exact lv_lshl hx hb hd rfl (k p e R s m args below meth c H locs cells slots mc ms hx hb hr hml hown hlk hin hA h1 h2 h3 h4 h5 h6 h7 h8 h9 hP hS la hl)
theorem AW.lshr (pc' : Nat) {x : Int64} {y : Int32} (hd : decode cc pc = .ok (.lshr, 1))  (hp : pc + 1 = pc') (k : AW l g own cc nL rt ini d bc bs pc' ls (.long (x >>> (y.toInt64 &&& 63)) :: st) S M Q) : AW l g own cc nL rt ini d bc bs pc ls (.int y :: .long x :: st) S M Q := by
  subst hp
  intro p e R s m args below meth c H locs cells slots mc ms hx hb hr hml hown hlk hin hA h1 h2 h3 h4 h5 h6 h7 h8 h9 hP hS la hl
  exact lv_lshr hx hb hd rfl (k p e R s m args below meth c H locs cells slots mc ms hx hb hr hml hown hlk hin hA h1 h2 h3 h4 h5 h6 h7 h8 h9 hP hS la hl)
theorem AW.lushr (pc' : Nat) {x : Int64} {y : Int32} (hd : decode cc pc = .ok (.lushr, 1))  (hp : pc + 1 = pc') (k : AW l g own cc nL rt ini d bc bs pc' ls (.long ((x.toUInt64 >>> (y.toInt64.toUInt64 &&& Int64.toUInt64 63)).toInt64) :: st) S M Q) : AW l g own cc nL rt ini d bc bs pc ls (.int y :: .long x :: st) S M Q := by
  subst hp
  intro p e R s m args below meth c H locs cells slots mc ms hx hb hr hml hown hlk hin hA h1 h2 h3 h4 h5 h6 h7 h8 h9 hP hS la hl
  exact lv_lushr hx hb hd rfl (k p e R s m args below meth c H locs cells slots mc ms hx hb hr hml hown hlk hin hA h1 h2 h3 h4 h5 h6 h7 h8 h9 hP hS la hl)
theorem AW.i2l (pc' : Nat) {x : Int32} (hd : decode cc pc = .ok (.i2l, 1))  (hp : pc + 1 = pc') (k : AW l g own cc nL rt ini d bc bs pc' ls (.long x.toInt64 :: st) S M Q) : AW l g own cc nL rt ini d bc bs pc ls (.int x :: st) S M Q := by
  subst hp
  intro p e R s m args below meth c H locs cells slots mc ms hx hb hr hml hown hlk hin hA h1 h2 h3 h4 h5 h6 h7 h8 h9 hP hS la hl
  exact lv_i2l hx hb hd rfl (k p e R s m args below meth c H locs cells slots mc ms hx hb hr hml hown hlk hin hA h1 h2 h3 h4 h5 h6 h7 h8 h9 hP hS la hl)
theorem AW.l2i (pc' : Nat) {x : Int64} (hd : decode cc pc = .ok (.l2i, 1))  (hp : pc + 1 = pc') (k : AW l g own cc nL rt ini d bc bs pc' ls (.int x.toInt32 :: st) S M Q) : AW l g own cc nL rt ini d bc bs pc ls (.long x :: st) S M Q := by
  subst hp
  intro p e R s m args below meth c H locs cells slots mc ms hx hb hr hml hown hlk hin hA h1 h2 h3 h4 h5 h6 h7 h8 h9 hP hS la hl
  exact lv_l2i hx hb hd rfl (k p e R s m args below meth c H locs cells slots mc ms hx hb hr hml hown hlk hin hA h1 h2 h3 h4 h5 h6 h7 h8 h9 hP hS la hl)
theorem AW.i2b (pc' : Nat) {x : Int32} (hd : decode cc pc = .ok (.i2b, 1))  (hp : pc + 1 = pc') (k : AW l g own cc nL rt ini d bc bs pc' ls (.int x.toInt8.toInt32 :: st) S M Q) : AW l g own cc nL rt ini d bc bs pc ls (.int x :: st) S M Q := by
  subst hp
  intro p e R s m args below meth c H locs cells slots mc ms hx hb hr hml hown hlk hin hA h1 h2 h3 h4 h5 h6 h7 h8 h9 hP hS la hl
  exact lv_i2b hx hb hd rfl (k p e R s m args below meth c H locs cells slots mc ms hx hb hr hml hown hlk hin hA h1 h2 h3 h4 h5 h6 h7 h8 h9 hP hS la hl)
theorem AW.lcmp (pc' : Nat) {x y : Int64} (hd : decode cc pc = .ok (.lcmp, 1))  (hp : pc + 1 = pc') (k : AW l g own cc nL rt ini d bc bs pc' ls (.int (lg_cmp x y) :: st) S M Q) : AW l g own cc nL rt ini d bc bs pc ls (.long y :: .long x :: st) S M Q := by
  subst hp
  intro p e R s m args below meth c H locs cells slots mc ms hx hb hr hml hown hlk hin hA h1 h2 h3 h4 h5 h6 h7 h8 h9 hP hS la hl
  exact W.lcmp hx hb hd (k p e R s m args below meth c H locs cells slots mc ms hx hb hr hml hown hlk hin hA h1 h2 h3 h4 h5 h6 h7 h8 h9 hP hS la hl)
theorem AW.dup (pc' : Nat) {v : Value} (hd : decode cc pc = .ok (.dup, 1)) (hc : v.category = 1) (hp : pc + 1 = pc') (k : AW l g own cc nL rt ini d bc bs pc' ls (v :: v :: st) S M Q) : AW l g own cc nL rt ini d bc bs pc ls (v :: st) S M Q := by
  subst hp
  intro p e R s m args below meth c H locs cells slots mc ms hx hb hr hml hown hlk hin hA h1 h2 h3 h4 h5 h6 h7 h8 h9 hP hS la hl
  exact lv_dup hx hb hd (by rw [zc_cat]; exact hc) (k p e R s m args below meth c H locs cells slots mc ms hx hb hr hml hown hlk hin hA h1 h2 h3 h4 h5 h6 h7 h8 h9 hP hS la hl)
theorem AW.dup2 (pc' : Nat) {v w : Value} (hd : decode cc pc = .ok (.dup2, 1)) (hc : v.category = 1) (hc2 : w.category = 1) (hp : pc + 1 = pc') (k : AW l g own cc nL rt ini d bc bs pc' ls (v :: w :: v :: w :: st) S M Q) : AW l g own cc nL rt ini d bc bs pc ls (v :: w :: st) S M Q := by
  subst hp
  intro p e R s m args below meth c H locs cells slots mc ms hx hb hr hml hown hlk hin hA h1 h2 h3 h4 h5 h6 h7 h8 h9 hP hS la hl
  exact lv_dup2_11 hx hb hd (by rw [zc_cat]; exact hc) (by rw [zc_cat]; exact hc2) (k p e R s m args below meth c H locs cells slots mc ms hx hb hr hml hown hlk hin hA h1 h2 h3 h4 h5 h6 h7 h8 h9 hP hS la hl)
theorem AW.if_eq (pc' tgt : Nat) {x : Int32} {off : Int} (hd : decode cc pc = .ok (.ifCond .eq off, 3)) (ht : (pc : Int) + off = (tgt : Int)) (hp : pc + 3 = pc') (kt : x = 0 → AW l g own cc nL rt ini d bc bs tgt ls st S M Q) (kf : ¬ x = 0 → AW l g own cc nL rt ini d bc bs pc' ls st S M Q) : AW l g own cc nL rt ini d bc bs pc ls (.int x :: st) S M Q := by
  subst hp
  intro p e R s m args below meth c H locs cells slots mc ms hx hb hr hml hown hlk hin hA h1 h2 h3 h4 h5 h6 h7 h8 h9 hP hS la hl
  exact lv_if_eq hx hb hd ht (fun q => kt q p e R s m args below meth c H locs cells slots mc ms hx hb hr hml hown hlk hin hA h1 h2 h3 h4 h5 h6 h7 h8 h9 hP hS la hl) (fun q => kf q p e R s m args below meth c H locs cells slots mc ms hx hb hr hml hown hlk hin hA h1 h2 h3 h4 h5 h6 h7 h8 h9 hP hS la hl)
theorem AW.icmp_eq (pc' tgt : Nat) {x y : Int32} {off : Int} (hd : decode cc pc = .ok (.if_icmp .eq off, 3)) (ht : (pc : Int) + off = (tgt : Int)) (hp : pc + 3 = pc') (kt : x = y → AW l g own cc nL rt ini d bc bs tgt ls st S M Q) (kf : ¬ x = y → AW l g own cc nL rt ini d bc bs pc' ls st S M Q) : AW l g own cc nL rt ini d bc bs pc ls (.int y :: .int x :: st) S M Q := by
  subst hp
  intro p e R s m args below meth c H locs cells slots mc ms hx hb hr hml hown hlk hin hA h1 h2 h3 h4 h5 h6 h7 h8 h9 hP hS la hl
  exact lv_icmp_eq hx hb hd ht (fun q => kt q p e R s m args below meth c H locs cells slots mc ms hx hb hr hml hown hlk hin hA h1 h2 h3 h4 h5 h6 h7 h8 h9 hP hS la hl) (fun q => kf q p e R s m args below meth c H locs cells slots mc ms hx hb hr hml hown hlk hin hA h1 h2 h3 h4 h5 h6 h7 h8 h9 hP hS la hl)
theorem AW.if_ne (pc' tgt : Nat) {x : Int32} {off : Int} (hd : decode cc pc = .ok (.ifCond .ne off, 3)) (ht : (pc : Int) + off = (tgt : Int)) (hp : pc + 3 = pc') (kt : ¬ x = 0 → AW l g own cc nL rt ini d bc bs tgt ls st S M Q) (kf : x = 0 → AW l g own cc nL rt ini d bc bs pc' ls st S M Q) : AW l g own cc nL rt ini d bc bs pc ls (.int x :: st) S M Q := by
  subst hp
  intro p e R s m args below meth c H locs cells slots mc ms hx hb hr hml hown hlk hin hA h1 h2 h3 h4 h5 h6 h7 h8 h9 hP hS la hl
  exact lv_if_ne hx hb hd ht (fun q => kt q p e R s m args below meth c H locs cells slots mc ms hx hb hr hml hown hlk hin hA h1 h2 h3 h4 h5 h6 h7 h8 h9 hP hS la hl) (fun q => kf q p e R s m args below meth c H locs cells slots mc ms hx hb hr hml hown hlk hin hA h1 h2 h3 h4 h5 h6 h7 h8 h9 hP hS la hl)
theorem AW.icmp_ne (pc' tgt : Nat) {x y : Int32} {off : Int} (hd : decode cc pc = .ok (.if_icmp .ne off, 3)) (ht : (pc : Int) + off = (tgt : Int)) (hp : pc + 3 = pc') (kt : ¬ x = y → AW l g own cc nL rt ini d bc bs tgt ls st S M Q) (kf : x = y → AW l g own cc nL rt ini d bc bs pc' ls st S M Q) : AW l g own cc nL rt ini d bc bs pc ls (.int y :: .int x :: st) S M Q := by
  subst hp
  intro p e R s m args below meth c H locs cells slots mc ms hx hb hr hml hown hlk hin hA h1 h2 h3 h4 h5 h6 h7 h8 h9 hP hS la hl
  exact lv_icmp_ne hx hb hd ht (fun q => kt q p e R s m args below meth c H locs cells slots mc ms hx hb hr hml hown hlk hin hA h1 h2 h3 h4 h5 h6 h7 h8 h9 hP hS la hl) (fun q => kf q p e R s m args below meth c H locs cells slots mc ms hx hb hr hml hown hlk hin hA h1 h2 h3 h4 h5 h6 h7 h8 h9 hP hS la hl)
theorem AW.if_lt (pc' tgt : Nat) {x : Int32} {off : Int} (hd : decode cc pc = .ok (.ifCond .lt off, 3)) (ht : (pc : Int) + off = (tgt : Int)) (hp : pc + 3 = pc') (kt : x < 0 → AW l g own cc nL rt ini d bc bs tgt ls st S M Q) (kf : ¬ x < 0 → AW l g own cc nL rt ini d bc bs pc' ls st S M Q) : AW l g own cc nL rt ini d bc bs pc ls (.int x :: st) S M Q := by
  subst hp
  intro p e R s m args below meth c H locs cells slots mc ms hx hb hr hml hown hlk hin hA h1 h2 h3 h4 h5 h6 h7 h8 h9 hP hS la hl
  exact lv_if_lt hx hb hd ht (fun q => kt q p e R s m args below meth c H locs cells slots mc ms hx hb hr hml hown hlk hin hA h1 h2 h3 h4 h5 h6 h7 h8 h9 hP hS la hl) (fun q => kf q p e R s m args below meth c H locs cells slots mc ms hx hb hr hml hown hlk hin hA h1 h2 h3 h4 h5 h6 h7 h8 h9 hP hS la hl)
theorem AW.icmp_lt (pc' tgt : Nat) {x y : Int32} {off : Int} (hd : decode cc pc = .ok (.if_icmp .lt off, 3)) (ht : (pc : Int) + off = (tgt : Int)) (hp : pc + 3 = pc') (kt : x < y → AW l g own cc nL rt ini d bc bs tgt ls st S M Q) (kf : ¬ x < y → AW l g own cc nL rt ini d bc bs pc' ls st S M Q) : AW l g own cc nL rt ini d bc bs pc ls (.int y :: .int x :: st) S M Q := by
  subst hp
  intro p e R s m args below meth c H locs cells slots mc ms hx hb hr hml hown hlk hin hA h1 h2 h3 h4 h5 h6 h7 h8 h9 hP hS la hl
  exact lv_icmp_lt hx hb hd ht (fun q => kt q p e R s m args below meth c H locs cells slots mc ms hx hb hr hml hown hlk hin hA h1 h2 h3 h4 h5 h6 h7 h8 h9 hP hS la hl) (fun q => kf q p e R s m args below meth c H locs cells slots mc ms hx hb hr hml hown hlk hin hA h1 h2 h3 h4 h5 h6 h7 h8 h9 hP hS la hl)
theorem AW.if_ge (pc' tgt : Nat) {x : Int32} {off : Int} (hd : decode cc pc = .ok (.ifCond .ge off, 3)) (ht : (pc : Int) + off = (tgt : Int)) (hp : pc + 3 = pc') (kt : 0 ≤ x → AW l g own cc nL rt ini d bc bs tgt ls st S M Q) (kf : ¬ 0 ≤ x → AW l g own cc nL rt ini d bc bs pc' ls st S M Q) : AW l g own cc nL rt ini d bc bs pc ls (.int x :: st) S M Q := by
  subst hp
  intro p e R s m args below meth c H locs cells slots mc ms hx hb hr hml hown hlk hin hA h1 h2 h3 h4 h5 h6 h7 h8 h9 hP hS la hl
  exact lv_if_ge hx hb hd ht (fun q => kt q p e R s m args below meth c H locs cells slots mc ms hx hb hr hml hown hlk hin hA h1 h2 h3 h4 h5 h6 h7 h8 h9 hP hS la hl) (fun q => kf q p e R s m args below meth c H locs cells slots mc ms hx hb hr hml hown hlk hin hA h1 h2 h3 h4 h5 h6 h7 h8 h9 hP hS la hl)
theorem AW.icmp_ge (pc' tgt : Nat) {x y : Int32} {off : Int} (hd : decode cc pc = .ok (.if_icmp .ge off, 3)) (ht : (pc : Int) + off = (tgt : Int)) (hp : pc + 3 = pc') (kt : y ≤ x → AW l g own cc nL rt ini d bc bs tgt ls st S M Q) (kf : ¬ y ≤ x → AW l g own cc nL rt ini d bc bs pc' ls st S M Q) : AW l g own cc nL rt ini d bc bs pc ls (.int y :: .int x :: st) S M Q := by
  subst hp
  intro p e R s m args below meth c H locs cells slots mc ms hx hb hr hml hown hlk hin hA h1 h2 h3 h4 h5 h6 h7 h8 h9 hP hS la hl
  exact lv_icmp_ge hx hb hd ht (fun q => kt q p e R s m args below meth c H locs cells slots mc ms hx hb hr hml hown hlk hin hA h1 h2 h3 h4 h5 h6 h7 h8 h9 hP hS la hl) (fun q => kf q p e R s m args below meth c H locs cells slots mc ms hx hb hr hml hown hlk hin hA h1 h2 h3 h4 h5 h6 h7 h8 h9 hP hS la hl)
theorem AW.if_gt (pc' tgt : Nat) {x : Int32} {off : Int} (hd : decode cc pc = .ok (.ifCond .gt off, 3)) (ht : (pc : Int) + off = (tgt : Int)) (hp : pc + 3 = pc') (kt : 0 < x → AW l g own cc nL rt ini d bc bs tgt ls st S M Q) (kf : ¬ 0 < x → AW l g own cc nL rt ini d bc bs pc' ls st S M Q) : AW l g own cc nL rt ini d bc bs pc ls (.int x :: st) S M Q := by
  subst hp
  intro p e R s m args below meth c H locs cells slots mc ms hx hb hr hml hown hlk hin hA h1 h2 h3 h4 h5 h6 h7 h8 h9 hP hS la hl
  exact lv_if_gt hx hb hd ht (fun q => kt q p e R s m args below meth c H locs cells slots mc ms hx hb hr hml hown hlk hin hA h1 h2 h3 h4 h5 h6 h7 h8 h9 hP hS la hl) (fun q => kf q p e R s m args below meth c H locs cells slots mc ms hx hb hr hml hown hlk hin hA h1 h2 h3 h4 h5 h6 h7 h8 h9 hP hS la hl)
theorem AW.icmp_gt (pc' tgt : Nat) {x y : Int32} {off : Int} (hd : decode cc pc = .ok (.if_icmp .gt off, 3)) (ht : (pc : Int) + off = (tgt : Int)) (hp : pc + 3 = pc') (kt : y < x → AW l g own cc nL rt ini d bc bs tgt ls st S M Q) (kf : ¬ y < x → AW l g own cc nL rt ini d bc bs pc' ls st S M Q) : AW l g own cc nL rt ini d bc bs pc ls (.int y :: .int x :: st) S M Q := by
  subst hp
  intro p e R s m args below meth c H locs cells slots mc ms hx hb hr hml hown hlk hin hA h1 h2 h3 h4 h5 h6 h7 h8 h9 hP hS la hl
  exact lv_icmp_gt hx hb hd ht (fun q => kt q p e R s m args below meth c H locs cells slots mc ms hx hb hr hml hown hlk hin hA h1 h2 h3 h4 h5 h6 h7 h8 h9 hP hS la hl) (fun q => kf q p e R s m args below meth c H locs cells slots mc ms hx hb hr hml hown hlk hin hA h1 h2 h3 h4 h5 h6 h7 h8 h9 hP hS la hl)
theorem AW.if_le (pc' tgt : Nat) {x : Int32} {off : Int} (hd : decode cc pc = .ok (.ifCond .le off, 3)) (ht : (pc : Int) + off = (tgt : Int)) (hp : pc + 3 = pc') (kt : x ≤ 0 → AW l g own cc nL rt ini d bc bs tgt ls st S M Q) (kf : ¬ x ≤ 0 → AW l g own cc nL rt ini d bc bs pc' ls st S M Q) : AW l g own cc nL rt ini d bc bs pc ls (.int x :: st) S M Q := by
  subst hp
  intro p e R s m args below meth c H locs cells slots mc ms hx hb hr hml hown hlk hin hA h1 h2 h3 h4 h5 h6 h7 h8 h9 hP hS la hl
  exact lv_if_le hx hb hd ht (fun q => kt q p e R s m args below meth c H locs cells slots mc ms hx hb hr hml hown hlk hin hA h1 h2 h3 h4 h5 h6 h7 h8 h9 hP hS la hl) (fun q => kf q p e R s m args below meth c H locs cells slots mc ms hx hb hr hml hown hlk hin hA h1 h2 h3 h4 h5 h6 h7 h8 h9 hP hS la hl)
theorem AW.icmp_le (pc' tgt : Nat) {x y : Int32} {off : Int} (hd : decode cc pc = .ok (.if_icmp .le off, 3)) (ht : (pc : Int) + off = (tgt : Int)) (hp : pc + 3 = pc') (kt : x ≤ y → AW l g own cc nL rt ini d bc bs tgt ls st S M Q) (kf : ¬ x ≤ y → AW l g own cc nL rt ini d bc bs pc' ls st S M Q) : AW l g own cc nL rt ini d bc bs pc ls (.int y :: .int x :: st) S M Q := by
  subst hp
  intro p e R s m args below meth c H locs cells slots mc ms hx hb hr hml hown hlk hin hA h1 h2 h3 h4 h5 h6 h7 h8 h9 hP hS la hl
  exact lv_icmp_le hx hb hd ht (fun q => kt q p e R s m args below meth c H locs cells slots mc ms hx hb hr hml hown hlk hin hA h1 h2 h3 h4 h5 h6 h7 h8 h9 hP hS la hl) (fun q => kf q p e R s m args below meth c H locs cells slots mc ms hx hb hr hml hown hlk hin hA h1 h2 h3 h4 h5 h6 h7 h8 h9 hP hS la hl)
theorem AW.goto (tgt : Nat) {off : Int} (hd : decode cc pc = .ok (.goto off, 3)) (ht : (pc : Int) + off = (tgt : Int)) (k : AW l g own cc nL rt ini d bc bs tgt ls st S M Q) : AW l g own cc nL rt ini d bc bs pc ls st S M Q := by
  intro p e R s m args below meth c H locs cells slots mc ms hx hb hr hml hown hlk hin hA h1 h2 h3 h4 h5 h6 h7 h8 h9 hP hS la hl
  exact lv_goto hx hb hd ht (k p e R s m args below meth c H locs cells slots mc ms hx hb hr hml hown hlk hin hA h1 h2 h3 h4 h5 h6 h7 h8 h9 hP hS la hl)
theorem AW.tabIn (tgt : Nat) {dflt lo hi : Int} {offs : Array Int} {len : Nat} {x : Int32} {off : Int} (hd : decode cc pc = .ok (.tableswitch dflt lo hi offs, len)) (q1 : ¬ x.toInt < lo) (q2 : ¬ hi < x.toInt) (ho : offs[(x.toInt - lo).toNat]? = some off) (ht : (pc : Int) + off = (tgt : Int)) (k : AW l g own cc nL rt ini d bc bs tgt ls st S M Q) : AW l g own cc nL rt ini d bc bs pc ls (.int x :: st) S M Q := by
  intro p e R s m args below meth c H locs cells slots mc ms hx hb hr hml hown hlk hin hA h1 h2 h3 h4 h5 h6 h7 h8 h9 hP hS la hl
  exact lv_tableIn hx hb hd q1 q2 ho ht (k p e R s m args below meth c H locs cells slots mc ms hx hb hr hml hown hlk hin hA h1 h2 h3 h4 h5 h6 h7 h8 h9 hP hS la hl)
theorem AW.tabOut (tgt : Nat) {dflt lo hi : Int} {offs : Array Int} {len : Nat} {x : Int32} (hd : decode cc pc = .ok (.tableswitch dflt lo hi offs, len)) (q1 : x.toInt < lo ∨ hi < x.toInt) (ht : (pc : Int) + dflt = (tgt : Int)) (k : AW l g own cc nL rt ini d bc bs tgt ls st S M Q) : AW l g own cc nL rt ini d bc bs pc ls (.int x :: st) S M Q := by
  intro p e R s m args below meth c H locs cells slots mc ms hx hb hr hml hown hlk hin hA h1 h2 h3 h4 h5 h6 h7 h8 h9 hP hS la hl
  exact lv_tableOut hx hb hd q1 ht (k p e R s m args below meth c H locs cells slots mc ms hx hb hr hml hown hlk hin hA h1 h2 h3 h4 h5 h6 h7 h8 h9 hP hS la hl)
theorem AW.topi {x : Int32} (y : Int32) (h : x = y) (k : AW l g own cc nL rt ini d bc bs pc ls (.int y :: st) S M Q) : AW l g own cc nL rt ini d bc bs pc ls (.int x :: st) S M Q := h ▸ k
theorem AW.topn {x : Int32} (k : ∀ y : Int32, y = x → AW l g own cc nL rt ini d bc bs pc ls (.int y :: st) S M Q) : AW l g own cc nL rt ini d bc bs pc ls (.int x :: st) S M Q := k x rfl
end AWR
end
section
/-- cell k is of kind t -/
def z_is (S : zS) (k t : Nat) : Prop := Nat.blt k S.1 = true ∧ (S.2.1 k).1 = t
/-- cell k is a row of kind t with n items -/
def z_ar (S : zS) (k t n : Nat) : Prop := Nat.blt k S.1 = true ∧ S.2.1 k = (t, n)
theorem z_is.lt {S : zS} {k t : Nat} (h : z_is S k t) : k < S.1 := Nat.blt_eq.mp h.1
theorem z_ar.lt {S : zS} {k t n : Nat} (h : z_ar S k t n) : k < S.1 := Nat.blt_eq.mp h.1
/-- entry ix of the class own is the field j of the class ci -/
def z_flB (own : String) (ix ci j : Nat) : Bool := match vwCl[ci]? with
  | some q => Nat.blt j q.2.2 && decide (Cond.fieldLink own ix (q.2.1 j).1 (q.2.1 j).2.1 (q.2.1 j).2.2.1 ∈ z_U)
  | none => false
/-- .. and may be written, of type ty (fin: in a constructor) -/
def z_fpB (own : String) (ix ci j : Nat) (fin : Bool) (ty : FieldType) : Bool := z_flB own ix ci j && (match vwCl[ci]? with
  | some q => (q.2.1 j).2.2.2 == fin && decide (parseFieldDescriptor (q.2.1 j).2.2.1 = some ty) && (!fin || (q.2.1 j).1 == own)
  | none => false)
theorem z_U_lays {L : List Cond} (h : ∀ w ∈ L, w ∈ lw_tbl) (hg : L.all z_good = true) : ∀ w ∈ L, w ∈ z_U := fun w hw => z_U_of (h w hw) (List.all_eq_true.mp hg w hw)
theorem z_cls : ∀ (ci : Nat) (q : vw_C), vwCl[ci]? = some q → (∀ w ∈ u_ws q.1 q.2.1 q.2.2, w ∈ z_U) ∧ (∃ ty0 : Nat → FieldType, ∀ k, k < q.2.2 → parseFieldDescriptor (q.2.1 k).2.2.1 = some (ty0 k)) ∧ (∀ a, a < q.2.2 → ∀ b, b < q.2.2 → a ≠ b → (q.2.1 a).2.1 ≠ (q.2.1 b).2.1) ∧ q.2.2 = z_n ci ∧ ci < 11 := by
  intro ci q h
  match ci, h with
  | 0, h => cases h; exact ⟨z_U_lays inX0 (by decide +kernel), ⟨_, tyX0_ok⟩, nmX0, rfl, by decide⟩
  | 1, h => cases h; exact ⟨z_U_lays inX1 (by decide +kernel), ⟨_, tyX1_ok⟩, nmX1, rfl, by decide⟩
  | 2, h => cases h; exact ⟨z_U_lays inX2 (by decide +kernel), ⟨_, tyX2_ok⟩, nmX2, rfl, by decide⟩
  | 3, h => cases h; exact ⟨z_U_lays inX3 (by decide +kernel), ⟨_, tyX3_ok⟩, nmX3, rfl, by decide⟩
  | 4, h => cases h; exact ⟨z_U_lays inX4 (by decide +kernel), ⟨_, tyX4_ok⟩, nmX4, rfl, by decide⟩
  | 5, h => cases h; exact ⟨z_U_lays inX5 (by decide +kernel), ⟨_, tyX5_ok⟩, nmX5, rfl, by decide⟩
  | 6, h => cases h; exact ⟨z_U_lays inX6 (by decide +kernel), ⟨_, tyX6_ok⟩, nmX6, rfl, by decide⟩
  | 7, h => cases h; exact ⟨z_U_lays inX7 (by decide +kernel), ⟨_, tyX7_ok⟩, nmX7, rfl, by decide⟩
  | 8, h => cases h; exact ⟨z_U_lays inX8 (by decide +kernel), ⟨_, tyX8_ok⟩, nmX8, rfl, by decide⟩
  | 9, h => cases h; exact ⟨z_U_lays inX9 (by decide +kernel), ⟨_, tyX9_ok⟩, nmX9, rfl, by decide⟩
  | 10, h => cases h; exact ⟨z_U_lays inX10 (by decide +kernel), ⟨_, tyX10_ok⟩, nmX10, rfl, by decide⟩
  | n + 11, h => simp [vwCl] at h
theorem z_fl_spec {own : String} {ix ci j : Nat} (h : z_flB own ix ci j = true) : ∃ q : vw_C, vwCl[ci]? = some q ∧ j < q.2.2 ∧ Cond.fieldLink own ix (q.2.1 j).1 (q.2.1 j).2.1 (q.2.1 j).2.2.1 ∈ z_U := by
  unfold z_flB at h
  split at h
  · rename_i q hq
    simp only [Bool.and_eq_true, decide_eq_true_eq] at h
    exact ⟨q, hq, Nat.blt_eq.mp h.1, h.2⟩
  · cases h
theorem z_fp_spec {own : String} {ix ci j : Nat} {fin : Bool} {ty : FieldType} (h : z_fpB own ix ci j fin ty = true) : ∃ q : vw_C, vwCl[ci]? = some q ∧ j < q.2.2 ∧ Cond.fieldLink own ix (q.2.1 j).1 (q.2.1 j).2.1 (q.2.1 j).2.2.1 ∈ z_U ∧ (q.2.1 j).2.2.2 = fin ∧ parseFieldDescriptor (q.2.1 j).2.2.1 = some ty ∧ (fin = true → (q.2.1 j).1 = own) := by
  unfold z_fpB at h
  obtain ⟨h1, h2⟩ := Bool.and_eq_true_iff.mp h
  obtain ⟨q, a, b, c⟩ := z_fl_spec h1
  rw [a] at h2
  simp only [Bool.and_eq_true, decide_eq_true_eq, Bool.or_eq_true, Bool.not_eq_true', beq_iff_eq] at h2
  refine ⟨q, a, b, c, h2.1.1, h2.1.2, fun hf => ?_⟩
  rcases h2.2 with z | z
  · rw [hf] at z; cases z
  · exact z
def z_fs (g : zG) (S : zS) (M : zM) (k : Nat) : List Value := (List.range (z_n (S.2.1 k).1)).map (fun j => if z_rf (S.2.1 k).1 j then va_rf ((S.2.2 k j).map (z_ad g)) else .int (M k j))
theorem z_at_obj {g : zG} {S : zS} {M : zM} {k t : Nat} (h : z_is S k t) (ht : t < 11) : (z_w g S M)[k]? = some (gB g + k, .inr (t, z_fs g S M k)) := by
  rw [z_w_at g S M h.lt]
  unfold z_cell z_fs
  rw [if_pos (by rw [h.2]; exact ht), h.2]
theorem z_fs_at {g : zG} {S : zS} {M : zM} {k t j : Nat} (h : z_is S k t) (hj : j < z_n t) : (z_fs g S M k)[j]? = some (if z_rf t j then va_rf ((S.2.2 k j).map (z_ad g)) else .int (M k j)) := by
  unfold z_fs
  rw [h.2]
  simp [hj]
theorem z_fs_len {g : zG} {S : zS} {M : zM} {k t : Nat} (h : z_is S k t) : (z_fs g S M k).length = z_n t := by
  unfold z_fs; rw [h.2]; simp
theorem z_at_arr {g : zG} {S : zS} {M : zM} {k t n : Nat} (h : z_ar S k t n) (h1 : ¬ t < 11) (h2 : t < 13) : (z_w g S M)[k]? = some (gB g + k, .inl (gY g t, n, .inl (M k))) := by
  rw [z_w_at g S M h.lt]
  unfold z_cell
  rw [h.2, if_neg h1, if_pos h2]
theorem z_at_rarr {g : zG} {S : zS} {M : zM} {k t n : Nat} (h : z_ar S k t n) (h2 : ¬ t < 13) : (z_w g S M)[k]? = some (gB g + k, .inl (gY g t, n, .inr (.inr (.inr (.inr (fun j => (S.2.2 k j).map (z_ad g))))))) := by
  rw [z_w_at g S M h.lt]
  unfold z_cell
  rw [h.2, if_neg (by show ¬ t < 11; omega), if_neg h2]
theorem z_ad_in {g : zG} {S : zS} {k : Nat} (h : k < S.1) (h9 : S.1 ≤ 1000000) : z_ad g k = gB g + k := if_pos (by omega)
theorem z_ad_out (g : zG) (k : Nat) : z_ad g (1000000 + k) = gE g k := by
  unfold z_ad
  rw [if_neg (Nat.not_lt.mpr (Nat.le_add_right _ _)), Nat.add_sub_cancel_left]
theorem va_S.tr {A : Nat → Prop} {H0 H H1 : Heap} {l0 l1 : List Loc} (h : va_S A H0 H l0) (h1 : va_S A H H1 l1) : va_S A H0 H1 l1 :=
  ⟨Nat.le_trans h.1 h1.1, fun q a b => (h1.2.1 q (Nat.lt_of_lt_of_le a h.1) b).trans (h.2.1 q a b), h1.2.2⟩
theorem va_S.self {A : Nat → Prop} {H0 H : Heap} {l0 : List Loc} (h : va_S A H0 H l0) : va_S A H H l0 := ⟨Nat.le_refl _, fun _ _ _ => rfl, h.2.2⟩
section AWH
variable {l : Launch} {g : zG} {own : String} {cc : ByteArray} {nL : Nat} {rt : Option FieldType} {ini : Bool} {d bc bs pc : Nat} {ls : List (Option Value)} {st : List Value} {S : zS} {M : zM} {Q : Option Value → zS → zM → Prop}
theorem AW.getI (pc' : Nat) {ix ci j k : Nat} (hd : decode cc pc = .ok (.getfield ix, 3)) (hf : z_flB own ix ci j = true) (hrf : z_rf ci j = false) (hc : z_is S k ci) (hp : pc + 3 = pc') (kk : AW l g own cc nL rt ini d bc bs pc' ls (.int (M k j) :: st) S M Q) : AW l g own cc nL rt ini d bc bs pc ls (.ref k :: st) S M Q := by
  subst hp
  intro p e R s m args below meth c H locs cells slots mc ms hx hb hr hml hown hlk hin hA h1 h2 h3 h4 h5 h6 h7 h8 h9 hP hS la hl
  obtain ⟨q, hq, hj, hw⟩ := z_fl_spec hf
  obtain ⟨c1, -, -, c4, c5⟩ := z_cls ci q hq
  show W p l e R s m args below meth c H locs cells slots _ (F0 m pc la (.ref (z_ad g k) :: st.map (zc g)))
  rw [z_ad_in hc.lt h9]
  refine va_get (D := gD g) (cl := vwCl) (tys := z_tys g) (ws := z_w g S M) (ci := ci) (v := .int (M k j)) hx hb (hA.word (args := args)) c1 hown hA.2.1 hP k (z_at_obj hc c5) hq j hj (hA.word _ hw) (fun _ h => h) ?_ hd (kk p e R s m args below meth c H locs cells slots mc ms hx hb hr hml hown hlk hin hA h1 h2 h3 h4 h5 h6 h7 h8 h9 hP hS la hl)
  rw [z_fs_at hc (by rw [← c4]; exact hj), hrf]; rfl
theorem AW.getR (pc' : Nat) {ix ci j k i : Nat} (hd : decode cc pc = .ok (.getfield ix, 3)) (hf : z_flB own ix ci j = true) (hrf : z_rf ci j = true) (hc : z_is S k ci) (hv : S.2.2 k j = some i) (hp : pc + 3 = pc') (kk : AW l g own cc nL rt ini d bc bs pc' ls (.ref i :: st) S M Q) : AW l g own cc nL rt ini d bc bs pc ls (.ref k :: st) S M Q := by
  subst hp
  intro p e R s m args below meth c H locs cells slots mc ms hx hb hr hml hown hlk hin hA h1 h2 h3 h4 h5 h6 h7 h8 h9 hP hS la hl
  obtain ⟨q, hq, hj, hw⟩ := z_fl_spec hf
  obtain ⟨c1, -, -, c4, c5⟩ := z_cls ci q hq
  show W p l e R s m args below meth c H locs cells slots _ (F0 m pc la (.ref (z_ad g k) :: st.map (zc g)))
  rw [z_ad_in hc.lt h9]
  refine va_get (D := gD g) (cl := vwCl) (tys := z_tys g) (ws := z_w g S M) (ci := ci) (v := .ref (z_ad g i)) hx hb (hA.word (args := args)) c1 hown hA.2.1 hP k (z_at_obj hc c5) hq j hj (hA.word _ hw) (fun _ h => h) ?_ hd (kk p e R s m args below meth c H locs cells slots mc ms hx hb hr hml hown hlk hin hA h1 h2 h3 h4 h5 h6 h7 h8 h9 hP hS la hl)
  rw [z_fs_at hc (by rw [← c4]; exact hj), hrf, hv]; rfl
/-- an int field (a boolean one: 0 or 1) is written -/
theorem AW.putI (pc' : Nat) {ix ci j k : Nat} {v : Int32} (ty : FieldType) (hd : decode cc pc = .ok (.putfield ix, 3)) (hf : z_fpB own ix ci j false ty = true) (hrf : z_rf ci j = false) (hc : z_is S k ci) (hn : narrow ty (.int v) = .int v) (hfi : fits ty (.int v) = true) (hp : pc + 3 = pc') (kk : AW l g own cc nL rt ini d bc bs pc' ls st S (z_st M k j v) Q) : AW l g own cc nL rt ini d bc bs pc ls (.int v :: .ref k :: st) S M Q := by
  subst hp
  intro p e R s m args below meth c H locs cells slots mc ms hx hb hr hml hown hlk hin hA h1 h2 h3 h4 h5 h6 h7 h8 h9 hP hS la hl
  obtain ⟨q, hq, hj, hw, q1, q2, -⟩ := z_fp_spec hf
  obtain ⟨c1, ⟨ty0, c2⟩, c3, c4, c5⟩ := z_cls ci q hq
  show W p l e R s m args below meth c H locs cells slots _ (F0 m pc la (.int v :: .ref (z_ad g k) :: st.map (zc g)))
  rw [z_ad_in hc.lt h9]
  refine va_put (D := gD g) (cl := vwCl) (tys := z_tys g) (ws := z_w g S M) (ci := ci) (v := .int v) (A := gA g) (H0 := H) hx hb (hA.word (args := args)) c1 ty0 c2 c3 hown hA.2.1 hP (z_w_D g S M) hS.self k (z_at_obj hc c5) hq j hj (hA.word _ hw) (fun _ h => h) q1 q2 hn hfi (by rw [z_fs_len hc, ← c4]; exact hj) hd (fun H1 locs1 hP1 _ hS1 => ?_)
  have he := z_set_obj (g := g) (S := S) (M := M) (k := k) (j := j) (fs := z_fs g S M k) v hc.lt (by rw [hc.2]; exact c5) (by rw [hc.2]; exact hrf) rfl
  rw [hc.2] at he
  rw [he] at hP1
  exact kk p e R s m args below meth c H1 locs1 cells slots mc ms hx hb hr hml hown hlk hin hA h1 h2 h3 h4 h5 h6 h7 (Nat.le_trans h8 hS1.1) h9 hP1 (hS.tr hS1) la hl
theorem AW.putR (pc' : Nat) {ix ci j k i : Nat} (ty : FieldType) (hd : decode cc pc = .ok (.putfield ix, 3)) (hf : z_fpB own ix ci j false ty = true) (hrf : z_rf ci j = true) (hc : z_is S k ci) (hn : ∀ a : Nat, narrow ty (.ref a) = .ref a ∧ fits ty (.ref a) = true) (hp : pc + 3 = pc') (kk : AW l g own cc nL rt ini d bc bs pc' ls st (z_sR S k j i) M Q) : AW l g own cc nL rt ini d bc bs pc ls (.ref i :: .ref k :: st) S M Q := by
  subst hp
  intro p e R s m args below meth c H locs cells slots mc ms hx hb hr hml hown hlk hin hA h1 h2 h3 h4 h5 h6 h7 h8 h9 hP hS la hl
  obtain ⟨q, hq, hj, hw, q1, q2, -⟩ := z_fp_spec hf
  obtain ⟨c1, ⟨ty0, c2⟩, c3, c4, c5⟩ := z_cls ci q hq
  show W p l e R s m args below meth c H locs cells slots _ (F0 m pc la (.ref (z_ad g i) :: .ref (z_ad g k) :: st.map (zc g)))
  rw [z_ad_in hc.lt h9]
  refine va_put (D := gD g) (cl := vwCl) (tys := z_tys g) (ws := z_w g S M) (ci := ci) (v := .ref (z_ad g i)) (A := gA g) (H0 := H) hx hb (hA.word (args := args)) c1 ty0 c2 c3 hown hA.2.1 hP (z_w_D g S M) hS.self k (z_at_obj hc c5) hq j hj (hA.word _ hw) (fun _ h => h) q1 q2 (hn _).1 (hn _).2 (by rw [z_fs_len hc, ← c4]; exact hj) hd (fun H1 locs1 hP1 _ hS1 => ?_)
  have he := z_set_ref (g := g) (S := S) (M := M) (k := k) (j := j) (i := i) (fs := z_fs g S M k) hc.lt (by rw [hc.2]; exact c5) (by rw [hc.2]; exact hrf) rfl
  rw [hc.2] at he
  rw [he] at hP1
  exact kk p e R s m args below meth c H1 locs1 cells slots mc ms hx hb hr hml hown hlk hin hA h1 h2 h3 h4 h5 h6 h7 (Nat.le_trans h8 hS1.1) h9 hP1 (hS.tr hS1) la hl
/-- a final field that holds a reference, in a constructor -/
theorem AW.putF (pc' : Nat) {ix ci j k i : Nat} (ty : FieldType) (hd : decode cc pc = .ok (.putfield ix, 3)) (hf : z_fpB own ix ci j true ty = true) (hrf : z_rf ci j = true) (hini : ini = true) (hc : z_is S k ci) (hn : ∀ a : Nat, narrow ty (.ref a) = .ref a ∧ fits ty (.ref a) = true) (hp : pc + 3 = pc') (kk : AW l g own cc nL rt ini d bc bs pc' ls st (z_sR S k j i) M Q) : AW l g own cc nL rt ini d bc bs pc ls (.ref i :: .ref k :: st) S M Q := by
  subst hp
  intro p e R s m args below meth c H locs cells slots mc ms hx hb hr hml hown hlk hin hA h1 h2 h3 h4 h5 h6 h7 h8 h9 hP hS la hl
  obtain ⟨q, hq, hj, hw, q1, q2, q3⟩ := z_fp_spec hf
  obtain ⟨c1, ⟨ty0, c2⟩, c3, c4, c5⟩ := z_cls ci q hq
  show W p l e R s m args below meth c H locs cells slots _ (F0 m pc la (.ref (z_ad g i) :: .ref (z_ad g k) :: st.map (zc g)))
  rw [z_ad_in hc.lt h9]
  refine va_putF (D := gD g) (cl := vwCl) (tys := z_tys g) (ws := z_w g S M) (ci := ci) (v := .ref (z_ad g i)) (A := gA g) (H0 := H) hx hb (hA.word (args := args)) c1 ty0 c2 c3 hown hA.2.1 hP (z_w_D g S M) hS.self k (z_at_obj hc c5) hq j hj (hA.word _ hw) (fun _ h => h) q1 (hin hini) (q3 rfl) q2 (hn _).1 (hn _).2 (by rw [z_fs_len hc, ← c4]; exact hj) hd (fun H1 locs1 hP1 _ hS1 => ?_)
  have he := z_set_ref (g := g) (S := S) (M := M) (k := k) (j := j) (i := i) (fs := z_fs g S M k) hc.lt (by rw [hc.2]; exact c5) (by rw [hc.2]; exact hrf) rfl
  rw [hc.2] at he
  rw [he] at hP1
  exact kk p e R s m args below meth c H1 locs1 cells slots mc ms hx hb hr hml hown hlk hin hA h1 h2 h3 h4 h5 h6 h7 (Nat.le_trans h8 hS1.1) h9 hP1 (hS.tr hS1) la hl
theorem z_in_nI {i : Int32} {a n : Nat} (hi : i = nI a) (ha : a < n) (hn : n < 2 ^ 31) : vp_in i n ∧ i.toNatClampNeg = a := by
  subst hi; exact ⟨vp_in_nI ha hn, nI_clamp (Nat.lt_trans ha hn)⟩
theorem AW.iald (pc' : Nat) {k n a : Nat} {i : Int32} (hd : decode cc pc = .ok (.iaload, 1)) (hc : z_ar S k 11 n) (hi : i = nI a) (ha : a < n) (hn : n < 2 ^ 31) (hp : pc + 1 = pc') (kk : AW l g own cc nL rt ini d bc bs pc' ls (.int (M k a) :: st) S M Q) : AW l g own cc nL rt ini d bc bs pc ls (.int i :: .ref k :: st) S M Q := by
  subst hp
  intro p e R s m args below meth c H locs cells slots mc ms hx hb hr hml hown hlk hin hA h1 h2 h3 h4 h5 h6 h7 h8 h9 hP hS la hl
  show W p l e R s m args below meth c H locs cells slots _ (F0 m pc la (.int i :: .ref (z_ad g k) :: st.map (zc g)))
  rw [z_ad_in hc.lt h9]
  obtain ⟨q1, q2⟩ := z_in_nI hi ha hn
  refine va_iald (D := gD g) (cl := vwCl) (tys := z_tys g) (ws := z_w g S M) hx hb hA.2.1 hP k 0 (z_at_arr hc (by decide) (by decide)) rfl q1 hd ?_
  rw [q2]
  exact kk p e R s m args below meth c H locs cells slots mc ms hx hb hr hml hown hlk hin hA h1 h2 h3 h4 h5 h6 h7 h8 h9 hP hS la hl
theorem AW.bald (pc' : Nat) {k n a : Nat} {i : Int32} (hd : decode cc pc = .ok (.baload, 1)) (hc : z_ar S k 12 n) (hi : i = nI a) (ha : a < n) (hn : n < 2 ^ 31) (hp : pc + 1 = pc') (kk : AW l g own cc nL rt ini d bc bs pc' ls (.int (M k a) :: st) S M Q) : AW l g own cc nL rt ini d bc bs pc ls (.int i :: .ref k :: st) S M Q := by
  subst hp
  intro p e R s m args below meth c H locs cells slots mc ms hx hb hr hml hown hlk hin hA h1 h2 h3 h4 h5 h6 h7 h8 h9 hP hS la hl
  show W p l e R s m args below meth c H locs cells slots _ (F0 m pc la (.int i :: .ref (z_ad g k) :: st.map (zc g)))
  rw [z_ad_in hc.lt h9]
  obtain ⟨q1, q2⟩ := z_in_nI hi ha hn
  refine va_zald (D := gD g) (cl := vwCl) (tys := z_tys g) (ws := z_w g S M) hx hb hA.2.1 hP k 1 (z_at_arr hc (by decide) (by decide)) rfl q1 hd ?_
  rw [q2]
  exact kk p e R s m args below meth c H locs cells slots mc ms hx hb hr hml hown hlk hin hA h1 h2 h3 h4 h5 h6 h7 h8 h9 hP hS la hl
theorem AW.iast (pc' : Nat) {k n a : Nat} {i x : Int32} (hd : decode cc pc = .ok (.iastore, 1)) (hc : z_ar S k 11 n) (hi : i = nI a) (ha : a < n) (hn : n < 2 ^ 31) (hp : pc + 1 = pc') (kk : AW l g own cc nL rt ini d bc bs pc' ls st S (z_st M k a x) Q) : AW l g own cc nL rt ini d bc bs pc ls (.int x :: .int i :: .ref k :: st) S M Q := by
  subst hp
  intro p e R s m args below meth c H locs cells slots mc ms hx hb hr hml hown hlk hin hA h1 h2 h3 h4 h5 h6 h7 h8 h9 hP hS la hl
  show W p l e R s m args below meth c H locs cells slots _ (F0 m pc la (.int x :: .int i :: .ref (z_ad g k) :: st.map (zc g)))
  rw [z_ad_in hc.lt h9]
  obtain ⟨q1, q2⟩ := z_in_nI hi ha hn
  refine va_iast (D := gD g) (cl := vwCl) (tys := z_tys g) (ws := z_w g S M) (A := gA g) (H0 := H) hx hb hA.2.1 hP (z_w_D g S M) hS.self k 0 (z_at_arr hc (by decide) (by decide)) rfl q1 hd (fun H1 locs1 hP1 _ hS1 => ?_)
  rw [q2] at hP1
  have he := z_set_arr (g := g) (S := S) (M := M) (k := k) (upd (M k) a x) hc.lt (by rw [hc.2]; show ¬ (11 : Nat) < 11; decide) (by rw [hc.2]; show (11 : Nat) < 13; decide)
  rw [hc.2] at he
  rw [he] at hP1
  exact kk p e R s m args below meth c H1 locs1 cells slots mc ms hx hb hr hml hown hlk hin hA h1 h2 h3 h4 h5 h6 h7 (Nat.le_trans h8 hS1.1) h9 hP1 (hS.tr hS1) la hl
theorem AW.bast (pc' : Nat) {k n a : Nat} {i x : Int32} (hd : decode cc pc = .ok (.bastore, 1)) (hc : z_ar S k 12 n) (hi : i = nI a) (ha : a < n) (hn : n < 2 ^ 31) (hv : vp_nar .boolean x = x) (hp : pc + 1 = pc') (kk : AW l g own cc nL rt ini d bc bs pc' ls st S (z_st M k a x) Q) : AW l g own cc nL rt ini d bc bs pc ls (.int x :: .int i :: .ref k :: st) S M Q := by
  subst hp
  intro p e R s m args below meth c H locs cells slots mc ms hx hb hr hml hown hlk hin hA h1 h2 h3 h4 h5 h6 h7 h8 h9 hP hS la hl
  show W p l e R s m args below meth c H locs cells slots _ (F0 m pc la (.int x :: .int i :: .ref (z_ad g k) :: st.map (zc g)))
  rw [z_ad_in hc.lt h9]
  obtain ⟨q1, q2⟩ := z_in_nI hi ha hn
  refine va_zast (D := gD g) (cl := vwCl) (tys := z_tys g) (ws := z_w g S M) (A := gA g) (H0 := H) hx hb hA.2.1 hP (z_w_D g S M) hS.self k 1 (z_at_arr hc (by decide) (by decide)) rfl q1 hd (fun H1 locs1 hP1 _ hS1 => ?_)
  rw [q2, hv] at hP1
  have he := z_set_arr (g := g) (S := S) (M := M) (k := k) (upd (M k) a x) hc.lt (by rw [hc.2]; show ¬ (12 : Nat) < 11; decide) (by rw [hc.2]; show (12 : Nat) < 13; decide)
  rw [hc.2] at he
  rw [he] at hP1
  exact kk p e R s m args below meth c H1 locs1 cells slots mc ms hx hb hr hml hown hlk hin hA h1 h2 h3 h4 h5 h6 h7 (Nat.le_trans h8 hS1.1) h9 hP1 (hS.tr hS1) la hl
/-- an outside array -/
theorem AW.eald (pc' : Nat) {k a : Nat} {i : Int32} (hd : decode cc pc = .ok (.iaload, 1)) (hk : k < 5) (hi : i = nI a) (ha : a < z_el g k) (hn : z_el g k < 2 ^ 31) (hp : pc + 1 = pc') (kk : AW l g own cc nL rt ini d bc bs pc' ls (.int (z_ev g k a) :: st) S M Q) : AW l g own cc nL rt ini d bc bs pc ls (.int i :: .ref (1000000 + k) :: st) S M Q := by
  subst hp
  intro p e R s m args below meth c H locs cells slots mc ms hx hb hr hml hown hlk hin hA h1 h2 h3 h4 h5 h6 h7 h8 h9 hP hS la hl
  have e1 : z_ad g (1000000 + k) = gE g k := z_ad_out g k
  show W p l e R s m args below meth c H locs cells slots _ (F0 m pc la (.int i :: .ref (z_ad g (1000000 + k)) :: st.map (zc g)))
  rw [e1]
  obtain ⟨q1, q2⟩ := z_in_nI hi ha hn
  exact va_ti hx hb (hA.2.2.2.2.1 k hk) hS q1 (v := .int (z_ev g k a)) (by rw [q2]) hd (kk p e R s m args below meth c H locs cells slots mc ms hx hb hr hml hown hlk hin hA h1 h2 h3 h4 h5 h6 h7 h8 h9 hP hS la hl)
theorem AW.elen (pc' : Nat) {k : Nat} (hd : decode cc pc = .ok (.arraylength, 1)) (hk : k < 5) (hp : pc + 1 = pc') (kk : AW l g own cc nL rt ini d bc bs pc' ls (.int (nI (z_el g k)) :: st) S M Q) : AW l g own cc nL rt ini d bc bs pc ls (.ref (1000000 + k) :: st) S M Q := by
  subst hp
  intro p e R s m args below meth c H locs cells slots mc ms hx hb hr hml hown hlk hin hA h1 h2 h3 h4 h5 h6 h7 h8 h9 hP hS la hl
  have e1 : z_ad g (1000000 + k) = gE g k := z_ad_out g k
  show W p l e R s m args below meth c H locs cells slots _ (F0 m pc la (.ref (z_ad g (1000000 + k)) :: st.map (zc g)))
  rw [e1]
  exact va_tlen hx hb (hA.2.2.2.2.1 k hk) hS rfl hd (kk p e R s m args below meth c H locs cells slots mc ms hx hb hr hml hown hlk hin hA h1 h2 h3 h4 h5 h6 h7 h8 h9 hP hS la hl)
theorem AW.gets (pc' : Nat) {ix k : Nat} (hd : decode cc pc = .ok (.getstatic ix, 3)) (hk : k < 4) (hw : Cond.fieldLink own ix "MachineBench" (z_sn k) "[I" ∈ z_U) (hp : pc + 3 = pc') (kk : AW l g own cc nL rt ini d bc bs pc' ls (.ref (1000000 + k) :: st) S M Q) : AW l g own cc nL rt ini d bc bs pc ls st S M Q := by
  subst hp
  intro p e R s m args below meth c H locs cells slots mc ms hx hb hr hml hown hlk hin hA h1 h2 h3 h4 h5 h6 h7 h8 h9 hP hS la hl
  have e1 : z_ad g (1000000 + k) = gE g k := z_ad_out g k
  refine va_gets hx hb (hA.2.2.2.1 k hk) hS hown (hA.word _ hw) (fun _ h => h) hd ?_
  have := kk p e R s m args below meth c H locs cells slots mc ms hx hb hr hml hown hlk hin hA h1 h2 h3 h4 h5 h6 h7 h8 h9 hP hS la hl
  rw [← e1]; exact this
theorem AW.getsN (pc' : Nat) {ix k : Nat} (hd : decode cc pc = .ok (.getstatic ix, 3)) (hk : k < 4) (hw : Cond.fieldLinkNest own ix "MachineBench" (z_sn k) "[I" "MachineBench" ∈ z_U) (hp : pc + 3 = pc') (kk : AW l g own cc nL rt ini d bc bs pc' ls (.ref (1000000 + k) :: st) S M Q) : AW l g own cc nL rt ini d bc bs pc ls st S M Q := by
  subst hp
  intro p e R s m args below meth c H locs cells slots mc ms hx hb hr hml hown hlk hin hA h1 h2 h3 h4 h5 h6 h7 h8 h9 hP hS la hl
  have e1 : z_ad g (1000000 + k) = gE g k := z_ad_out g k
  refine va_getsN hx hb (hA.2.2.2.1 k hk) hS hown (hA.word _ hw) (fun _ h => h) hd ?_
  have := kk p e R s m args below meth c H locs cells slots mc ms hx hb hr hml hown hlk hin hA h1 h2 h3 h4 h5 h6 h7 h8 h9 hP hS la hl
  rw [← e1]; exact this
end AWH
end
section
section AWC
variable {l : Launch} {g : zG} {own : String} {cc : ByteArray} {nL : Nat} {rt : Option FieldType} {ini : Bool} {d bc bs pc : Nat} {ls : List (Option Value)} {st : List Value} {S : zS} {M : zM} {Q : Option Value → zS → zM → Prop}
/-- rows of references: of objects (kinds 13, 14, 15), of int rows (kind 16) -/
theorem AW.aald (pc' : Nat) {k t n a j : Nat} {i : Int32} (hd : decode cc pc = .ok (.aaload, 1)) (hc : z_ar S k t n) (ht : t = 13 ∨ t = 14 ∨ t = 15 ∨ t = 16) (hi : i = nI a) (ha : a < n) (hn : n < 2 ^ 31) (hv : S.2.2 k a = some j) (hp : pc + 1 = pc') (kk : AW l g own cc nL rt ini d bc bs pc' ls (.ref j :: st) S M Q) : AW l g own cc nL rt ini d bc bs pc ls (.int i :: .ref k :: st) S M Q := by
  subst hp
  intro p e R s m args below meth c H locs cells slots mc ms hx hb hr hml hown hlk hin hA h1 h2 h3 h4 h5 h6 h7 h8 h9 hP hS la hl
  show W p l e R s m args below meth c H locs cells slots _ (F0 m pc la (.int i :: .ref (z_ad g k) :: st.map (zc g)))
  rw [z_ad_in hc.lt h9]
  obtain ⟨q1, q2⟩ := z_in_nI hi ha hn
  have K := kk p e R s m args below meth c H locs cells slots mc ms hx hb hr hml hown hlk hin hA h1 h2 h3 h4 h5 h6 h7 h8 h9 hP hS la hl
  have hz : va_rf ((S.2.2 k i.toNatClampNeg).map (z_ad g)) = .ref (z_ad g j) := by rw [q2, hv]; rfl
  have hat := z_at_rarr (g := g) (M := M) hc (by rcases ht with rfl | rfl | rfl | rfl <;> decide)
  rcases ht with rfl | rfl | rfl | rfl
  · refine va_aldq (D := gD g) (cl := vwCl) (tys := z_tys g) (ws := z_w g S M) (C := RX1) hx hb hA.2.1 hP k 2 hat rfl q1 hd ?_
    rw [hz]; exact K
  · refine va_aldq (D := gD g) (cl := vwCl) (tys := z_tys g) (ws := z_w g S M) (C := RX2) hx hb hA.2.1 hP k 3 hat rfl q1 hd ?_
    rw [hz]; exact K
  · refine va_aldq (D := gD g) (cl := vwCl) (tys := z_tys g) (ws := z_w g S M) (C := RX5) hx hb hA.2.1 hP k 4 hat rfl q1 hd ?_
    rw [hz]; exact K
  · have hlt : i.toNatClampNeg < n := by rw [q2]; exact ha
    refine W.aald (v := .ref (z_ad g j)) (ty := .array .int) hx hb (hP k _ hat) ((hA.2.1.2 5 _ rfl).1 n (fun j => va_rf ((S.2.2 k j).map (z_ad g)))) rfl (fun q => by cases q) ?_ ?_ rfl rfl hd K
    · show ¬ (i < 0 ∨ (arrV _ _ _).slots.size ≤ _)
      rw [arrV_size]; exact q1
    · show (arrV _ _ _).slots[_]? = _
      rw [arrV_read _ _ hlt, hz]
theorem AW.aast (pc' : Nat) {k t n a j ci : Nat} {i : Int32} (hd : decode cc pc = .ok (.aastore, 1)) (hc : z_ar S k t n) (ht : (t = 13 ∧ ci = 1) ∨ (t = 14 ∧ ci = 2) ∨ (t = 15 ∧ ci = 5)) (hj : z_is S j ci) (hi : i = nI a) (ha : a < n) (hn : n < 2 ^ 31) (hp : pc + 1 = pc') (kk : AW l g own cc nL rt ini d bc bs pc' ls st (z_sR S k a j) M Q) : AW l g own cc nL rt ini d bc bs pc ls (.ref j :: .int i :: .ref k :: st) S M Q := by
  subst hp
  intro p e R s m args below meth c H locs cells slots mc ms hx hb hr hml hown hlk hin hA h1 h2 h3 h4 h5 h6 h7 h8 h9 hP hS la hl
  show W p l e R s m args below meth c H locs cells slots _ (F0 m pc la (.ref (z_ad g j) :: .int i :: .ref (z_ad g k) :: st.map (zc g)))
  rw [z_ad_in hc.lt h9]
  obtain ⟨q1, q2⟩ := z_in_nI hi ha hn
  have hat := z_at_rarr (g := g) (M := M) hc (by rcases ht with ⟨rfl, -⟩ | ⟨rfl, -⟩ | ⟨rfl, -⟩ <;> decide)
  have hatj := z_at_obj (g := g) (M := M) hj (by rcases ht with ⟨-, rfl⟩ | ⟨-, rfl⟩ | ⟨-, rfl⟩ <;> decide)
  have fin : ∀ (H1 : Heap) (locs1 : List Loc), va_P (gD g) vwCl ((z_w g S M).set k (gB g + k, .inl (gY g t, n, .inr (.inr (.inr (.inr (va_up (fun j => (S.2.2 k j).map (z_ad g)) i.toNatClampNeg (some (z_ad g j))))))))) H1 → va_S (gA g) H H1 locs1 → W p l e R s m args below meth c H1 locs1 cells slots (MQ below (z_Q g mc Q) args s mc ms (gA g)) (F0 m (pc + 1) la (st.map (zc g))) := by
    intro H1 locs1 hP1 hS1
    have he := z_set_rarr (g := g) (S := S) (M := M) (k := k) (j := a) (i := j) hc.lt (by rw [hc.2]; show ¬ t < 13; omega)
    rw [hc.2] at he
    rw [q2, he] at hP1
    exact kk p e R s m args below meth c H1 locs1 cells slots mc ms hx hb hr hml hown hlk hin hA h1 h2 h3 h4 h5 h6 h7 (Nat.le_trans h8 hS1.1) h9 hP1 (hS.tr hS1) la hl
  have e2 : z_ad g j = gB g + j := z_ad_in hj.lt h9
  rw [e2] at fin ⊢
  rcases ht with ⟨rfl, rfl⟩ | ⟨rfl, rfl⟩ | ⟨rfl, rfl⟩
  · exact va_astq (D := gD g) (cl := vwCl) (tys := z_tys g) (ws := z_w g S M) (A := gA g) (H0 := H) (r := (RX1, TX1, 2)) hx hb hA.2.1 hP (z_w_D g S M) hS.self k 2 j 1 hat rfl hatj rfl q1 hd (fun H1 locs1 hP1 _ hS1 => fin H1 locs1 hP1 hS1)
  · exact va_astq (D := gD g) (cl := vwCl) (tys := z_tys g) (ws := z_w g S M) (A := gA g) (H0 := H) (r := (RX2, TX2, 5)) hx hb hA.2.1 hP (z_w_D g S M) hS.self k 3 j 2 hat rfl hatj rfl q1 hd (fun H1 locs1 hP1 _ hS1 => fin H1 locs1 hP1 hS1)
  · exact va_astq (D := gD g) (cl := vwCl) (tys := z_tys g) (ws := z_w g S M) (A := gA g) (H0 := H) (r := (RX5, TX5, 3)) hx hb hA.2.1 hP (z_w_D g S M) hS.self k 4 j 5 hat rfl hatj rfl q1 hd (fun H1 locs1 hP1 _ hS1 => fin H1 locs1 hP1 hS1)
theorem z_tys_at (g : zG) {t : Nat} (h1 : ¬ t < 11) (h2 : t < 17) : ∃ ty, (z_tys g)[t - 11]? = some (gY g t, ty) := by
  rcases (show t = 11 ∨ t = 12 ∨ t = 13 ∨ t = 14 ∨ t = 15 ∨ t = 16 by omega) with rfl | rfl | rfl | rfl | rfl | rfl <;> exact ⟨_, rfl⟩
theorem AW.alen (pc' : Nat) {k t n : Nat} (hd : decode cc pc = .ok (.arraylength, 1)) (hc : z_ar S k t n) (h11 : ¬ t < 11) (h17 : t < 17) (hp : pc + 1 = pc') (kk : AW l g own cc nL rt ini d bc bs pc' ls (.int (nI n) :: st) S M Q) : AW l g own cc nL rt ini d bc bs pc ls (.ref k :: st) S M Q := by
  subst hp
  intro p e R s m args below meth c H locs cells slots mc ms hx hb hr hml hown hlk hin hA h1 h2 h3 h4 h5 h6 h7 h8 h9 hP hS la hl
  show W p l e R s m args below meth c H locs cells slots _ (F0 m pc la (.ref (z_ad g k) :: st.map (zc g)))
  rw [z_ad_in hc.lt h9]
  have K := kk p e R s m args below meth c H locs cells slots mc ms hx hb hr hml hown hlk hin hA h1 h2 h3 h4 h5 h6 h7 h8 h9 hP hS la hl
  obtain ⟨ty, hty⟩ := z_tys_at g h11 h17
  by_cases h13 : t < 13
  · exact va_alen (D := gD g) (cl := vwCl) (tys := z_tys g) (ws := z_w g S M) hx hb hA.2.1 hP k (t - 11) (z_at_arr hc h11 h13) hty rfl hd K
  · exact va_alen (D := gD g) (cl := vwCl) (tys := z_tys g) (ws := z_w g S M) hx hb hA.2.1 hP k (t - 11) (z_at_rarr hc h13) hty rfl hd K
/-- the ends -/
theorem AW.iret {v : Int32} (hd : decode cc pc = .ok (.ireturn, 1)) (ty : FieldType) (hrt : rt = some ty) (hn : narrow ty (.int v) = .int v) (hbc : bc = 0) (hQ : Q (some (.int v)) S M) : AW l g own cc nL rt ini d bc bs pc ls [.int v] S M Q := by
  subst hbc
  intro p e R s m args below meth c H locs cells slots mc ms hx hb hr hml hown hlk hin hA h1 h2 h3 h4 h5 h6 h7 h8 h9 hP hS la hl
  refine W.widen (k := mc) (n := ms) (by omega) (by omega) ?_
  exact W.zret (v := v) (ty := ty) hx hb (hr.trans hrt) hn (fun t ht hW => ⟨⟨some (.int v), S, M, rfl, hQ, by omega, h9, by rw [ht]; exact h8, by rw [ht]; exact hP⟩, hS.F ht⟩) hS.2.2 hd hlk
theorem AW.vret (hd : decode cc pc = .ok (.return_, 1)) (hrt : rt = none) (hbc : bc = 0) (hQ : Q none S M) : AW l g own cc nL rt ini d bc bs pc ls [] S M Q := by
  subst hbc
  intro p e R s m args below meth c H locs cells slots mc ms hx hb hr hml hown hlk hin hA h1 h2 h3 h4 h5 h6 h7 h8 h9 hP hS la hl
  refine W.widen (k := mc) (n := ms) (by omega) (by omega) ?_
  exact W.vret hx hb (hr.trans hrt) (fun t ht hW => ⟨⟨none, S, M, rfl, hQ, by omega, h9, by rw [ht]; exact h8, by rw [ht]; exact hP⟩, hS.F ht⟩) hS.2.2 hd hlk
end AWC
/-- a method's start -/
def z_Pre (g : zG) (S : zS) (M : zM) (U : State) : Prop := z_Amb g U ∧ U.heap.size = gB g + S.1 ∧ S.1 ≤ 1000000 ∧ va_P (gD g) vwCl (z_w g S M) U.heap
/-- A METHOD'S CONTRACT: from these arguments, shape and memory it comes back with Q -/
def AMet (l : Launch) (g : zG) (y : MethodName) (cc : ByteArray) (nL : Nat) (rt : Option FieldType) (d bc bs : Nat) (av : List Value) (S : zS) (M : zM) (Q : Option Value → zS → zM → Prop) : Prop :=
  Met l y [Cond.code y cc nL rt] { frames := d, cells := bc, slots := bs, locals := 40 * d } (fun v U => v = (av.map (zc g)).toArray ∧ z_Pre g S M U) (z_Q g bc Q) bc bs (gA g)
def z_sl1 (v : Value) : List (Option Value) := if v.category = 2 then [some v, none] else [some v]
/-- the locals at a method's start -/
def z_ent (av : List Value) (nL : Nat) : List (Option Value) := let q := av.flatMap z_sl1; q ++ List.replicate (nL - q.length) none
end
section
theorem z_ent_mem {g : zG} : ∀ (av : List Value) (i k : Nat) (v : Value), (av.flatMap z_sl1)[k]? = some (some v) → (i + k, zc g v) ∈ lv_args i (av.map (zc g))
  | [], i, k, v, h => by simp at h
  | w :: av, i, k, v, h => by
    rw [List.flatMap_cons] at h
    rcases lv_cat w with hw | hw
    · have e1 : z_sl1 w = [some w] := by unfold z_sl1; rw [if_neg (by omega)]
      rw [e1] at h
      cases k with
      | zero =>
        simp at h
        subst h
        simp [lv_args]
      | succ k =>
        rw [List.cons_append, List.getElem?_cons_succ, List.nil_append] at h
        have := z_ent_mem (g := g) av (i + 1) k v h
        rw [show i + 1 + k = i + (k + 1) by omega] at this
        simp only [List.map_cons, lv_args, zc_cat, hw]
        exact List.mem_cons_of_mem _ this
    · have e1 : z_sl1 w = [some w, none] := by unfold z_sl1; rw [if_pos hw]
      rw [e1] at h
      match k, h with
      | 0, h =>
        simp at h
        subst h
        simp [lv_args]
      | 1, h => simp at h
      | k + 2, h =>
        rw [List.cons_append, List.getElem?_cons_succ, List.cons_append, List.getElem?_cons_succ, List.nil_append] at h
        have := z_ent_mem (g := g) av (i + 2) k v h
        rw [show i + 2 + k = i + (k + 2) by omega] at this
        simp only [List.map_cons, lv_args, zc_cat, hw]
        exact List.mem_cons_of_mem _ this
theorem z_ent_len (av : List Value) (g : zG) : (lg_sl (av.map (zc g))).length = (av.flatMap z_sl1).length := by
  induction av with
  | nil => rfl
  | cons w av ih =>
    simp only [lg_sl, List.map_cons, List.flatMap_cons, List.length_append] at ih ⊢
    rw [ih, zc_cat]
    unfold z_sl1
    split <;> rfl
theorem AMet.of {l : Launch} {g : zG} {y : MethodName} {cc : ByteArray} {nL : Nat} {rt : Option FieldType} {ini : Bool} {d bc bs : Nat} {av : List Value} {S : zS} {M : zM} {Q : Option Value → zS → zM → Prop}
    (hy : plainName y.cls = true) (hini : ini = true → y.name = "<init>") (hlen : (av.flatMap z_sl1).length ≤ nL) (k : AW l g y.cls cc nL rt ini d bc bs 0 (z_ent av nL) [] S M Q) : AMet l g y cc nL rt d bc bs av S M Q := by
  refine Met.ofW (cc := cc) (maxL := nL) (ret := rt) hy rfl ?_
  intro p e s m args below meth c s₁ B hml hv
  obtain ⟨rfl, hA, hsz, h9, hP⟩ := hv
  have hown : s.vm.findClass y.cls = some m.cls := findClass_of_methodNamed B.named
  have hin : ini = true → meth.name = "<init>" := fun h => by
    have := (name_of_methodNamed B.named B.method).1
    rw [this]; exact hini h
  have hl := lv_entry (av.map (zc g)) (n := nL) (by rw [z_ent_len]; exact hlen)
  rw [lg_entry_eq]
  generalize (lg_sl (av.map (zc g)) ++ List.replicate (nL - (lg_sl (av.map (zc g))).length) Slot.unset).toArray = la at hl ⊢
  refine k p e _ s m _ below meth c s.heap [] 0 0 bc bs B.exec B.bytes B.returns hml hown B.notSynchronized hin hA (Nat.le_refl _) (Nat.le_refl _) (Nat.zero_add _) (by omega) (Nat.le_refl _) (Nat.le_refl _) (by omega) (by omega) h9 hP va_S.rf la ⟨?_, hl.1, hl.2.1, fun q hq => ?_⟩
  · unfold z_ent; simp only [List.length_append, List.length_replicate]; omega
  · obtain ⟨v, h1, h2⟩ := z_lp_of hq
    obtain ⟨i, x⟩ := q
    dsimp only at h1 h2
    subst h2
    refine hl.2.2 _ ?_
    have h3 : (av.flatMap z_sl1)[i]? = some (some v) := by
      unfold z_ent at h1
      dsimp only at h1
      by_cases hi : i < (av.flatMap z_sl1).length
      · rwa [List.getElem?_append_left hi] at h1
      · rw [List.getElem?_append_right (by omega), List.getElem?_replicate] at h1
        split at h1 <;> cases h1
    have := z_ent_mem (g := g) av 0 i v h3
    rwa [Nat.zero_add] at this
theorem z_Pre.calling {g : zG} {S : zS} {M : zM} {U : State} {f : JFrame} {mk : MethodId} {a : Array Value} (h : z_Pre g S M U) : z_Pre g S M (U.calling f mk a) := ⟨h.1.calling, h.2⟩
theorem z_blind {g : zG} {S : zS} {M : zM} {av : List Value} : FrameBlind (fun v U => v = (av.map (zc g)).toArray ∧ z_Pre g S M U) := fun _ _ _ _ h => ⟨h.1, h.2.calling⟩
section AWK
variable {l : Launch} {g : zG} {own : String} {cc : ByteArray} {nL : Nat} {rt : Option FieldType} {ini : Bool} {d bc bs pc : Nat} {ls : List (Option Value)} {st : List Value} {S : zS} {M : zM} {Q : Option Value → zS → zM → Prop}
/-- behind a call -/
theorem z_back {p : Program} {e : Env} {R : Room} {s : State} {m : MethodId} {args : Array Value} {below : List Frame} {meth : Method} {c : Code} {H : Heap} {locs : List Loc} {cells slots mc ms b2 s2 : Nat} {la : Array Slot} {st0 : List Value} {a : Array Value} {Qk : Option Value → zS → zM → Prop}
    (hx : p.tables.exec = Jvm.exec) (hb : c.code = cc) (hr : meth.sig.returnType = rt) (hml : c.maxLocals = nL) (hown : s.vm.findClass own = some m.cls) (hlk : meth.locks = false) (hin : ini = true → meth.name = "<init>") (hA : z_Amb g s)
    (h1 : d ≤ R.frames) (h2 : 40 * d ≤ R.locals) (h3 : cells + (b2 + bc) = mc) (h4 : slots + (s2 + bs) ≤ ms) (h5 : mc ≤ R.cells) (h6 : ms ≤ R.slots) (h7 : s.heap.size + cells = gB g + S.1) (h8 : gB g + S.1 = H.size) (hS : va_S (gA g) s.heap H locs) (hl : z_has g la nL ls)
    (hrun : va_Run p l e R s m args below meth c H locs cells slots b2 s2 (F0 m pc la st0) (st.map (zc g)) (z_Q g b2 Qk a) (gA g))
    (kk : ∀ v S' M', Qk v S' M' → AW l g own cc nL rt ini d bc bs (pc + 3) ls (v.toList ++ st) S' M' Q) :
    W p l e R s m args below meth c H locs cells slots (MQ below (z_Q g mc Q) args s mc ms (gA g)) (F0 m pc la st0) := by
  intro T hT X
  obtain ⟨v, st₀, t, T', L, h0, X', hL, e1, e2, ⟨⟨v', S', M', hv, hq, hz, h9, hz2, hP1⟩, hF⟩, stp⟩ := hrun T hT X
  cases hv
  rw [h0] at hz
  have hF2 := hF.2
  have hF1 := hF.1
  rw [h0] at hF1 hF2
  obtain ⟨t2, a1, b1⟩ := kk v' S' M' hq p e R s m args below meth c T'.heap (locs ++ L) (cells + b2) (slots + s2) mc ms hx hb hr hml hown hlk hin hA h1 h2 (by omega) (by omega) h5 h6 (by omega) (by rw [e1]; exact hz2) h9 (by rw [e1]; exact hP1)
    ⟨Nat.le_trans hS.1 (by rw [e1]; exact hF1), fun q q1 q2 => by rw [e1, hF2 q (Nat.lt_of_lt_of_le q1 hS.1) q2]; exact hS.2.1 q q1 q2, fun q hq => by
      rcases List.mem_append.mp hq with h | h
      · exact hS.2.2 q h
      · exact hL q h⟩ la hl T' rfl X'
  refine ⟨t2, stp t2 ?_, b1⟩
  have e3 : (v'.map (zc g)).toList ++ st.map (zc g) = (v'.toList ++ st).map (zc g) := by cases v' <;> rfl
  show Steps p.tables e below (T'.setTop (F0 m (pc + 3) la ((v'.map (zc g)).toList ++ st.map (zc g)))) t2
  rw [e3]
  exact a1
/-- the heap's size is known -/
theorem z_size {p : Program} {e : Env} {R : Room} {s : State} {m : MethodId} {args : Array Value} {below : List Frame} {meth : Method} {c : Code} {H : Heap} {locs : List Loc} {cells slots : Nat} {Qw : State → Prop} {f : JFrame} (h7 : s.heap.size + cells = gB g + S.1) (h8 : gB g + S.1 ≤ H.size)
    (kk : gB g + S.1 = H.size → W p l e R s m args below meth c H locs cells slots Qw f) : W p l e R s m args below meth c H locs cells slots Qw f := by
  intro T hT X
  have := X.heapSize
  rw [hT] at this
  exact kk (by omega) T hT X
def z_cvB (own : String) (ix ci : Nat) (y : MethodName) (c2 : ByteArray) (n2 : Nat) (r2 : Option FieldType) (n : Nat) : Bool := match vwCl[ci]? with
  | some q => (wsV own ix q.1 y [Cond.code y c2 n2 r2]).all (fun w => decide (w ∈ z_U) && goodWord w) && decide (y.cls = q.1 ∧ y.cls ≠ "java/lang/invoke/MethodHandle" ∧ y.cls ≠ "java/lang/invoke/VarHandle" ∧ (parseMethodDescriptor y.desc).map (fun d => d.parameters.length) = some n) && Nat.ble n2 21
  | none => false
theorem z_goodIn {ws : List Cond} (h : ws.all (fun w => decide (w ∈ z_U) && goodWord w) = true) : GoodIn z_U ws := fun w hw => by
  have := List.all_eq_true.mp h w hw
  simp only [Bool.and_eq_true, decide_eq_true_eq] at this
  exact ⟨this.1, good_of_word this.2⟩
/-- a call of a method of an object -/
theorem AW.invV {ix ci k n n2 b2 s2 : Nat} {y : MethodName} {c2 : ByteArray} {r2 : Option FieldType} {av st0 : List Value} {Qk : Option Value → zS → zM → Prop} (hd : decode cc pc = .ok (.invokevirtual ix, 3)) (hw : z_cvB own ix ci y c2 n2 r2 n = true) (hc : z_is S k ci) (hn : av.length = n) (hst : av.reverse ++ .ref k :: st = st0) (hcat : (st.map fun v => v.category).sum ≤ 8)
    (hM : AMet l g y c2 n2 r2 d b2 s2 (.ref k :: av) S M Qk) (kk : ∀ v S' M', Qk v S' M' → AW l g own cc nL rt ini (d + 1) bc bs (pc + 3) ls (v.toList ++ st) S' M' Q) : AW l g own cc nL rt ini (d + 1) (b2 + bc) (s2 + bs) pc ls st0 S M Q := by
  subst hst
  intro p e R s m args below meth c H locs cells slots mc ms hx hb hr hml hown hlk hin hA h1 h2 h3 h4 h5 h6 h7 h8 h9 hP hS la hl
  refine z_size h7 h8 (fun h8 => ?_)
  unfold z_cvB at hw
  split at hw
  · rename_i q hq
    obtain ⟨-, -, -, -, c5⟩ := z_cls ci q hq
    simp only [Bool.and_eq_true, decide_eq_true_eq] at hw
    refine z_back (a := (Value.ref (gB g + k) :: av.map (zc g)).toArray) hx hb hr hml hown hlk hin hA h1 h2 h3 h4 h5 h6 h7 h8 hS hl ?_ kk
    refine va_runV (Ts := z_U) (nL := nL) (C := q.1) (y := y) (bytes := c2) (maxL := n2) (ret := r2) (b := gB g + k) (As := av.map (zc g)) (rest := st.map (zc g)) (own := own) (index := ix) ⟨hx, hb, hml, hown, hA.word⟩ hM (cwV n hA.word (z_goodIn hw.1.1) rfl rfl rfl hw.1.2 ⟨h1, ?_⟩) ⟨z_blind, va_recv hA.2.1 hP hq (z_at_obj hc c5), fun U hU hW => ⟨?_, hA.moved hW (by rw [hU]; exact hS.1) (fun q a b => by rw [hU]; exact hS.2.1 q a b), by rw [hU]; exact h8.symm, h9, by rw [hU]; exact hP⟩⟩ rfl (by rw [List.length_map]; exact hn) hl.2.1 ?_ (lv_room (by rw [zc_cats]; exact hcat)) hd ⟨by omega, by omega⟩
    · have := Nat.le_of_ble_eq_true hw.2
      show 8 + (n2 + 11) + 40 * d ≤ R.locals
      omega
    · rw [List.map_cons]; show _ = (Value.ref (z_ad g k) :: _).toArray; rw [z_ad_in hc.lt h9]
    · show (av.reverse ++ .ref k :: st).map (zc g) = _
      rw [List.map_append, List.map_cons, List.map_reverse]
      show _ ++ Value.ref (z_ad g k) :: _ = _
      rw [z_ad_in hc.lt h9]
  · cases hw
/-- static: of any class; of a nest mate (private); constructors: of any class, of a nest mate -/
def z_csB (own : String) (ix : Nat) (y : MethodName) (c2 : ByteArray) (n2 : Nat) (r2 : Option FieldType) (n : Nat) : Bool := (va_wsS own ix y [Cond.code y c2 n2 r2]).all (fun w => decide (w ∈ z_U) && goodWord w) && decide (y.cls ≠ "java/lang/invoke/MethodHandle" ∧ y.cls ≠ "java/lang/invoke/VarHandle" ∧ (parseMethodDescriptor y.desc).map (fun d => d.parameters.length) = some n) && Nat.ble n2 21
def z_csNB (own : String) (ix : Nat) (y : MethodName) (c2 : ByteArray) (n2 : Nat) (r2 : Option FieldType) (n : Nat) : Bool := ([Cond.code y c2 n2 r2]).all (fun w => decide (w ∈ z_U) && goodWord w) && decide (Cond.methodLinkNest own ix y "MachineBench" ∈ z_U) && decide (Cond.initialized y.cls ∈ z_U) && decide (Cond.static y ∈ z_U) && decide (y.cls ≠ "java/lang/invoke/MethodHandle" ∧ y.cls ≠ "java/lang/invoke/VarHandle" ∧ (parseMethodDescriptor y.desc).map (fun d => d.parameters.length) = some n) && Nat.ble n2 21
def z_ciB (own : String) (ix : Nat) (y : MethodName) (c2 : ByteArray) (n2 : Nat) (n : Nat) : Bool := ([Cond.code y c2 n2 none]).all (fun w => decide (w ∈ z_U) && goodWord w) && decide (Cond.methodLink own ix y ∈ z_U) && decide (Cond.initialized y.cls ∈ z_U) && decide (Cond.instanceMethod y ∈ z_U) && decide (y.name = "<init>") && decide (y.cls ≠ "java/lang/invoke/MethodHandle" ∧ y.cls ≠ "java/lang/invoke/VarHandle" ∧ (parseMethodDescriptor y.desc).map (fun d => d.parameters.length) = some n) && Nat.ble n2 21
def z_ciNB (own : String) (ix : Nat) (y : MethodName) (c2 : ByteArray) (n2 : Nat) (n : Nat) : Bool := ([Cond.code y c2 n2 none]).all (fun w => decide (w ∈ z_U) && goodWord w) && decide (Cond.methodLinkNest own ix y "MachineBench" ∈ z_U) && decide (Cond.initialized y.cls ∈ z_U) && decide (Cond.instanceMethod y ∈ z_U) && decide (y.name = "<init>") && decide (y.cls ≠ "java/lang/invoke/MethodHandle" ∧ y.cls ≠ "java/lang/invoke/VarHandle" ∧ (parseMethodDescriptor y.desc).map (fun d => d.parameters.length) = some n) && Nat.ble n2 21
theorem AW.invS {ix n n2 b2 s2 : Nat} {y : MethodName} {c2 : ByteArray} {r2 : Option FieldType} {av st0 : List Value} {Qk : Option Value → zS → zM → Prop} (hd : decode cc pc = .ok (.invokestatic ix, 3)) (hw : z_csB own ix y c2 n2 r2 n = true) (hn : av.length = n) (hst : av.reverse ++ st = st0) (hcat : (st.map fun v => v.category).sum ≤ 8)
    (hM : AMet l g y c2 n2 r2 d b2 s2 av S M Qk) (kk : ∀ v S' M', Qk v S' M' → AW l g own cc nL rt ini (d + 1) bc bs (pc + 3) ls (v.toList ++ st) S' M' Q) : AW l g own cc nL rt ini (d + 1) (b2 + bc) (s2 + bs) pc ls st0 S M Q := by
  subst hst
  intro p e R s m args below meth c H locs cells slots mc ms hx hb hr hml hown hlk hin hA h1 h2 h3 h4 h5 h6 h7 h8 h9 hP hS la hl
  refine z_size h7 h8 (fun h8 => ?_)
  unfold z_csB at hw
  simp only [Bool.and_eq_true, decide_eq_true_eq] at hw
  have h40 : 8 + (n2 + 11) + 40 * d ≤ R.locals := by
    have := Nat.le_of_ble_eq_true hw.2
    omega
  refine z_back (a := (av.map (zc g)).toArray) hx hb hr hml hown hlk hin hA h1 h2 h3 h4 h5 h6 h7 h8 hS hl ?_ kk
  refine va_runS (Ts := z_U) (nL := nL) (y := y) (bytes := c2) (maxL := n2) (ret := r2) (As := av.map (zc g)) (rest := st.map (zc g)) (own := own) (index := ix) ⟨hx, hb, hml, hown, hA.word⟩ hM (va_cwS n hA.word (z_goodIn hw.1.1) rfl rfl rfl hw.1.2 ⟨h1, h40⟩) ⟨z_blind, fun U hU hW => ⟨?_, hA.moved hW (by rw [hU]; exact hS.1) (fun q a b => by rw [hU]; exact hS.2.1 q a b), by rw [hU]; exact h8.symm, h9, by rw [hU]; exact hP⟩⟩ rfl (by rw [List.length_map]; exact hn) hl.2.1 ?_ (lv_room (by rw [zc_cats]; exact hcat)) hd ⟨by omega, by omega⟩
  · rfl
  · show (av.reverse ++ st).map (zc g) = _
    rw [List.map_append, List.map_reverse]
theorem AW.invSN {ix n n2 b2 s2 : Nat} {y : MethodName} {c2 : ByteArray} {r2 : Option FieldType} {av st0 : List Value} {Qk : Option Value → zS → zM → Prop} (hd : decode cc pc = .ok (.invokestatic ix, 3)) (hw : z_csNB own ix y c2 n2 r2 n = true) (hn : av.length = n) (hst : av.reverse ++ st = st0) (hcat : (st.map fun v => v.category).sum ≤ 8)
    (hM : AMet l g y c2 n2 r2 d b2 s2 av S M Qk) (kk : ∀ v S' M', Qk v S' M' → AW l g own cc nL rt ini (d + 1) bc bs (pc + 3) ls (v.toList ++ st) S' M' Q) : AW l g own cc nL rt ini (d + 1) (b2 + bc) (s2 + bs) pc ls st0 S M Q := by
  subst hst
  intro p e R s m args below meth c H locs cells slots mc ms hx hb hr hml hown hlk hin hA h1 h2 h3 h4 h5 h6 h7 h8 h9 hP hS la hl
  refine z_size h7 h8 (fun h8 => ?_)
  unfold z_csNB at hw
  simp only [Bool.and_eq_true, decide_eq_true_eq] at hw
  have h40 : 8 + (n2 + 11) + 40 * d ≤ R.locals := by
    have := Nat.le_of_ble_eq_true hw.2
    omega
  refine z_back (a := (av.map (zc g)).toArray) hx hb hr hml hown hlk hin hA h1 h2 h3 h4 h5 h6 h7 h8 hS hl ?_ kk
  refine va_runSN (Ts := z_U) (nL := nL) (y := y) (bytes := c2) (maxL := n2) (ret := r2) (As := av.map (zc g)) (rest := st.map (zc g)) (own := own) (index := ix) ⟨hx, hb, hml, hown, hA.word⟩ hM ⟨va_cnB n hA.word (z_goodIn hw.1.1.1.1.1) rfl rfl rfl (va_Nw.of rfl (hA.1 _ hw.1.1.1.1.2)) (hA.word _ hw.1.1.1.2) hw.1.2 ⟨h1, h40⟩, hA.word _ hw.1.1.2, trivial⟩ ⟨z_blind, fun U hU hW => ⟨?_, hA.moved hW (by rw [hU]; exact hS.1) (fun q a b => by rw [hU]; exact hS.2.1 q a b), by rw [hU]; exact h8.symm, h9, by rw [hU]; exact hP⟩⟩ rfl (by rw [List.length_map]; exact hn) hl.2.1 ?_ (lv_room (by rw [zc_cats]; exact hcat)) hd ⟨by omega, by omega⟩
  · rfl
  · show (av.reverse ++ st).map (zc g) = _
    rw [List.map_append, List.map_reverse]
theorem AW.invI {ix n n2 b2 s2 k : Nat} {y : MethodName} {c2 : ByteArray} {av st0 : List Value} {Qk : Option Value → zS → zM → Prop} (hd : decode cc pc = .ok (.invokespecial ix, 3)) (hw : z_ciB own ix y c2 n2 n = true) (hk : k < S.1) (hn : av.length = n) (hst : av.reverse ++ .ref k :: st = st0) (hcat : (st.map fun v => v.category).sum ≤ 8)
    (hM : AMet l g y c2 n2 none d b2 s2 (.ref k :: av) S M Qk) (kk : ∀ v S' M', Qk v S' M' → AW l g own cc nL rt ini (d + 1) bc bs (pc + 3) ls (v.toList ++ st) S' M' Q) : AW l g own cc nL rt ini (d + 1) (b2 + bc) (s2 + bs) pc ls st0 S M Q := by
  subst hst
  intro p e R s m args below meth c H locs cells slots mc ms hx hb hr hml hown hlk hin hA h1 h2 h3 h4 h5 h6 h7 h8 h9 hP hS la hl
  refine z_size h7 h8 (fun h8 => ?_)
  unfold z_ciB at hw
  simp only [Bool.and_eq_true, decide_eq_true_eq] at hw
  have h40 : 8 + (n2 + 11) + 40 * d ≤ R.locals := by
    have := Nat.le_of_ble_eq_true hw.2
    omega
  refine z_back (a := (Value.ref (gB g + k) :: av.map (zc g)).toArray) hx hb hr hml hown hlk hin hA h1 h2 h3 h4 h5 h6 h7 h8 hS hl ?_ kk
  refine va_runI (Ts := z_U) (nL := nL) (y := y) (bytes := c2) (maxL := n2) (b := gB g + k) (As := av.map (zc g)) (rest := st.map (zc g)) (own := own) (index := ix) ⟨hx, hb, hml, hown, hA.word⟩ hM (cwI n hA.word (z_goodIn hw.1.1.1.1.1.1) rfl rfl rfl (hA.word _ hw.1.1.1.1.2) (hA.word _ hw.1.1.1.1.1.2) (hA.word _ hw.1.1.1.2) hw.1.1.2 hw.1.2 ⟨h1, h40⟩) ⟨z_blind, fun U hU hW => ⟨?_, hA.moved hW (by rw [hU]; exact hS.1) (fun q a b => by rw [hU]; exact hS.2.1 q a b), by rw [hU]; exact h8.symm, h9, by rw [hU]; exact hP⟩⟩ rfl (by rw [List.length_map]; exact hn) hl.2.1 ?_ (lv_room (by rw [zc_cats]; exact hcat)) hd ⟨by omega, by omega⟩
  · rw [List.map_cons]; show _ = (Value.ref (z_ad g k) :: _).toArray; rw [z_ad_in hk h9]
  · show (av.reverse ++ .ref k :: st).map (zc g) = _
    rw [List.map_append, List.map_cons, List.map_reverse]
    show _ ++ Value.ref (z_ad g k) :: _ = _
    rw [z_ad_in hk h9]
theorem AW.invIN {ix n n2 b2 s2 k : Nat} {y : MethodName} {c2 : ByteArray} {av st0 : List Value} {Qk : Option Value → zS → zM → Prop} (hd : decode cc pc = .ok (.invokespecial ix, 3)) (hw : z_ciNB own ix y c2 n2 n = true) (hk : k < S.1) (hn : av.length = n) (hst : av.reverse ++ .ref k :: st = st0) (hcat : (st.map fun v => v.category).sum ≤ 8)
    (hM : AMet l g y c2 n2 none d b2 s2 (.ref k :: av) S M Qk) (kk : ∀ v S' M', Qk v S' M' → AW l g own cc nL rt ini (d + 1) bc bs (pc + 3) ls (v.toList ++ st) S' M' Q) : AW l g own cc nL rt ini (d + 1) (b2 + bc) (s2 + bs) pc ls st0 S M Q := by
  subst hst
  intro p e R s m args below meth c H locs cells slots mc ms hx hb hr hml hown hlk hin hA h1 h2 h3 h4 h5 h6 h7 h8 h9 hP hS la hl
  refine z_size h7 h8 (fun h8 => ?_)
  unfold z_ciNB at hw
  simp only [Bool.and_eq_true, decide_eq_true_eq] at hw
  have h40 : 8 + (n2 + 11) + 40 * d ≤ R.locals := by
    have := Nat.le_of_ble_eq_true hw.2
    omega
  refine z_back (a := (Value.ref (gB g + k) :: av.map (zc g)).toArray) hx hb hr hml hown hlk hin hA h1 h2 h3 h4 h5 h6 h7 h8 hS hl ?_ kk
  refine va_runIN (Ts := z_U) (nL := nL) (y := y) (bytes := c2) (maxL := n2) (b := gB g + k) (As := av.map (zc g)) (rest := st.map (zc g)) (own := own) (index := ix) ⟨hx, hb, hml, hown, hA.word⟩ hM ⟨va_cnB n hA.word (z_goodIn hw.1.1.1.1.1.1) rfl rfl rfl (va_Nw.of rfl (hA.1 _ hw.1.1.1.1.1.2)) (hA.word _ hw.1.1.1.1.2) hw.1.2 ⟨h1, h40⟩, hw.1.1.2, hA.word _ hw.1.1.1.2⟩ ⟨z_blind, fun U hU hW => ⟨?_, hA.moved hW (by rw [hU]; exact hS.1) (fun q a b => by rw [hU]; exact hS.2.1 q a b), by rw [hU]; exact h8.symm, h9, by rw [hU]; exact hP⟩⟩ rfl (by rw [List.length_map]; exact hn) hl.2.1 ?_ (lv_room (by rw [zc_cats]; exact hcat)) hd ⟨by omega, by omega⟩
  · rw [List.map_cons]; show _ = (Value.ref (z_ad g k) :: _).toArray; rw [z_ad_in hk h9]
  · show (av.reverse ++ .ref k :: st).map (zc g) = _
    rw [List.map_append, List.map_cons, List.map_reverse]
    show _ ++ Value.ref (z_ad g k) :: _ = _
    rw [z_ad_in hk h9]
end AWK
end
section
/-- answers: an int; nothing -/
abbrev z_Qi (Q : Int32 → zS → zM → Prop) : Option Value → zS → zM → Prop := fun v S M => ∃ r : Int32, v = some (.int r) ∧ Q r S M
abbrev z_Qv (Q : zS → zM → Prop) : Option Value → zS → zM → Prop := fun v S M => v = none ∧ Q S M
section AWX
variable {l : Launch} {g : zG} {own : String} {cc : ByteArray} {nL : Nat} {rt : Option FieldType} {ini : Bool} {d bc bs pc : Nat} {ls : List (Option Value)} {st : List Value} {S : zS} {M : zM} {Q : Option Value → zS → zM → Prop}

theorem AW.cVi (pc' : Nat) {ci k : Nat} {ix n n2 : Nat} {y : MethodName} {c2 : ByteArray} {r2 : Option FieldType} (av : List Value) {st0 : List Value} (hd : decode cc pc = .ok (.invokevirtual ix, 3)) (hw : z_cvB own ix ci y c2 n2 r2 n = true) (hc : z_is S k ci) (hn : av.length = n) (hst : av.reverse ++ .ref k :: st = st0) (hcat : (st.map fun v => v.category).sum ≤ 8) (hp : pc + 3 = pc')
    (hM : AMet l g y c2 n2 r2 d 0 0 (.ref k :: av) S M (z_Qi fun r S' M' => AW l g own cc nL rt ini (d + 1) 0 0 pc' ls (.int r :: st) S' M' Q)) : AW l g own cc nL rt ini (d + 1) 0 0 pc ls st0 S M Q := by
  subst hp
  exact AW.invV (b2 := 0) (s2 := 0) (bc := 0) (bs := 0) hd hw hc hn hst hcat hM (fun v S' M' h => by obtain ⟨r, rfl, h⟩ := h; exact h)
theorem AW.cVv (pc' : Nat) {ci k : Nat} {ix n n2 : Nat} {y : MethodName} {c2 : ByteArray} {r2 : Option FieldType} (av : List Value) {st0 : List Value} (hd : decode cc pc = .ok (.invokevirtual ix, 3)) (hw : z_cvB own ix ci y c2 n2 r2 n = true) (hc : z_is S k ci) (hn : av.length = n) (hst : av.reverse ++ .ref k :: st = st0) (hcat : (st.map fun v => v.category).sum ≤ 8) (hp : pc + 3 = pc')
    (hM : AMet l g y c2 n2 r2 d 0 0 (.ref k :: av) S M (z_Qv fun S' M' => AW l g own cc nL rt ini (d + 1) 0 0 pc' ls st S' M' Q)) : AW l g own cc nL rt ini (d + 1) 0 0 pc ls st0 S M Q := by
  subst hp
  exact AW.invV (b2 := 0) (s2 := 0) (bc := 0) (bs := 0) hd hw hc hn hst hcat hM (fun v S' M' h => by obtain ⟨rfl, h⟩ := h; exact h)
theorem AW.cSi (pc' : Nat) {ix n n2 : Nat} {y : MethodName} {c2 : ByteArray} {r2 : Option FieldType} (av : List Value) {st0 : List Value} (hd : decode cc pc = .ok (.invokestatic ix, 3)) (hw : z_csB own ix y c2 n2 r2 n = true) (hn : av.length = n) (hst : av.reverse ++ st = st0) (hcat : (st.map fun v => v.category).sum ≤ 8) (hp : pc + 3 = pc')
    (hM : AMet l g y c2 n2 r2 d 0 0 av S M (z_Qi fun r S' M' => AW l g own cc nL rt ini (d + 1) 0 0 pc' ls (.int r :: st) S' M' Q)) : AW l g own cc nL rt ini (d + 1) 0 0 pc ls st0 S M Q := by
  subst hp
  exact AW.invS (b2 := 0) (s2 := 0) (bc := 0) (bs := 0) hd hw hn hst hcat hM (fun v S' M' h => by obtain ⟨r, rfl, h⟩ := h; exact h)
theorem AW.cSv (pc' : Nat) {ix n n2 : Nat} {y : MethodName} {c2 : ByteArray} {r2 : Option FieldType} (av : List Value) {st0 : List Value} (hd : decode cc pc = .ok (.invokestatic ix, 3)) (hw : z_csB own ix y c2 n2 r2 n = true) (hn : av.length = n) (hst : av.reverse ++ st = st0) (hcat : (st.map fun v => v.category).sum ≤ 8) (hp : pc + 3 = pc')
    (hM : AMet l g y c2 n2 r2 d 0 0 av S M (z_Qv fun S' M' => AW l g own cc nL rt ini (d + 1) 0 0 pc' ls st S' M' Q)) : AW l g own cc nL rt ini (d + 1) 0 0 pc ls st0 S M Q := by
  subst hp
  exact AW.invS (b2 := 0) (s2 := 0) (bc := 0) (bs := 0) hd hw hn hst hcat hM (fun v S' M' h => by obtain ⟨rfl, h⟩ := h; exact h)
theorem AW.cNi (pc' : Nat) {ix n n2 : Nat} {y : MethodName} {c2 : ByteArray} {r2 : Option FieldType} (av : List Value) {st0 : List Value} (hd : decode cc pc = .ok (.invokestatic ix, 3)) (hw : z_csNB own ix y c2 n2 r2 n = true) (hn : av.length = n) (hst : av.reverse ++ st = st0) (hcat : (st.map fun v => v.category).sum ≤ 8) (hp : pc + 3 = pc')
    (hM : AMet l g y c2 n2 r2 d 0 0 av S M (z_Qi fun r S' M' => AW l g own cc nL rt ini (d + 1) 0 0 pc' ls (.int r :: st) S' M' Q)) : AW l g own cc nL rt ini (d + 1) 0 0 pc ls st0 S M Q := by
  subst hp
  exact AW.invSN (b2 := 0) (s2 := 0) (bc := 0) (bs := 0) hd hw hn hst hcat hM (fun v S' M' h => by obtain ⟨r, rfl, h⟩ := h; exact h)
theorem AW.cNv (pc' : Nat) {ix n n2 : Nat} {y : MethodName} {c2 : ByteArray} {r2 : Option FieldType} (av : List Value) {st0 : List Value} (hd : decode cc pc = .ok (.invokestatic ix, 3)) (hw : z_csNB own ix y c2 n2 r2 n = true) (hn : av.length = n) (hst : av.reverse ++ st = st0) (hcat : (st.map fun v => v.category).sum ≤ 8) (hp : pc + 3 = pc')
    (hM : AMet l g y c2 n2 r2 d 0 0 av S M (z_Qv fun S' M' => AW l g own cc nL rt ini (d + 1) 0 0 pc' ls st S' M' Q)) : AW l g own cc nL rt ini (d + 1) 0 0 pc ls st0 S M Q := by
  subst hp
  exact AW.invSN (b2 := 0) (s2 := 0) (bc := 0) (bs := 0) hd hw hn hst hcat hM (fun v S' M' h => by obtain ⟨rfl, h⟩ := h; exact h)
theorem AMet.mono {y : MethodName} {c2 : ByteArray} {n2 : Nat} {r2 : Option FieldType} {b2 s2 : Nat} {av : List Value} {Q1 Q2 : Option Value → zS → zM → Prop} (h : ∀ v S' M', Q1 v S' M' → Q2 v S' M') (hM : AMet l g y c2 n2 r2 d b2 s2 av S M Q1) : AMet l g y c2 n2 r2 d b2 s2 av S M Q2 := by
  unfold AMet Met at hM ⊢
  intro p e ha hc hk s m args below hf hfit hP hK
  obtain ⟨k, o, a1, a2, a3, ⟨⟨⟨v, S', M', e1, e2, e3⟩, hF⟩, hL⟩⟩ := hM p e ha hc hk s m args below hf hfit hP hK
  exact ⟨k, o, a1, a2, a3, ⟨⟨⟨v, S', M', e1, h v S' M' e2, e3⟩, hF⟩, hL⟩⟩
/-- System.arraycopy of int rows -/
theorem AW.copy (pc' : Nat) {ix k0 k1 n0 n1 a b n : Nat} {sp dp c0 : Int32} (hd : decode cc pc = .ok (.invokestatic ix, 3)) (hw : Cond.methodLink own ix arraycopyName ∈ z_U) (hc0 : z_ar S k0 11 n0) (hc1 : z_ar S k1 11 n1) (ea : sp = nI a) (eb : dp = nI b) (en : c0 = nI n) (ha : a + n ≤ n0) (hb0 : b + n ≤ n1) (hn0 : n0 < 2 ^ 31) (hn1 : n1 < 2 ^ 31) (hcat : (st.map fun v => v.category).sum ≤ 8) (hp : pc + 3 = pc')
    (kk : AW l g own cc nL rt ini (d + 1) bc bs pc' ls st S (z_row M k1 (va_cpy (M k0) (M k1) a b n)) Q) : AW l g own cc nL rt ini (d + 1) bc bs pc ls (.int c0 :: .int dp :: .ref k1 :: .int sp :: .ref k0 :: st) S M Q := by
  subst hp; subst ea; subst eb; subst en
  intro p e R s m args below meth c H locs cells slots mc ms hx hb hr hml hown hlk hin hA h1 h2 h3 h4 h5 h6 h7 h8 h9 hP hS la hl
  show W p l e R s m args below meth c H locs cells slots _ (F0 m pc la (.int (nI n) :: .int (nI b) :: .ref (z_ad g k1) :: .int (nI a) :: .ref (z_ad g k0) :: st.map (zc g)))
  rw [z_ad_in hc0.lt h9, z_ad_in hc1.lt h9]
  have ca : (nI a).toNatClampNeg = a := nI_clamp (by omega)
  have cb : (nI b).toNatClampNeg = b := nI_clamp (by omega)
  have cn : (nI n).toNatClampNeg = n := nI_clamp (by omega)
  refine va_copyi (D := gD g) (cl := vwCl) (tys := z_tys g) (ws := z_w g S M) (A := gA g) (H0 := H) (ty := .int) hx hb (hml.trans hl.2.1.symm) hown (hA.word _ hw) (hA.word _ (by decide +kernel)) (hA.word _ (by decide +kernel)) (hA.word _ (by decide +kernel)) hA.2.1 hP (z_w_D g S M) hS.self k0 k1 0 0 (z_at_arr hc0 (by decide) (by decide)) (z_at_arr hc1 (by decide) (by decide)) rfl rfl rfl (nI_pos (by omega)) (nI_pos (by omega)) (nI_pos (by omega)) (by rw [ca, cn]; exact ha) (by rw [cb, cn]; exact hb0) (fun _ _ => rfl) (by omega) ?_ hd (fun H1 locs1 hP1 _ hS1 => ?_)
  · rw [zc_cats]
    have : nativeFrameWords "java/lang/System" "arraycopy" 5 = 7 := by decide
    omega
  · rw [ca, cb, cn] at hP1
    have he := z_set_arr (g := g) (S := S) (M := M) (k := k1) (va_cpy (M k0) (M k1) a b n) hc1.lt (by rw [hc1.2]; show ¬ (11 : Nat) < 11; decide) (by rw [hc1.2]; show (11 : Nat) < 13; decide)
    rw [hc1.2] at he
    rw [he] at hP1
    exact kk p e R s m args below meth c H1 locs1 cells slots mc ms hx hb hr hml hown hlk hin hA h1 h2 h3 h4 h5 h6 h7 (Nat.le_trans h8 hS1.1) h9 hP1 (hS.tr hS1) la hl
/-- Object's constructor -/
theorem AW.objI (pc' : Nat) {ix k : Nat} (hd : decode cc pc = .ok (.invokespecial ix, 3)) (hw : Cond.methodLink own ix objectInit ∈ z_U) (hcat : (st.map fun v => v.category).sum ≤ 8) (hp : pc + 3 = pc') (kk : AW l g own cc nL rt ini (d + 1) bc bs pc' ls st S M Q) : AW l g own cc nL rt ini (d + 1) bc bs pc ls (.ref k :: st) S M Q := by
  subst hp
  intro p e R s m args below meth c H locs cells slots mc ms hx hb hr hml hown hlk hin hA h1 h2 h3 h4 h5 h6 h7 h8 h9 hP hS la hl
  refine W.objInit hx hb hown (hA.word _ hw) (hA.word _ (by decide +kernel)) (hA.word _ (by decide +kernel)) rfl (hl.2.1.trans hml.symm) rfl hd (by omega) ?_ (kk p e R s m args below meth c H locs cells slots mc ms hx hb hr hml hown hlk hin hA h1 h2 h3 h4 h5 h6 h7 h8 h9 hP hS la hl)
  have := lv_room (m := m) (pc := pc) (ls := la) (rest := (Value.ref k :: st).map (zc g)) (st := st.map (zc g)) (by rw [zc_cats]; exact hcat)
  omega
end AWX
end
section
/-- a new cell; a new row of rows -/
def z_nw (S : zS) (t len : Nat) : zS := (S.1 + 1, va_up S.2.1 S.1 (t, len), va_up S.2.2 S.1 (fun _ => none))
def z_nM (S : zS) (M : zM) : zM := va_up M S.1 (fun _ => 0)
def z_mS (S : zS) (N L : Nat) : zS := (S.1 + 1 + N, fun k => if k = S.1 then (16, N) else if S.1 < k ∧ k < S.1 + 1 + N then (11, L) else S.2.1 k, fun k => if k = S.1 then (fun j => if j < N then some (S.1 + 1 + j) else none) else S.2.2 k)
def z_mM (S : zS) (M : zM) (N : Nat) : zM := fun k => if S.1 < k ∧ k < S.1 + 1 + N then (fun _ => 0) else M k
theorem z_P_of {g : zG} {S : zS} {M : zM} {H : Heap} (h : ∀ k, k < S.1 → va_at (gD g) vwCl (gB g + k, z_cell g S M k) H) : va_P (gD g) vwCl (z_w g S M) H := by
  intro k q hk
  obtain ⟨h1, rfl⟩ := z_w_of hk
  exact h k h1
theorem z_P_at {g : zG} {S : zS} {M : zM} {H : Heap} (h : va_P (gD g) vwCl (z_w g S M) H) {k : Nat} (hk : k < S.1) : va_at (gD g) vwCl (gB g + k, z_cell g S M k) H := h k _ (z_w_at g S M hk)
theorem z_cell_nw {g : zG} {S : zS} {M : zM} {t len k : Nat} (hk : k < S.1) : z_cell g (z_nw S t len) (z_nM S M) k = z_cell g S M k := by
  unfold z_cell z_nw z_nM
  simp only [va_up_ne _ _ (Nat.ne_of_lt hk)]
theorem z_cell_m {g : zG} {S : zS} {M : zM} {N L k : Nat} (hk : k < S.1) : z_cell g (z_mS S N L) (z_mM S M N) k = z_cell g S M k := by
  have e1 : k ≠ S.1 := Nat.ne_of_lt hk
  have e2 : ¬ (S.1 < k ∧ k < S.1 + 1 + N) := by omega
  unfold z_cell z_mS z_mM
  simp only [if_neg e1, if_neg e2]
theorem z_def : ∀ (ci : Nat) (q : vw_C), vwCl[ci]? = some q → ∃ ty0 : Nat → FieldType, (∀ k, k < q.2.2 → parseFieldDescriptor (q.2.1 k).2.2.1 = some (ty0 k)) ∧ ∀ j, j < q.2.2 → defaultValue (ty0 j) = if z_rf ci j then .null else .int 0 := by
  intro ci q h
  match ci, h with
  | 0, h => cases h; exact ⟨tyX0, tyX0_ok, by decide +kernel⟩
  | 1, h => cases h; exact ⟨tyX1, tyX1_ok, by decide +kernel⟩
  | 2, h => cases h; exact ⟨tyX2, tyX2_ok, by decide +kernel⟩
  | 3, h => cases h; exact ⟨tyX3, tyX3_ok, by decide +kernel⟩
  | 4, h => cases h; exact ⟨tyX4, tyX4_ok, by decide +kernel⟩
  | 5, h => cases h; exact ⟨tyX5, tyX5_ok, by decide +kernel⟩
  | 6, h => cases h; exact ⟨tyX6, tyX6_ok, by decide +kernel⟩
  | 7, h => cases h; exact ⟨tyX7, tyX7_ok, by decide +kernel⟩
  | 8, h => cases h; exact ⟨tyX8, tyX8_ok, by decide +kernel⟩
  | 9, h => cases h; exact ⟨tyX9, tyX9_ok, by decide +kernel⟩
  | 10, h => cases h; exact ⟨tyX10, tyX10_ok, by decide +kernel⟩
  | n + 11, h => simp [vwCl] at h
def z_nwB (own : String) (ix ci : Nat) : Bool := match vwCl[ci]? with
  | some q => decide (Cond.classLink own ix q.1 ∈ z_U) && decide (Cond.instantiable q.1 q.2.2 ∈ z_U) && decide (Cond.initialized q.1 ∈ z_U)
  | none => false
/-- where a new cell lies -/
theorem z_new_addr {g : zG} {S : zS} {M : zM} {H1 : Heap} {q : Nat} {e : va_E} (hP : va_P (gD g) vwCl (z_w g S M ++ [(q, e)]) H1) (hD : va_D (gA g) (z_w g S M ++ [(q, e)])) (hz : H1.size ≤ gB g + (S.1 + 1)) : q = gB g + S.1 := by
  have hlast : (z_w g S M ++ [(q, e)])[S.1]? = some (q, e) := by rw [List.getElem?_append_right (by rw [z_w_len]; exact Nat.le_refl _), z_w_len, Nat.sub_self]; rfl
  have h1 : q < H1.size := (hP _ _ hlast).lt
  have h2 : gB g ≤ q := hD.2 _ _ hlast
  rcases Nat.lt_or_ge (q - gB g) S.1 with h3 | h3
  · have h4 : (z_w g S M ++ [(q, e)])[q - gB g]? = some (gB g + (q - gB g), z_cell g S M (q - gB g)) := by rw [List.getElem?_append_left (by rw [z_w_len]; exact h3)]; exact z_w_at g S M h3
    have := hD.1 _ _ _ _ h4 hlast (by show gB g + (q - gB g) = q; omega)
    omega
  · omega
theorem z_P_init {D : va_G} {cl : List vw_C} {w1 w2 : va_W} {H : Heap} (h : va_P D cl (w1 ++ w2) H) : va_P D cl w1 H := fun k q hk => h k q (by rw [List.getElem?_append_left (List.getElem?_eq_some_iff.mp hk).1]; exact hk)
theorem z_outerG (c : ClassId) (N h0 : Nat) : ∀ i : Nat, Jvm.Free.Multi.outerC c N h0 i = arrV c N (fun j => va_rf (if j < i then some (h0 + 1 + j) else none))
  | 0 => by
    show ({ cls := c, slots := Array.replicate N .null, vm := .none } : Cell) = _
    rw [arrV_new]
    refine congrArg (arrV c N) (funext fun j => ?_)
    simp [va_rf]
  | i + 1 => by
    show (Jvm.Free.Multi.outerC c N h0 i).setSlot i (.ref (h0 + 1 + i)) = _
    rw [z_outerG c N h0 i, arrV_store]
    refine congrArg (arrV c N) (funext fun j => ?_)
    by_cases e : j = i
    · subst e
      simp [updV, va_rf]
    · by_cases h : j < i
      · simp [updV, e, h, Nat.lt_succ_of_lt h]
      · simp [updV, e, h, show ¬ j < i + 1 by omega]
theorem z_outer (c : ClassId) (N h0 : Nat) : Jvm.Free.Multi.outerC c N h0 N = arrV c N (fun j => va_rf (if j < N then some (h0 + 1 + j) else none)) := z_outerG c N h0 N
section AWN
variable {l : Launch} {g : zG} {own : String} {cc : ByteArray} {nL : Nat} {rt : Option FieldType} {ini : Bool} {d bc bs pc : Nat} {ls : List (Option Value)} {st : List Value} {S : zS} {M : zM} {Q : Option Value → zS → zM → Prop}
theorem AW.new (pc' bc' bs' : Nat) {ix ci : Nat} (hd : decode cc pc = .ok (.new ix, 3)) (hw : z_nwB own ix ci = true) (hbc : bc = bc' + 1) (hbs : bs = bs' + z_n ci) (hn : S.1 < 1000000) (hp : pc + 3 = pc') (kk : AW l g own cc nL rt ini d bc' bs' pc' ls (.ref S.1 :: st) (z_nw S ci 0) (z_nM S M) Q) : AW l g own cc nL rt ini d bc bs pc ls st S M Q := by
  subst hp; subst hbc; subst hbs
  intro p e R s m args below meth c H locs cells slots mc ms hx hb hr hml hown hlk hin hA h1 h2 h3 h4 h5 h6 h7 h8 h9 hP hS la hl
  unfold z_nwB at hw
  split at hw
  · rename_i q hq
    simp only [Bool.and_eq_true, decide_eq_true_eq] at hw
    obtain ⟨c1, -, -, c4, c5⟩ := z_cls ci q hq
    obtain ⟨ty0, d1, d2⟩ := z_def ci q hq
    refine va_new (c0 := c) (D := gD g) (cl := vwCl) (tys := z_tys g) (ws := z_w g S M) (A := gA g) (H0 := H) (ci := ci) (fs := (List.range (z_n ci)).map (fun j => if z_rf ci j then va_rf ((none : Option Nat).map (z_ad g)) else .int 0)) hx hb (hA.word (args := args)) c1 ty0 d1 hown (hA.word _ hw.1.1) (hA.word _ hw.1.2) (hA.word _ hw.2) hA.2.1 hP (z_w_D g S M) hS.self (fun q h => Nat.le_trans (Nat.le_trans (Nat.le_add_right _ _) h8) h) hq ?_ (by omega) (by rw [c4]; omega) hd (fun q0 H1 hP1 hD1 hS1 => ?_)
    · intro j hj
      rw [d2 j hj, vp_V, List.getD_eq_getElem?_getD]
      rw [c4] at hj
      simp [hj, va_rf]
    · intro T hT X
      have hz := X.heapSize
      rw [hT] at hz
      have hq0 := z_new_addr hP1 hD1 (by omega)
      subst hq0
      have hlast : (z_w g S M ++ [(gB g + S.1, Sum.inr (ci, (List.range (z_n ci)).map (fun j => if z_rf ci j then va_rf ((none : Option Nat).map (z_ad g)) else .int 0)))])[S.1]? = some (gB g + S.1, Sum.inr (ci, (List.range (z_n ci)).map (fun j => if z_rf ci j then va_rf ((none : Option Nat).map (z_ad g)) else .int 0))) := by rw [List.getElem?_append_right (by rw [z_w_len]; exact Nat.le_refl _), z_w_len, Nat.sub_self]; rfl
      have e2 : zc g (.ref S.1) = .ref (gB g + S.1) := by show Value.ref (z_ad g S.1) = _; rw [show z_ad g S.1 = gB g + S.1 from if_pos hn]
      rw [show (Value.ref (gB g + S.1) :: st.map (zc g)) = (Value.ref S.1 :: st).map (zc g) from by rw [List.map_cons, e2]]
      refine kk p e R s m args below meth c H1 locs (cells + 1) (slots + q.2.2) mc ms hx hb hr hml hown hlk hin hA h1 h2 (by omega) (by rw [c4]; omega) h5 h6 (by show _ = gB g + (S.1 + 1); omega) ?_ (by show S.1 + 1 ≤ 1000000; omega) (z_P_of (fun k hk => ?_)) (hS.tr hS1) la hl T hT ?_
      · have := (hP1 _ _ hlast).lt
        show gB g + (S.1 + 1) ≤ H1.size
        have h0 : gB g + S.1 < H1.size := this
        omega
      · by_cases hk2 : k < S.1
        · rw [z_cell_nw hk2]; exact z_P_at (z_P_init hP1) hk2
        · have hk3 : k = S.1 := by have : k < S.1 + 1 := hk; omega
          subst hk3
          have h0 := hP1 _ _ hlast
          have e0 : z_cell g (z_nw S ci 0) (z_nM S M) S.1 = Sum.inr (ci, (List.range (z_n ci)).map (fun j => if z_rf ci j then va_rf ((none : Option Nat).map (z_ad g)) else .int 0)) := by
            unfold z_cell z_nw z_nM
            simp only [va_up_self]
            rw [if_pos c5]
          rw [e0]; exact h0
      · show Stand p l e R s m args below meth c T locs (cells + 1) (slots + q.2.2)
        exact X
  · cases hw
theorem AW.newarr (pc' bc' bs' : Nat) {t N : Nat} {n : Int32} {at0 : ArrayType} (hd : decode cc pc = .ok (.newarray at0, 2)) (ht : (t = 11 ∧ at0 = .int) ∨ (t = 12 ∧ at0 = .boolean)) (hi : n = nI N) (hN : N < 100000) (hbc : bc = bc' + 1) (hbs : bs = bs' + N) (hn : S.1 < 1000000) (hp : pc + 2 = pc') (kk : AW l g own cc nL rt ini d bc' bs' pc' ls (.ref S.1 :: st) (z_nw S t N) (z_nM S M) Q) : AW l g own cc nL rt ini d bc bs pc ls (.int n :: st) S M Q := by
  subst hp; subst hbc; subst hbs; subst hi
  intro p e R s m args below meth c H locs cells slots mc ms hx hb hr hml hown hlk hin hA h1 h2 h3 h4 h5 h6 h7 h8 h9 hP hS la hl
  have cN : (nI N).toNatClampNeg = N := nI_clamp (by omega)
  have fin : ∀ (q : Nat) (cA : ClassId) (H1 : Heap), cA = gY g t → va_P (gD g) vwCl (z_w g S M ++ [(q, .inl (cA, N, .inl (fun _ => 0)))]) H1 → va_D (gA g) (z_w g S M ++ [(q, .inl (cA, N, .inl (fun _ => 0)))]) → va_S (gA g) H H1 locs →
      W p l e R s m args below meth c H1 locs (cells + 1) (slots + N) (MQ below (z_Q g mc Q) args s mc ms (gA g)) (F0 m (pc + 2) la (.ref q :: st.map (zc g))) := by
    intro q cA H1 hcA hP1 hD1 hS1 T hT X
    subst hcA
    have hz := X.heapSize
    rw [hT] at hz
    have hq0 := z_new_addr hP1 hD1 (by omega)
    subst hq0
    have hlast : (z_w g S M ++ [(gB g + S.1, Sum.inl (gY g t, N, Sum.inl (fun _ => 0)))])[S.1]? = some (gB g + S.1, Sum.inl (gY g t, N, Sum.inl (fun _ => 0))) := by rw [List.getElem?_append_right (by rw [z_w_len]; exact Nat.le_refl _), z_w_len, Nat.sub_self]; rfl
    have h0 := hP1 _ _ hlast
    have h01 : gB g + S.1 < H1.size := h0.lt
    have K := kk p e R s m args below meth c H1 locs (cells + 1) (slots + N) mc ms hx hb hr hml hown hlk hin hA h1 h2 (by omega) (by omega) h5 h6 (by show _ = gB g + (S.1 + 1); omega) (by show gB g + (S.1 + 1) ≤ H1.size; omega) (by show S.1 + 1 ≤ 1000000; omega) (z_P_of (fun k hk => by
      by_cases hk2 : k < S.1
      · rw [z_cell_nw hk2]; exact z_P_at (z_P_init hP1) hk2
      · have hk3 : k = S.1 := by have : k < S.1 + 1 := hk; omega
        subst hk3
        have e0 : z_cell g (z_nw S t N) (z_nM S M) S.1 = Sum.inl (gY g t, N, Sum.inl (fun _ => 0)) := by
          unfold z_cell z_nw z_nM
          simp only [va_up_self]
          rw [if_neg (by omega), if_pos (by omega)]
        rw [e0]; exact h0)) (hS.tr hS1) la hl
    have e1 : z_ad g S.1 = gB g + S.1 := if_pos hn
    have K2 := K T hT X
    rw [List.map_cons] at K2
    have e2 : zc g (.ref S.1) = .ref (gB g + S.1) := by show Value.ref (z_ad g S.1) = _; rw [e1]
    rw [e2] at K2
    exact K2
  rcases ht with ⟨rfl, rfl⟩ | ⟨rfl, rfl⟩
  · exact va_newa (D := gD g) (cl := vwCl) (tys := z_tys g) (ws := z_w g S M) (A := gA g) (H0 := H) (ty := .int) (a0 := (N, .inl (fun _ => 0))) hx hb (hA.word _ (by decide +kernel)) rfl hA.2.1 hP (z_w_D g S M) hS.self (fun q h => Nat.le_trans (Nat.le_trans (Nat.le_add_right _ _) h8) h) (fun _ => rfl) (nI_pos (by omega)) cN (by show N * 4 ≤ _; omega) (by omega) (by omega) hd (fun q cA H1 hK1 hP1 hD1 hS1 => fin q cA H1 (by
      have a1 := (hK1.2 6 (cA, .int) rfl).2
      have a2 := (hA.2.1.2 0 _ rfl).2
      exact Option.some.inj (a1.symm.trans a2)) hP1 hD1 hS1)
  · exact va_newa (D := gD g) (cl := vwCl) (tys := z_tys g) (ws := z_w g S M) (A := gA g) (H0 := H) (ty := .boolean) (a0 := (N, .inl (fun _ => 0))) hx hb (hA.word _ (by decide +kernel)) rfl hA.2.1 hP (z_w_D g S M) hS.self (fun q h => Nat.le_trans (Nat.le_trans (Nat.le_add_right _ _) h8) h) (fun _ => rfl) (nI_pos (by omega)) cN (by show N * 1 ≤ _; omega) (by omega) (by omega) hd (fun q cA H1 hK1 hP1 hD1 hS1 => fin q cA H1 (by
      have a1 := (hK1.2 6 (cA, .boolean) rfl).2
      have a2 := (hA.2.1.2 1 _ rfl).2
      exact Option.some.inj (a1.symm.trans a2)) hP1 hD1 hS1)
theorem AW.newref (pc' bc' bs' : Nat) {t N ix : Nat} {n : Int32} {C : String} (hd : decode cc pc = .ok (.anewarray ix, 3)) (ht : (t = 13 ∧ C = RX1) ∨ (t = 14 ∧ C = RX2) ∨ (t = 15 ∧ C = RX5)) (hw : Cond.classLink own ix C ∈ z_U) (hi : n = nI N) (hN : N < 100000) (hbc : bc = bc' + 1) (hbs : bs = bs' + N) (hn : S.1 < 1000000) (hp : pc + 3 = pc') (kk : AW l g own cc nL rt ini d bc' bs' pc' ls (.ref S.1 :: st) (z_nw S t N) (z_nM S M) Q) : AW l g own cc nL rt ini d bc bs pc ls (.int n :: st) S M Q := by
  subst hp; subst hbc; subst hbs; subst hi
  intro p e R s m args below meth c H locs cells slots mc ms hx hb hr hml hown hlk hin hA h1 h2 h3 h4 h5 h6 h7 h8 h9 hP hS la hl
  have cN : (nI N).toNatClampNeg = N := nI_clamp (by omega)
  have hao : va_AO C s := hA.2.2.2.2.2.1 C (by rcases ht with ⟨-, rfl⟩ | ⟨-, rfl⟩ | ⟨-, rfl⟩ <;> decide +kernel)
  refine va_newq (D := gD g) (cl := vwCl) (tys := z_tys g) (ws := z_w g S M) (A := gA g) (H0 := H) hx hb hown (hA.word _ hw) hao hA.2.1 hP (z_w_D g S M) hS.self (fun q h => Nat.le_trans (Nat.le_trans (Nat.le_add_right _ _) h8) h) (nI_pos (by omega)) cN (by omega) (by omega) (by omega) hd (fun q cA H1 hK1 hP1 hD1 hS1 => ?_)
  have hcA : cA = gY g t := by
    obtain ⟨_, _, _, _, _, a1⟩ := (hK1.2 6 (cA, .object C) rfl).2
    rcases ht with ⟨rfl, rfl⟩ | ⟨rfl, rfl⟩ | ⟨rfl, rfl⟩
    · obtain ⟨_, _, _, _, _, a2⟩ := (hA.2.1.2 2 _ rfl).2
      exact Option.some.inj (a1.symm.trans a2)
    · obtain ⟨_, _, _, _, _, a2⟩ := (hA.2.1.2 3 _ rfl).2
      exact Option.some.inj (a1.symm.trans a2)
    · obtain ⟨_, _, _, _, _, a2⟩ := (hA.2.1.2 4 _ rfl).2
      exact Option.some.inj (a1.symm.trans a2)
  subst hcA
  intro T hT X
  have hz := X.heapSize
  rw [hT] at hz
  have hq0 := z_new_addr hP1 hD1 (by omega)
  subst hq0
  have hlast : (z_w g S M ++ [(gB g + S.1, Sum.inl (gY g t, N, Sum.inr (Sum.inr (Sum.inr (Sum.inr (fun _ => none))))))])[S.1]? = some (gB g + S.1, Sum.inl (gY g t, N, Sum.inr (Sum.inr (Sum.inr (Sum.inr (fun _ => none)))))) := by rw [List.getElem?_append_right (by rw [z_w_len]; exact Nat.le_refl _), z_w_len, Nat.sub_self]; rfl
  have h0 := hP1 _ _ hlast
  have h01 : gB g + S.1 < H1.size := h0.lt
  have e2 : zc g (.ref S.1) = .ref (gB g + S.1) := by show Value.ref (z_ad g S.1) = _; rw [show z_ad g S.1 = gB g + S.1 from if_pos hn]
  rw [show (Value.ref (gB g + S.1) :: st.map (zc g)) = (Value.ref S.1 :: st).map (zc g) from by rw [List.map_cons, e2]]
  refine kk p e R s m args below meth c H1 locs (cells + 1) (slots + N) mc ms hx hb hr hml hown hlk hin hA h1 h2 (by omega) (by omega) h5 h6 (by show _ = gB g + (S.1 + 1); omega) (by show gB g + (S.1 + 1) ≤ H1.size; omega) (by show S.1 + 1 ≤ 1000000; omega) (z_P_of (fun k hk => ?_)) (hS.tr hS1) la hl T hT X
  by_cases hk2 : k < S.1
  · rw [z_cell_nw hk2]; exact z_P_at (z_P_init hP1) hk2
  · have hk3 : k = S.1 := by have : k < S.1 + 1 := hk; omega
    subst hk3
    have e0 : z_cell g (z_nw S t N) (z_nM S M) S.1 = Sum.inl (gY g t, N, Sum.inr (Sum.inr (Sum.inr (Sum.inr (fun _ => none))))) := by
      unfold z_cell z_nw z_nM
      simp only [va_up_self]
      rw [if_neg (by omega), if_neg (by omega)]
      rfl
    rw [e0]; exact h0
theorem AW.mna (pc' bc' bs' : Nat) {N L ix : Nat} {n k : Int32} (hd : decode cc pc = .ok (.multianewarray ix 2, 4)) (hw : Cond.classLink own ix ("[" ++ (FieldType.array .int).toString) ∈ z_U) (hi : n = nI N) (hk : k = nI L) (hN : N < 10000) (hL : L < 10000) (hbc : bc = bc' + (1 + N)) (hbs : bs = bs' + (N + N * L)) (hn : S.1 < 900000) (hp : pc + 4 = pc') (kk : AW l g own cc nL rt ini d bc' bs' pc' ls (.ref S.1 :: st) (z_mS S N L) (z_mM S M N) Q) : AW l g own cc nL rt ini d bc bs pc ls (.int k :: .int n :: st) S M Q := by
  subst hp; subst hbc; subst hbs; subst hi; subst hk
  intro p e R s m args below meth c H locs cells slots mc ms hx hb hr hml hown hlk hin hA h1 h2 h3 h4 h5 h6 h7 h8 h9 hP hS la hl
  refine z_size h7 h8 (fun h80 => ?_)
  intro T hT X
  have cN : (nI N).toNatClampNeg = N := nI_clamp (by omega)
  have cL : (nI L).toNatClampNeg = L := nI_clamp (by omega)
  obtain ⟨vm₁, cA, comp, -, fA, fC, hO, -, X', step⟩ := X.multianewarray2F hx hown (hA.word _ hw) (show (Cond.arrayOver (.array .int)).before args s = true from hA.2.2.2.2.2.2) (hA.word (Cond.arrayClass .int) (by decide +kernel)) (g := F0 m pc la (.int (nI L) :: .int (nI N) :: st.map (zc g))) rfl (by rw [hb]; exact hd) rfl (nI_pos (by omega)) (nI_pos (by omega)) (by rw [cN]; omega) (by rw [cL]; show L * 4 ≤ _; omega) (by rw [cL]; omega) rfl rfl (by rw [cN]; omega) (by rw [cN, cL]; omega)
  rw [cN, cL] at X' step
  have hcA : cA = gY g 16 := by
    have a2 := (hA.2.1.2 5 _ rfl).2
    exact Option.some.inj (fA.symm.trans a2)
  have hcI : comp = gY g 11 := by
    have a2 := (hA.2.1.2 0 _ rfl).2
    exact Option.some.inj (fC.symm.trans a2)
  subst hcA; subst hcI
  generalize hF : Jvm.Free.Multi.fill (T.setVm vm₁) (gY g 16) (gY g 11) N L (defaultValue .int) N = F at X' step
  have hTh : (T.setVm vm₁).heap = H := hT
  obtain ⟨f1, f2, -, -⟩ := Jvm.Free.Multi.fill_facts (T.setVm vm₁) (gY g 16) (gY g 11) N L (defaultValue .int) N
  rw [hF, hTh] at f1 f2
  have hold : ∀ x : Nat, x < H.size → F.heap[x]? = H[x]? := fun x hx => by
    have := Jvm.Free.Multi.fill_old (T.setVm vm₁) (gY g 16) (gY g 11) N L (defaultValue .int) (a := x) (by rw [hTh]; exact hx) N
    rw [hF, hTh] at this
    exact this
  have hrow : ∀ j : Nat, j < N → F.heap[H.size + 1 + j]? = some (Jvm.Free.Multi.innerC (gY g 11) L (defaultValue .int)) := fun j hj => by
    have := Jvm.Free.Multi.fill_inner (T.setVm vm₁) (gY g 16) (gY g 11) N L (defaultValue .int) N j hj
    rw [hF, hTh] at this
    exact this
  have hS1 : va_S (gA g) H F.heap locs := ⟨by rw [f1]; omega, fun q q1 _ => hold q q1, hS.2.2⟩
  have e2 : zc g (.ref S.1) = .ref (gB g + S.1) := by show Value.ref (z_ad g S.1) = _; rw [show z_ad g S.1 = gB g + S.1 from if_pos (by omega)]
  obtain ⟨t2, a1, b1⟩ := kk p e R s m args below meth c F.heap locs (cells + 1 + N) (slots + N + N * L) mc ms hx hb hr hml hown hlk hin hA h1 h2 (by omega) (by omega) h5 h6 (by show _ = gB g + (S.1 + 1 + N); omega) (by show gB g + (S.1 + 1 + N) ≤ F.heap.size; rw [f1]; omega) (by show S.1 + 1 + N ≤ 1000000; omega) (z_P_of (fun k hk => by
    have hk0 : k < S.1 + 1 + N := hk
    by_cases hk2 : k < S.1
    · rw [z_cell_m hk2]
      exact (z_P_at hP hk2).kept (hold _ (by show gB g + k < H.size; omega))
    · by_cases hk3 : k = S.1
      · subst hk3
        have e0 : z_cell g (z_mS S N L) (z_mM S M N) S.1 = Sum.inl (gY g 16, N, Sum.inr (Sum.inr (Sum.inr (Sum.inr (fun j => (if j < N then some (S.1 + 1 + j) else none).map (z_ad g)))))) := by
          unfold z_cell z_mS
          simp
        rw [e0]
        show F.heap[gB g + S.1]? = some (vp_cell _ _)
        rw [h80, f2, vp_cell_q, z_outer]
        congr 2
        funext j
        by_cases hj : j < N
        · rw [if_pos hj, if_pos hj]
          show Value.ref _ = Value.ref (z_ad g (S.1 + 1 + j))
          rw [show z_ad g (S.1 + 1 + j) = gB g + (S.1 + 1 + j) from if_pos (by omega)]
          rw [← h80]
          exact congrArg Value.ref (show gB g + S.1 + 1 + j = gB g + (S.1 + 1 + j) by omega)
        · rw [if_neg hj, if_neg hj]; rfl
      · have e0 : z_cell g (z_mS S N L) (z_mM S M N) k = Sum.inl (gY g 11, L, Sum.inl (fun _ => 0)) := by
          have q1 : S.1 < k ∧ k < S.1 + 1 + N := by omega
          unfold z_cell z_mS z_mM
          simp only [if_neg hk3, if_pos q1]
          rw [if_neg (by decide), if_pos (by decide)]
        rw [e0]
        show F.heap[gB g + k]? = some (vp_cell _ _)
        rw [show gB g + k = H.size + 1 + (k - S.1 - 1) by omega, hrow _ (by omega), vp_cell_i]
        show some ({ cls := gY g 11, slots := Array.replicate L (Value.int 0), vm := .none } : Cell) = _
        rw [arrV_new])) (hS.tr hS1) la hl F rfl X'
  refine ⟨t2, step t2 ?_, b1⟩
  have e3 : T.heap.size = gB g + S.1 := by rw [hT]; exact h80.symm
  rw [e3]
  rw [List.map_cons, e2] at a1
  exact a1
end AWN
end
section
theorem z_U_ix {i : Nat} {w : Cond} (h : lw_tbl[i]? = some w) (hg : z_good w = true) : w ∈ z_U := z_U_of (List.mem_of_getElem? h) hg
theorem z_fl_of (i : Nat) {own : String} {ix ci j : Nat} {q : vw_C} (hq : vwCl[ci]? = some q) (hj : Nat.blt j q.2.2 = true) (hi : lw_tbl[i]? = some (Cond.fieldLink own ix (q.2.1 j).1 (q.2.1 j).2.1 (q.2.1 j).2.2.1)) : z_flB own ix ci j = true := by
  unfold z_flB
  rw [hq]
  simp only [hj, Bool.true_and, decide_eq_true_eq]
  exact z_U_ix hi rfl
theorem z_fp_of {own : String} {ix ci j : Nat} {q : vw_C} {fin : Bool} {ty : FieldType} (hf : z_flB own ix ci j = true) (hq : vwCl[ci]? = some q) (h : ((q.2.1 j).2.2.2 == fin && decide (parseFieldDescriptor (q.2.1 j).2.2.1 = some ty) && (!fin || (q.2.1 j).1 == own)) = true) : z_fpB own ix ci j fin ty = true := by
  unfold z_fpB
  rw [hf, hq]
  exact h
theorem z_good_g {w : Cond} (h : goodWord w = true) : z_good w = true := by unfold z_good; rw [h]; rfl
theorem z_all_of {ws : List Cond} (is : List Nat) (h : is.map (fun i => lw_tbl[i]?) = ws.map some) (hg : ws.all goodWord = true) : ws.all (fun w => decide (w ∈ z_U) && goodWord w) = true := by
  refine List.all_eq_true.mpr (fun w hw => ?_)
  have h1 := List.all_eq_true.mp hg w hw
  have h2 : some w ∈ is.map (fun i => lw_tbl[i]?) := by rw [h]; exact List.mem_map.mpr ⟨w, hw, rfl⟩
  obtain ⟨i, -, hi⟩ := List.mem_map.mp h2
  simp only [h1, Bool.and_true, decide_eq_true_eq]
  exact z_U_ix hi (z_good_g h1)
theorem z_cv_of (is : List Nat) {own : String} {ix ci : Nat} {y : MethodName} {c2 : ByteArray} {n2 : Nat} {r2 : Option FieldType} {n : Nat} {q : vw_C} (hq : vwCl[ci]? = some q) (h : is.map (fun i => lw_tbl[i]?) = (wsV own ix q.1 y [Cond.code y c2 n2 r2]).map some) (hd : y.cls = q.1 ∧ y.cls ≠ "java/lang/invoke/MethodHandle" ∧ y.cls ≠ "java/lang/invoke/VarHandle" ∧ (parseMethodDescriptor y.desc).map (fun d => d.parameters.length) = some n) (hn : Nat.ble n2 21 = true) : z_cvB own ix ci y c2 n2 r2 n = true := by
  unfold z_cvB
  rw [hq]
  dsimp only
  rw [z_all_of is h rfl, decide_eq_true hd, hn]; rfl
theorem z_cs_of (is : List Nat) {own : String} {ix : Nat} {y : MethodName} {c2 : ByteArray} {n2 : Nat} {r2 : Option FieldType} {n : Nat} (h : is.map (fun i => lw_tbl[i]?) = (va_wsS own ix y [Cond.code y c2 n2 r2]).map some) (hd : y.cls ≠ "java/lang/invoke/MethodHandle" ∧ y.cls ≠ "java/lang/invoke/VarHandle" ∧ (parseMethodDescriptor y.desc).map (fun d => d.parameters.length) = some n) (hn : Nat.ble n2 21 = true) : z_csB own ix y c2 n2 r2 n = true := by
  unfold z_csB
  rw [z_all_of is h rfl, decide_eq_true hd, hn]; rfl
theorem z_csN_of (i0 i1 i2 i3 : Nat) {own : String} {ix : Nat} {y : MethodName} {c2 : ByteArray} {n2 : Nat} {r2 : Option FieldType} {n : Nat} (h0 : [i0].map (fun i => lw_tbl[i]?) = [Cond.code y c2 n2 r2].map some) (h1 : lw_tbl[i1]? = some (Cond.methodLinkNest own ix y "MachineBench")) (h2 : lw_tbl[i2]? = some (Cond.initialized y.cls)) (h3 : lw_tbl[i3]? = some (Cond.static y)) (hd : y.cls ≠ "java/lang/invoke/MethodHandle" ∧ y.cls ≠ "java/lang/invoke/VarHandle" ∧ (parseMethodDescriptor y.desc).map (fun d => d.parameters.length) = some n) (hn : Nat.ble n2 21 = true) : z_csNB own ix y c2 n2 r2 n = true := by
  unfold z_csNB
  rw [z_all_of [i0] h0 rfl, decide_eq_true (z_U_ix h1 rfl), decide_eq_true (z_U_ix h2 rfl), decide_eq_true (z_U_ix h3 rfl), decide_eq_true hd, hn]; rfl
theorem z_ci_of (i0 i1 i2 i3 : Nat) {own : String} {ix : Nat} {y : MethodName} {c2 : ByteArray} {n2 : Nat} {n : Nat} (h0 : [i0].map (fun i => lw_tbl[i]?) = [Cond.code y c2 n2 none].map some) (h1 : lw_tbl[i1]? = some (Cond.methodLink own ix y)) (h2 : lw_tbl[i2]? = some (Cond.initialized y.cls)) (h3 : lw_tbl[i3]? = some (Cond.instanceMethod y)) (hy : y.name = "<init>") (hd : y.cls ≠ "java/lang/invoke/MethodHandle" ∧ y.cls ≠ "java/lang/invoke/VarHandle" ∧ (parseMethodDescriptor y.desc).map (fun d => d.parameters.length) = some n) (hn : Nat.ble n2 21 = true) : z_ciB own ix y c2 n2 n = true := by
  unfold z_ciB
  rw [z_all_of [i0] h0 rfl, decide_eq_true (z_U_ix h1 rfl), decide_eq_true (z_U_ix h2 rfl), decide_eq_true (z_U_ix h3 rfl), decide_eq_true hy, decide_eq_true hd, hn]; rfl
theorem z_ciN_of (i0 i1 i2 i3 : Nat) {own : String} {ix : Nat} {y : MethodName} {c2 : ByteArray} {n2 : Nat} {n : Nat} (h0 : [i0].map (fun i => lw_tbl[i]?) = [Cond.code y c2 n2 none].map some) (h1 : lw_tbl[i1]? = some (Cond.methodLinkNest own ix y "MachineBench")) (h2 : lw_tbl[i2]? = some (Cond.initialized y.cls)) (h3 : lw_tbl[i3]? = some (Cond.instanceMethod y)) (hy : y.name = "<init>") (hd : y.cls ≠ "java/lang/invoke/MethodHandle" ∧ y.cls ≠ "java/lang/invoke/VarHandle" ∧ (parseMethodDescriptor y.desc).map (fun d => d.parameters.length) = some n) (hn : Nat.ble n2 21 = true) : z_ciNB own ix y c2 n2 n = true := by
  unfold z_ciNB
  rw [z_all_of [i0] h0 rfl, decide_eq_true (z_U_ix h1 rfl), decide_eq_true (z_U_ix h2 rfl), decide_eq_true (z_U_ix h3 rfl), decide_eq_true hy, decide_eq_true hd, hn]; rfl
end
section
def R_law : String := "MachineBenchLaw"
theorem fX6_9 : z_flB RX6 9 6 0 = true := z_fl_of 82 rfl rfl (by decide +kernel)
theorem pX6_9 : z_fpB RX6 9 6 0 true (.array .int) = true := z_fp_of fX6_9 rfl (by decide +kernel)
theorem fX4_118 : z_flB RX4 118 6 0 = true := z_fl_of 83 rfl rfl (by decide +kernel)
theorem fX6_15 : z_flB RX6 15 6 1 = true := z_fl_of 84 rfl rfl (by decide +kernel)
theorem pX6_15 : z_fpB RX6 15 6 1 false .int = true := z_fp_of fX6_15 rfl (by decide +kernel)
theorem fX9_104 : z_flB RX9 104 6 1 = true := z_fl_of 85 rfl rfl (by decide +kernel)
theorem pX9_104 : z_fpB RX9 104 6 1 false .int = true := z_fp_of fX9_104 rfl (by decide +kernel)
theorem fX4_115 : z_flB RX4 115 6 1 = true := z_fl_of 86 rfl rfl (by decide +kernel)
theorem pX4_115 : z_fpB RX4 115 6 1 false .int = true := z_fp_of fX4_115 rfl (by decide +kernel)
theorem fX4_34 : z_flB RX4 34 4 0 = true := z_fl_of 101 rfl rfl (by decide +kernel)
theorem pX4_34 : z_fpB RX4 34 4 0 true (.object "MachineBench$Tape") = true := z_fp_of fX4_34 rfl (by decide +kernel)
theorem fX4_11 : z_flB RX4 11 4 1 = true := z_fl_of 102 rfl rfl (by decide +kernel)
theorem pX4_11 : z_fpB RX4 11 4 1 true (.array (.array .int)) = true := z_fp_of fX4_11 rfl (by decide +kernel)
theorem fX4_16 : z_flB RX4 16 4 2 = true := z_fl_of 103 rfl rfl (by decide +kernel)
theorem pX4_16 : z_fpB RX4 16 4 2 true (.array (.array .int)) = true := z_fp_of fX4_16 rfl (by decide +kernel)
theorem fX4_19 : z_flB RX4 19 4 3 = true := z_fl_of 104 rfl rfl (by decide +kernel)
theorem pX4_19 : z_fpB RX4 19 4 3 true (.array .int) = true := z_fp_of fX4_19 rfl (by decide +kernel)
theorem fX4_23 : z_flB RX4 23 4 4 = true := z_fl_of 105 rfl rfl (by decide +kernel)
theorem pX4_23 : z_fpB RX4 23 4 4 false .boolean = true := z_fp_of fX4_23 rfl (by decide +kernel)
theorem fX4_27 : z_flB RX4 27 4 5 = true := z_fl_of 106 rfl rfl (by decide +kernel)
theorem pX4_27 : z_fpB RX4 27 4 5 false .boolean = true := z_fp_of fX4_27 rfl (by decide +kernel)
theorem fX4_30 : z_flB RX4 30 4 6 = true := z_fl_of 107 rfl rfl (by decide +kernel)
theorem pX4_30 : z_fpB RX4 30 4 6 false .int = true := z_fp_of fX4_30 rfl (by decide +kernel)
theorem fX2_9 : z_flB RX2 9 2 0 = true := z_fl_of 131 rfl rfl (by decide +kernel)
theorem pX2_9 : z_fpB RX2 9 2 0 true (.array .int) = true := z_fp_of fX2_9 rfl (by decide +kernel)
theorem fX9_124 : z_flB RX9 124 2 0 = true := z_fl_of 132 rfl rfl (by decide +kernel)
theorem fX4_68 : z_flB RX4 68 2 0 = true := z_fl_of 133 rfl rfl (by decide +kernel)
theorem fX2_15 : z_flB RX2 15 2 1 = true := z_fl_of 134 rfl rfl (by decide +kernel)
theorem pX2_15 : z_fpB RX2 15 2 1 true (.array .int) = true := z_fp_of fX2_15 rfl (by decide +kernel)
theorem fX9_127 : z_flB RX9 127 2 1 = true := z_fl_of 135 rfl rfl (by decide +kernel)
theorem fX4_82 : z_flB RX4 82 2 1 = true := z_fl_of 136 rfl rfl (by decide +kernel)
theorem fX2_18 : z_flB RX2 18 2 2 = true := z_fl_of 137 rfl rfl (by decide +kernel)
theorem pX2_18 : z_fpB RX2 18 2 2 true (.array .int) = true := z_fp_of fX2_18 rfl (by decide +kernel)
theorem fX9_130 : z_flB RX9 130 2 2 = true := z_fl_of 138 rfl rfl (by decide +kernel)
theorem fX4_85 : z_flB RX4 85 2 2 = true := z_fl_of 139 rfl rfl (by decide +kernel)
theorem fX2_23 : z_flB RX2 23 2 3 = true := z_fl_of 140 rfl rfl (by decide +kernel)
theorem pX2_23 : z_fpB RX2 23 2 3 true (.array (.array .int)) = true := z_fp_of fX2_23 rfl (by decide +kernel)
theorem fX4_75 : z_flB RX4 75 2 3 = true := z_fl_of 141 rfl rfl (by decide +kernel)
theorem fX2_26 : z_flB RX2 26 2 4 = true := z_fl_of 142 rfl rfl (by decide +kernel)
theorem pX2_26 : z_fpB RX2 26 2 4 false .int = true := z_fp_of fX2_26 rfl (by decide +kernel)
theorem fX4_42 : z_flB RX4 42 2 4 = true := z_fl_of 143 rfl rfl (by decide +kernel)
theorem pX4_42 : z_fpB RX4 42 2 4 false .int = true := z_fp_of fX4_42 rfl (by decide +kernel)
theorem fX9_119 : z_flB RX9 119 2 4 = true := z_fl_of 144 rfl rfl (by decide +kernel)
theorem pX9_119 : z_fpB RX9 119 2 4 false .int = true := z_fp_of fX9_119 rfl (by decide +kernel)
theorem fX8_11 : z_flB RX8 11 8 0 = true := z_fl_of 166 rfl rfl (by decide +kernel)
theorem pX8_11 : z_fpB RX8 11 8 0 true (.array (.array .int)) = true := z_fp_of fX8_11 rfl (by decide +kernel)
theorem fX3_27 : z_flB RX3 27 8 0 = true := z_fl_of 167 rfl rfl (by decide +kernel)
theorem fX9_140 : z_flB RX9 140 8 0 = true := z_fl_of 168 rfl rfl (by decide +kernel)
theorem fX8_16 : z_flB RX8 16 8 1 = true := z_fl_of 169 rfl rfl (by decide +kernel)
theorem pX8_16 : z_fpB RX8 16 8 1 false .int = true := z_fp_of fX8_16 rfl (by decide +kernel)
theorem fX9_133 : z_flB RX9 133 8 1 = true := z_fl_of 170 rfl rfl (by decide +kernel)
theorem pX9_133 : z_fpB RX9 133 8 1 false .int = true := z_fp_of fX9_133 rfl (by decide +kernel)
theorem fX3_9 : z_flB RX3 9 3 0 = true := z_fl_of 182 rfl rfl (by decide +kernel)
theorem pX3_9 : z_fpB RX3 9 3 0 true (.array .int) = true := z_fp_of fX3_9 rfl (by decide +kernel)
theorem fX7_25 : z_flB RX7 25 3 0 = true := z_fl_of 183 rfl rfl (by decide +kernel)
theorem fX9_174 : z_flB RX9 174 3 0 = true := z_fl_of 184 rfl rfl (by decide +kernel)
theorem fX3_15 : z_flB RX3 15 3 1 = true := z_fl_of 185 rfl rfl (by decide +kernel)
theorem pX3_15 : z_fpB RX3 15 3 1 true (.array .int) = true := z_fp_of fX3_15 rfl (by decide +kernel)
theorem fX7_30 : z_flB RX7 30 3 1 = true := z_fl_of 186 rfl rfl (by decide +kernel)
theorem fX9_180 : z_flB RX9 180 3 1 = true := z_fl_of 187 rfl rfl (by decide +kernel)
theorem fX3_18 : z_flB RX3 18 3 2 = true := z_fl_of 188 rfl rfl (by decide +kernel)
theorem pX3_18 : z_fpB RX3 18 3 2 true (.array .int) = true := z_fp_of fX3_18 rfl (by decide +kernel)
theorem fX9_163 : z_flB RX9 163 3 2 = true := z_fl_of 189 rfl rfl (by decide +kernel)
theorem fX3_21 : z_flB RX3 21 3 3 = true := z_fl_of 190 rfl rfl (by decide +kernel)
theorem pX3_21 : z_fpB RX3 21 3 3 true (.array .int) = true := z_fp_of fX3_21 rfl (by decide +kernel)
theorem fX9_166 : z_flB RX9 166 3 3 = true := z_fl_of 191 rfl rfl (by decide +kernel)
theorem fX3_24 : z_flB RX3 24 3 4 = true := z_fl_of 192 rfl rfl (by decide +kernel)
theorem pX3_24 : z_fpB RX3 24 3 4 true (.array .int) = true := z_fp_of fX3_24 rfl (by decide +kernel)
theorem fX9_169 : z_flB RX9 169 3 4 = true := z_fl_of 193 rfl rfl (by decide +kernel)
theorem fX0_11 : z_flB RX0 11 0 0 = true := z_fl_of 212 rfl rfl (by decide +kernel)
theorem pX0_11 : z_fpB RX0 11 0 0 true (.array (.array .int)) = true := z_fp_of fX0_11 rfl (by decide +kernel)
theorem fX1_22 : z_flB RX1 22 0 0 = true := z_fl_of 213 rfl rfl (by decide +kernel)
theorem fX9_198 : z_flB RX9 198 0 0 = true := z_fl_of 214 rfl rfl (by decide +kernel)
theorem fX0_16 : z_flB RX0 16 0 1 = true := z_fl_of 215 rfl rfl (by decide +kernel)
theorem pX0_16 : z_fpB RX0 16 0 1 false .int = true := z_fp_of fX0_16 rfl (by decide +kernel)
theorem fX1_19 : z_flB RX1 19 0 1 = true := z_fl_of 216 rfl rfl (by decide +kernel)
theorem pX1_19 : z_fpB RX1 19 0 1 false .int = true := z_fp_of fX1_19 rfl (by decide +kernel)
theorem fX9_173 : z_flB RX9 173 0 1 = true := z_fl_of 217 rfl rfl (by decide +kernel)
theorem pX9_173 : z_fpB RX9 173 0 1 false .int = true := z_fp_of fX9_173 rfl (by decide +kernel)
theorem fX1_9 : z_flB RX1 9 1 0 = true := z_fl_of 230 rfl rfl (by decide +kernel)
theorem pX1_9 : z_fpB RX1 9 1 0 true (.array .int) = true := z_fp_of fX1_9 rfl (by decide +kernel)
theorem fX9_226 : z_flB RX9 226 1 0 = true := z_fl_of 231 rfl rfl (by decide +kernel)
theorem fX1_15 : z_flB RX1 15 1 1 = true := z_fl_of 232 rfl rfl (by decide +kernel)
theorem pX1_15 : z_fpB RX1 15 1 1 false .int = true := z_fp_of fX1_15 rfl (by decide +kernel)
theorem fX9_225 : z_flB RX9 225 1 1 = true := z_fl_of 233 rfl rfl (by decide +kernel)
theorem pX9_225 : z_fpB RX9 225 1 1 false .int = true := z_fp_of fX9_225 rfl (by decide +kernel)
theorem fX7_9 : z_flB RX7 9 7 0 = true := z_fl_of 245 rfl rfl (by decide +kernel)
theorem pX7_9 : z_fpB RX7 9 7 0 true (.array .int) = true := z_fp_of fX7_9 rfl (by decide +kernel)
theorem fX7_15 : z_flB RX7 15 7 1 = true := z_fl_of 246 rfl rfl (by decide +kernel)
theorem pX7_15 : z_fpB RX7 15 7 1 true (.array .int) = true := z_fp_of fX7_15 rfl (by decide +kernel)
theorem fX7_18 : z_flB RX7 18 7 2 = true := z_fl_of 247 rfl rfl (by decide +kernel)
theorem pX7_18 : z_fpB RX7 18 7 2 true (.array .int) = true := z_fp_of fX7_18 rfl (by decide +kernel)
theorem fX7_21 : z_flB RX7 21 7 3 = true := z_fl_of 248 rfl rfl (by decide +kernel)
theorem pX7_21 : z_fpB RX7 21 7 3 false .int = true := z_fp_of fX7_21 rfl (by decide +kernel)
theorem fX9_247 : z_flB RX9 247 7 3 = true := z_fl_of 249 rfl rfl (by decide +kernel)
theorem pX9_247 : z_fpB RX9 247 7 3 false .int = true := z_fp_of fX9_247 rfl (by decide +kernel)
theorem fX5_9 : z_flB RX5 9 5 0 = true := z_fl_of 266 rfl rfl (by decide +kernel)
theorem pX5_9 : z_fpB RX5 9 5 0 true (.array .int) = true := z_fp_of fX5_9 rfl (by decide +kernel)
theorem fX9_151 : z_flB RX9 151 5 0 = true := z_fl_of 267 rfl rfl (by decide +kernel)
theorem fX5_15 : z_flB RX5 15 5 1 = true := z_fl_of 268 rfl rfl (by decide +kernel)
theorem pX5_15 : z_fpB RX5 15 5 1 false .int = true := z_fp_of fX5_15 rfl (by decide +kernel)
theorem fX9_303 : z_flB RX9 303 5 1 = true := z_fl_of 269 rfl rfl (by decide +kernel)
theorem pX9_303 : z_fpB RX9 303 5 1 false .int = true := z_fp_of fX9_303 rfl (by decide +kernel)
theorem fX5_19 : z_flB RX5 19 5 2 = true := z_fl_of 270 rfl rfl (by decide +kernel)
theorem pX5_19 : z_fpB RX5 19 5 2 false .int = true := z_fp_of fX5_19 rfl (by decide +kernel)
theorem fX9_306 : z_flB RX9 306 5 2 = true := z_fl_of 271 rfl rfl (by decide +kernel)
theorem pX9_306 : z_fpB RX9 306 5 2 false .int = true := z_fp_of fX9_306 rfl (by decide +kernel)
theorem fX9_10 : z_flB RX9 10 9 0 = true := z_fl_of 280 rfl rfl (by decide +kernel)
theorem pX9_10 : z_fpB RX9 10 9 0 true (.object "MachineBench$Tape") = true := z_fp_of fX9_10 rfl (by decide +kernel)
theorem fX9_21 : z_flB RX9 21 9 1 = true := z_fl_of 281 rfl rfl (by decide +kernel)
theorem pX9_21 : z_fpB RX9 21 9 1 true (.object "MachineBench$Reader") = true := z_fp_of fX9_21 rfl (by decide +kernel)
theorem fX9_28 : z_flB RX9 28 9 2 = true := z_fl_of 282 rfl rfl (by decide +kernel)
theorem pX9_28 : z_fpB RX9 28 9 2 true (.array (.object "MachineBench$Machine")) = true := z_fp_of fX9_28 rfl (by decide +kernel)
theorem fX9_32 : z_flB RX9 32 9 3 = true := z_fl_of 283 rfl rfl (by decide +kernel)
theorem pX9_32 : z_fpB RX9 32 9 3 false (.object "MachineBench$Machine") = true := z_fp_of fX9_32 rfl (by decide +kernel)
theorem fX9_39 : z_flB RX9 39 9 4 = true := z_fl_of 284 rfl rfl (by decide +kernel)
theorem pX9_39 : z_fpB RX9 39 9 4 true (.object "MachineBench$World") = true := z_fp_of fX9_39 rfl (by decide +kernel)
theorem fX9_46 : z_flB RX9 46 9 5 = true := z_fl_of 285 rfl rfl (by decide +kernel)
theorem pX9_46 : z_fpB RX9 46 9 5 true (.object "MachineBench$Play") = true := z_fp_of fX9_46 rfl (by decide +kernel)
theorem fX9_53 : z_flB RX9 53 9 6 = true := z_fl_of 286 rfl rfl (by decide +kernel)
theorem pX9_53 : z_fpB RX9 53 9 6 true (.object "MachineBench$Book") = true := z_fp_of fX9_53 rfl (by decide +kernel)
theorem fX9_60 : z_flB RX9 60 9 7 = true := z_fl_of 287 rfl rfl (by decide +kernel)
theorem pX9_60 : z_fpB RX9 60 9 7 true (.array (.object "MachineBench$Keeper")) = true := z_fp_of fX9_60 rfl (by decide +kernel)
theorem fX9_67 : z_flB RX9 67 9 8 = true := z_fl_of 288 rfl rfl (by decide +kernel)
theorem pX9_67 : z_fpB RX9 67 9 8 true (.object "MachineBench$Things") = true := z_fp_of fX9_67 rfl (by decide +kernel)
theorem fX9_71 : z_flB RX9 71 9 9 = true := z_fl_of 289 rfl rfl (by decide +kernel)
theorem pX9_71 : z_fpB RX9 71 9 9 true (.array .boolean) = true := z_fp_of fX9_71 rfl (by decide +kernel)
theorem fX9_75 : z_flB RX9 75 9 10 = true := z_fl_of 290 rfl rfl (by decide +kernel)
theorem pX9_75 : z_fpB RX9 75 9 10 true (.array .int) = true := z_fp_of fX9_75 rfl (by decide +kernel)
theorem fX9_79 : z_flB RX9 79 9 11 = true := z_fl_of 291 rfl rfl (by decide +kernel)
theorem pX9_79 : z_fpB RX9 79 9 11 true (.array .int) = true := z_fp_of fX9_79 rfl (by decide +kernel)
theorem fX9_85 : z_flB RX9 85 9 12 = true := z_fl_of 292 rfl rfl (by decide +kernel)
theorem pX9_85 : z_fpB RX9 85 9 12 true (.array (.object "MachineBench$Sheet")) = true := z_fp_of fX9_85 rfl (by decide +kernel)
theorem fX9_89 : z_flB RX9 89 9 13 = true := z_fl_of 293 rfl rfl (by decide +kernel)
theorem pX9_89 : z_fpB RX9 89 9 13 false .boolean = true := z_fp_of fX9_89 rfl (by decide +kernel)
theorem fX9_93 : z_flB RX9 93 9 14 = true := z_fl_of 294 rfl rfl (by decide +kernel)
theorem pX9_93 : z_fpB RX9 93 9 14 false .int = true := z_fp_of fX9_93 rfl (by decide +kernel)
theorem fX9_97 : z_flB RX9 97 9 15 = true := z_fl_of 295 rfl rfl (by decide +kernel)
theorem pX9_97 : z_fpB RX9 97 9 15 false .int = true := z_fp_of fX9_97 rfl (by decide +kernel)
theorem fX10_7 : z_flB RX10 7 10 0 = true := z_fl_of 735 rfl rfl (by decide +kernel)
theorem pX10_7 : z_fpB RX10 7 10 0 true (.array .int) = true := z_fp_of fX10_7 rfl (by decide +kernel)
theorem fX10_141 : z_flB RX10 141 10 1 = true := z_fl_of 736 rfl rfl (by decide +kernel)
theorem pX10_141 : z_fpB RX10 141 10 1 false .int = true := z_fp_of fX10_141 rfl (by decide +kernel)
theorem fX10_144 : z_flB RX10 144 10 2 = true := z_fl_of 737 rfl rfl (by decide +kernel)
theorem pX10_144 : z_fpB RX10 144 10 2 false .int = true := z_fp_of fX10_144 rfl (by decide +kernel)
theorem fX10_147 : z_flB RX10 147 10 3 = true := z_fl_of 738 rfl rfl (by decide +kernel)
theorem pX10_147 : z_fpB RX10 147 10 3 false .boolean = true := z_fp_of fX10_147 rfl (by decide +kernel)
theorem fX10_13 : z_flB RX10 13 10 4 = true := z_fl_of 739 rfl rfl (by decide +kernel)
theorem pX10_13 : z_fpB RX10 13 10 4 true (.array .boolean) = true := z_fp_of fX10_13 rfl (by decide +kernel)
theorem fX10_17 : z_flB RX10 17 10 5 = true := z_fl_of 740 rfl rfl (by decide +kernel)
theorem pX10_17 : z_fpB RX10 17 10 5 true (.array .boolean) = true := z_fp_of fX10_17 rfl (by decide +kernel)
theorem fX10_20 : z_flB RX10 20 10 6 = true := z_fl_of 741 rfl rfl (by decide +kernel)
theorem pX10_20 : z_fpB RX10 20 10 6 true (.array .boolean) = true := z_fp_of fX10_20 rfl (by decide +kernel)
theorem fX10_23 : z_flB RX10 23 10 7 = true := z_fl_of 742 rfl rfl (by decide +kernel)
theorem pX10_23 : z_fpB RX10 23 10 7 true (.array .int) = true := z_fp_of fX10_23 rfl (by decide +kernel)
theorem fX10_26 : z_flB RX10 26 10 8 = true := z_fl_of 743 rfl rfl (by decide +kernel)
theorem pX10_26 : z_fpB RX10 26 10 8 true (.array .int) = true := z_fp_of fX10_26 rfl (by decide +kernel)
theorem fX10_29 : z_flB RX10 29 10 9 = true := z_fl_of 744 rfl rfl (by decide +kernel)
theorem pX10_29 : z_fpB RX10 29 10 9 true (.array .int) = true := z_fp_of fX10_29 rfl (by decide +kernel)
theorem fX10_32 : z_flB RX10 32 10 10 = true := z_fl_of 745 rfl rfl (by decide +kernel)
theorem pX10_32 : z_fpB RX10 32 10 10 true (.array .int) = true := z_fp_of fX10_32 rfl (by decide +kernel)
theorem fX10_35 : z_flB RX10 35 10 11 = true := z_fl_of 746 rfl rfl (by decide +kernel)
theorem pX10_35 : z_fpB RX10 35 10 11 true (.array .boolean) = true := z_fp_of fX10_35 rfl (by decide +kernel)
theorem fX10_38 : z_flB RX10 38 10 12 = true := z_fl_of 747 rfl rfl (by decide +kernel)
theorem pX10_38 : z_fpB RX10 38 10 12 true (.array .int) = true := z_fp_of fX10_38 rfl (by decide +kernel)
theorem fX10_41 : z_flB RX10 41 10 13 = true := z_fl_of 748 rfl rfl (by decide +kernel)
theorem pX10_41 : z_fpB RX10 41 10 13 true (.array .int) = true := z_fp_of fX10_41 rfl (by decide +kernel)
theorem fX10_44 : z_flB RX10 44 10 14 = true := z_fl_of 749 rfl rfl (by decide +kernel)
theorem pX10_44 : z_fpB RX10 44 10 14 true (.array .int) = true := z_fp_of fX10_44 rfl (by decide +kernel)
theorem fX10_47 : z_flB RX10 47 10 15 = true := z_fl_of 750 rfl rfl (by decide +kernel)
theorem pX10_47 : z_fpB RX10 47 10 15 true (.array .boolean) = true := z_fp_of fX10_47 rfl (by decide +kernel)
theorem fX10_50 : z_flB RX10 50 10 16 = true := z_fl_of 751 rfl rfl (by decide +kernel)
theorem pX10_50 : z_fpB RX10 50 10 16 false .int = true := z_fp_of fX10_50 rfl (by decide +kernel)
theorem fX10_54 : z_flB RX10 54 10 17 = true := z_fl_of 752 rfl rfl (by decide +kernel)
theorem pX10_54 : z_fpB RX10 54 10 17 true (.array .int) = true := z_fp_of fX10_54 rfl (by decide +kernel)
theorem fX10_57 : z_flB RX10 57 10 18 = true := z_fl_of 753 rfl rfl (by decide +kernel)
theorem pX10_57 : z_fpB RX10 57 10 18 true (.array .int) = true := z_fp_of fX10_57 rfl (by decide +kernel)
theorem fX10_60 : z_flB RX10 60 10 19 = true := z_fl_of 754 rfl rfl (by decide +kernel)
theorem pX10_60 : z_fpB RX10 60 10 19 true (.array .int) = true := z_fp_of fX10_60 rfl (by decide +kernel)
theorem fX10_63 : z_flB RX10 63 10 20 = true := z_fl_of 755 rfl rfl (by decide +kernel)
theorem pX10_63 : z_fpB RX10 63 10 20 true (.array .int) = true := z_fp_of fX10_63 rfl (by decide +kernel)
theorem fX10_66 : z_flB RX10 66 10 21 = true := z_fl_of 756 rfl rfl (by decide +kernel)
theorem pX10_66 : z_fpB RX10 66 10 21 true (.array .int) = true := z_fp_of fX10_66 rfl (by decide +kernel)
theorem fX10_69 : z_flB RX10 69 10 22 = true := z_fl_of 757 rfl rfl (by decide +kernel)
theorem pX10_69 : z_fpB RX10 69 10 22 true (.array .int) = true := z_fp_of fX10_69 rfl (by decide +kernel)
theorem fX10_72 : z_flB RX10 72 10 23 = true := z_fl_of 758 rfl rfl (by decide +kernel)
theorem pX10_72 : z_fpB RX10 72 10 23 true (.array .int) = true := z_fp_of fX10_72 rfl (by decide +kernel)
theorem fX10_75 : z_flB RX10 75 10 24 = true := z_fl_of 759 rfl rfl (by decide +kernel)
theorem pX10_75 : z_fpB RX10 75 10 24 true (.array .int) = true := z_fp_of fX10_75 rfl (by decide +kernel)
theorem fX10_209 : z_flB RX10 209 10 25 = true := z_fl_of 760 rfl rfl (by decide +kernel)
theorem pX10_209 : z_fpB RX10 209 10 25 false .int = true := z_fp_of fX10_209 rfl (by decide +kernel)
theorem fX10_78 : z_flB RX10 78 10 26 = true := z_fl_of 761 rfl rfl (by decide +kernel)
theorem pX10_78 : z_fpB RX10 78 10 26 true (.array .int) = true := z_fp_of fX10_78 rfl (by decide +kernel)
theorem fX10_81 : z_flB RX10 81 10 27 = true := z_fl_of 762 rfl rfl (by decide +kernel)
theorem pX10_81 : z_fpB RX10 81 10 27 true (.array .int) = true := z_fp_of fX10_81 rfl (by decide +kernel)
theorem fX10_84 : z_flB RX10 84 10 28 = true := z_fl_of 763 rfl rfl (by decide +kernel)
theorem pX10_84 : z_fpB RX10 84 10 28 true (.array .int) = true := z_fp_of fX10_84 rfl (by decide +kernel)
theorem fX10_87 : z_flB RX10 87 10 29 = true := z_fl_of 764 rfl rfl (by decide +kernel)
theorem pX10_87 : z_fpB RX10 87 10 29 true (.array .int) = true := z_fp_of fX10_87 rfl (by decide +kernel)
theorem fX10_90 : z_flB RX10 90 10 30 = true := z_fl_of 765 rfl rfl (by decide +kernel)
theorem pX10_90 : z_fpB RX10 90 10 30 true (.array .int) = true := z_fp_of fX10_90 rfl (by decide +kernel)
theorem fX10_93 : z_flB RX10 93 10 31 = true := z_fl_of 766 rfl rfl (by decide +kernel)
theorem pX10_93 : z_fpB RX10 93 10 31 true (.array .int) = true := z_fp_of fX10_93 rfl (by decide +kernel)
theorem fX10_247 : z_flB RX10 247 10 32 = true := z_fl_of 767 rfl rfl (by decide +kernel)
theorem pX10_247 : z_fpB RX10 247 10 32 false .int = true := z_fp_of fX10_247 rfl (by decide +kernel)
theorem fX10_96 : z_flB RX10 96 10 33 = true := z_fl_of 768 rfl rfl (by decide +kernel)
theorem pX10_96 : z_fpB RX10 96 10 33 false .int = true := z_fp_of fX10_96 rfl (by decide +kernel)
theorem fX10_244 : z_flB RX10 244 10 34 = true := z_fl_of 769 rfl rfl (by decide +kernel)
theorem pX10_244 : z_fpB RX10 244 10 34 false .int = true := z_fp_of fX10_244 rfl (by decide +kernel)
theorem fX10_99 : z_flB RX10 99 10 35 = true := z_fl_of 770 rfl rfl (by decide +kernel)
theorem pX10_99 : z_fpB RX10 99 10 35 true (.array .int) = true := z_fp_of fX10_99 rfl (by decide +kernel)
theorem fX10_102 : z_flB RX10 102 10 36 = true := z_fl_of 771 rfl rfl (by decide +kernel)
theorem pX10_102 : z_fpB RX10 102 10 36 true (.array .int) = true := z_fp_of fX10_102 rfl (by decide +kernel)
theorem fX10_105 : z_flB RX10 105 10 37 = true := z_fl_of 772 rfl rfl (by decide +kernel)
theorem pX10_105 : z_fpB RX10 105 10 37 true (.array .int) = true := z_fp_of fX10_105 rfl (by decide +kernel)
theorem fX10_108 : z_flB RX10 108 10 38 = true := z_fl_of 773 rfl rfl (by decide +kernel)
theorem pX10_108 : z_fpB RX10 108 10 38 true (.array .boolean) = true := z_fp_of fX10_108 rfl (by decide +kernel)
theorem fX10_275 : z_flB RX10 275 10 39 = true := z_fl_of 774 rfl rfl (by decide +kernel)
theorem pX10_275 : z_fpB RX10 275 10 39 false .boolean = true := z_fp_of fX10_275 rfl (by decide +kernel)
theorem fX10_111 : z_flB RX10 111 10 40 = true := z_fl_of 775 rfl rfl (by decide +kernel)
theorem pX10_111 : z_fpB RX10 111 10 40 true (.array .boolean) = true := z_fp_of fX10_111 rfl (by decide +kernel)
theorem fX10_114 : z_flB RX10 114 10 41 = true := z_fl_of 776 rfl rfl (by decide +kernel)
theorem pX10_114 : z_fpB RX10 114 10 41 true (.array .boolean) = true := z_fp_of fX10_114 rfl (by decide +kernel)
theorem fX10_117 : z_flB RX10 117 10 42 = true := z_fl_of 777 rfl rfl (by decide +kernel)
theorem pX10_117 : z_fpB RX10 117 10 42 true (.array .int) = true := z_fp_of fX10_117 rfl (by decide +kernel)
theorem fX10_120 : z_flB RX10 120 10 43 = true := z_fl_of 778 rfl rfl (by decide +kernel)
theorem pX10_120 : z_fpB RX10 120 10 43 true (.array .int) = true := z_fp_of fX10_120 rfl (by decide +kernel)
theorem fX10_123 : z_flB RX10 123 10 44 = true := z_fl_of 779 rfl rfl (by decide +kernel)
theorem pX10_123 : z_fpB RX10 123 10 44 true (.array .int) = true := z_fp_of fX10_123 rfl (by decide +kernel)
theorem fX10_126 : z_flB RX10 126 10 45 = true := z_fl_of 780 rfl rfl (by decide +kernel)
theorem pX10_126 : z_fpB RX10 126 10 45 true (.array .int) = true := z_fp_of fX10_126 rfl (by decide +kernel)
theorem kL_9 : z_ciB R_law 9 yX9_init cX9_init 1 0 = true := z_ci_of 72 70 53 71 (by decide +kernel) (by decide +kernel) (by decide +kernel) (by decide +kernel) rfl (by decide +kernel) rfl
theorem kX9_9 : z_ciNB RX9 9 yX6_init cX6_init 1 0 = true := z_ciN_of 80 78 54 79 (by decide +kernel) (by decide +kernel) (by decide +kernel) (by decide +kernel) rfl (by decide +kernel) rfl
theorem kX9_18 : z_ciB RX9 18 yX4_init cX4_init 2 1 = true := z_ci_of 97 95 55 96 (by decide +kernel) (by decide +kernel) (by decide +kernel) (by decide +kernel) rfl (by decide +kernel) rfl
theorem kX9_27 : z_ciNB RX9 27 yX2_init cX2_init 1 0 = true := z_ciN_of 128 126 56 127 (by decide +kernel) (by decide +kernel) (by decide +kernel) (by decide +kernel) rfl (by decide +kernel) rfl
theorem kX9_38 : z_ciB RX9 38 yX8_init cX8_init 1 0 = true := z_ci_of 160 158 57 159 (by decide +kernel) (by decide +kernel) (by decide +kernel) (by decide +kernel) rfl (by decide +kernel) rfl
theorem kX8_20 : z_csB RX8 20 yJ7_fill_53178 cJ7_fill_53178 4 none 2 = true := z_cs_of [163, 164, 58, 165] (by decide +kernel) (by decide +kernel) rfl
theorem kX9_45 : z_ciNB RX9 45 yX3_init cX3_init 1 0 = true := z_ciN_of 180 178 59 179 (by decide +kernel) (by decide +kernel) (by decide +kernel) (by decide +kernel) rfl (by decide +kernel) rfl
theorem kX9_52 : z_ciNB RX9 52 yX0_init cX0_init 1 0 = true := z_ciN_of 209 207 60 208 (by decide +kernel) (by decide +kernel) (by decide +kernel) (by decide +kernel) rfl (by decide +kernel) rfl
theorem kX9_59 : z_ciNB RX9 59 yX1_init cX1_init 1 0 = true := z_ciN_of 228 226 61 227 (by decide +kernel) (by decide +kernel) (by decide +kernel) (by decide +kernel) rfl (by decide +kernel) rfl
theorem kX9_66 : z_ciNB RX9 66 yX7_init cX7_init 1 0 = true := z_ciN_of 243 241 62 242 (by decide +kernel) (by decide +kernel) (by decide +kernel) (by decide +kernel) rfl (by decide +kernel) rfl
theorem kX9_84 : z_ciNB RX9 84 yX5_init cX5_init 1 0 = true := z_ciN_of 264 262 63 263 (by decide +kernel) (by decide +kernel) (by decide +kernel) (by decide +kernel) rfl (by decide +kernel) rfl
theorem kL_15 : z_cvB R_law 15 9 yX9_type cX9_type 6 (some .int) 2 = true := z_cv_of [329, 330, 331, 53, 332] rfl (by decide +kernel) (by decide +kernel) rfl
theorem kX9_100 : z_csB RX9 100 yX9_byteOf cX9_byteOf 3 (some .int) 2 = true := z_cs_of [333, 334, 53, 335] (by decide +kernel) (by decide +kernel) rfl
theorem kX9_107 : z_cvB RX9 107 6 yX6_add cX6_add 2 none 1 = true := z_cv_of [336, 337, 338, 54, 339] rfl (by decide +kernel) (by decide +kernel) rfl
theorem kL_20 : z_cvB R_law 20 9 yX9_rules cX9_rules 4 (some .int) 1 = true := z_cv_of [340, 341, 342, 53, 343] rfl (by decide +kernel) (by decide +kernel) rfl
theorem kX9_111 : z_cvB RX9 111 9 yX9_noMachine cX9_noMachine 2 (some .boolean) 1 = true := z_cv_of [344, 346, 0, 53, 347] rfl (by decide +kernel) (by decide +kernel) rfl
theorem kX9_120 : z_csB RX9 120 yX9_beyond cX9_beyond 2 (some .boolean) 2 = true := z_cs_of [348, 349, 53, 350] (by decide +kernel) (by decide +kernel) rfl
theorem kX9_115 : z_cvB RX9 115 4 yX4_readRules cX4_readRules 3 (some .int) 1 = true := z_cv_of [351, 352, 353, 55, 354] rfl (by decide +kernel) (by decide +kernel) rfl
theorem kX4_38 : z_cvB RX4 38 4 yX4_start cX4_start 2 none 1 = true := z_cv_of [355, 357, 1, 55, 358] rfl (by decide +kernel) (by decide +kernel) rfl
theorem kX4_47 : z_cvB RX4 47 4 yX4_readClause cX4_readClause 3 none 2 = true := z_cv_of [359, 361, 2, 55, 362] rfl (by decide +kernel) (by decide +kernel) rfl
theorem kX4_71 : z_cvB RX4 71 4 yX4_takeDigit cX4_takeDigit 2 (some .int) 0 = true := z_cv_of [363, 365, 3, 55, 366] rfl (by decide +kernel) (by decide +kernel) rfl
theorem kX4_108 : z_cvB RX4 108 4 yX4_nextSign cX4_nextSign 1 (some .int) 0 = true := z_cv_of [367, 369, 4, 55, 370] rfl (by decide +kernel) (by decide +kernel) rfl
theorem kX4_111 : z_csNB RX4 111 yX9_beyond cX9_beyond 2 (some .boolean) 2 = true := z_csN_of 350 371 53 349 (by decide +kernel) (by decide +kernel) (by decide +kernel) (by decide +kernel) (by decide +kernel) rfl
theorem kX4_58 : z_cvB RX4 58 4 yX4_readTest cX4_readTest 5 none 1 = true := z_cv_of [372, 374, 5, 55, 375] rfl (by decide +kernel) (by decide +kernel) rfl
theorem kX4_88 : z_csB RX4 88 yJ7_fill_53178 cJ7_fill_53178 4 none 2 = true := z_cs_of [376, 164, 58, 165] (by decide +kernel) (by decide +kernel) rfl
theorem kX4_94 : z_cvB RX4 94 4 yX4_readCase cX4_readCase 5 none 1 = true := z_cv_of [377, 379, 6, 55, 380] rfl (by decide +kernel) (by decide +kernel) rfl
theorem kX4_97 : z_cvB RX4 97 4 yX4_readClaim cX4_readClaim 4 none 1 = true := z_cv_of [381, 383, 7, 55, 384] rfl (by decide +kernel) (by decide +kernel) rfl
theorem kX4_51 : z_cvB RX4 51 4 yX4_takes cX4_takes 2 (some .boolean) 1 = true := z_cv_of [385, 387, 8, 55, 388] rfl (by decide +kernel) (by decide +kernel) rfl
theorem kX4_103 : z_cvB RX4 103 4 yX4_claimWords cX4_claimWords 4 none 2 = true := z_cv_of [391, 393, 9, 55, 394] rfl (by decide +kernel) (by decide +kernel) rfl
theorem kX4_78 : z_cvB RX4 78 4 yX4_need cX4_need 2 none 1 = true := z_cv_of [396, 398, 10, 55, 399] rfl (by decide +kernel) (by decide +kernel) rfl
theorem kX4_55 : z_cvB RX4 55 4 yX4_needEnd cX4_needEnd 1 none 0 = true := z_cv_of [403, 405, 11, 55, 406] rfl (by decide +kernel) (by decide +kernel) rfl
theorem kL_25 : z_cvB R_law 25 9 yX9_rule cX9_rule 5 (some .int) 3 = true := z_cv_of [407, 408, 409, 53, 410] rfl (by decide +kernel) (by decide +kernel) rfl
theorem kL_30 : z_cvB R_law 30 9 yX9_ticks cX9_ticks 3 (some .int) 1 = true := z_cv_of [411, 412, 413, 53, 414] rfl (by decide +kernel) (by decide +kernel) rfl
theorem kX9_134 : z_cvB RX9 134 8 yX8_resize cX8_resize 3 none 1 = true := z_cv_of [415, 416, 417, 57, 418] rfl (by decide +kernel) (by decide +kernel) rfl
theorem kL_34 : z_cvB R_law 34 9 yX9_world cX9_world 5 (some .int) 3 = true := z_cv_of [419, 420, 421, 53, 422] rfl (by decide +kernel) (by decide +kernel) rfl
theorem kX9_137 : z_cvB RX9 137 9 yX9_noTick cX9_noTick 2 (some .boolean) 1 = true := z_cv_of [423, 425, 12, 53, 426] rfl (by decide +kernel) (by decide +kernel) rfl
theorem kL_38 : z_cvB R_law 38 9 yX9_sights cX9_sights 7 (some .int) 3 = true := z_cv_of [427, 428, 429, 53, 430] rfl (by decide +kernel) (by decide +kernel) rfl
theorem kX9_144 : z_cvB RX9 144 9 yX9_noSheet cX9_noSheet 2 (some .boolean) 1 = true := z_cv_of [431, 433, 13, 53, 434] rfl (by decide +kernel) (by decide +kernel) rfl
theorem kX9_147 : z_cvB RX9 147 5 yX5_findFault cX5_findFault 4 (some .int) 3 = true := z_cv_of [435, 436, 437, 63, 438] rfl (by decide +kernel) (by decide +kernel) rfl
theorem kX5_28 : z_cvB RX5 28 5 yX5_lacks cX5_lacks 3 (some .boolean) 2 = true := z_cv_of [439, 440, 441, 63, 442] rfl (by decide +kernel) (by decide +kernel) rfl
theorem kL_42 : z_cvB R_law 42 9 yX9_lots cX9_lots 7 (some .int) 2 = true := z_cv_of [444, 445, 446, 53, 447] rfl (by decide +kernel) (by decide +kernel) rfl
theorem kL_47 : z_cvB R_law 47 9 yX9_play cX9_play 4 (some .int) 3 = true := z_cv_of [448, 449, 450, 53, 451] rfl (by decide +kernel) (by decide +kernel) rfl
theorem kX9_159 : z_cvB RX9 159 9 yX9_playAsIs cX9_playAsIs 2 none 1 = true := z_cv_of [452, 454, 14, 53, 455] rfl (by decide +kernel) (by decide +kernel) rfl
theorem kX9_229 : z_cvB RX9 229 3 yX3_look cX3_look 2 none 1 = true := z_cv_of [456, 457, 458, 59, 459] rfl (by decide +kernel) (by decide +kernel) rfl
theorem kX9_236 : z_cvB RX9 236 3 yX3_run cX3_run 7 none 3 = true := z_cv_of [461, 462, 463, 59, 464] rfl (by decide +kernel) (by decide +kernel) rfl
theorem kX3_39 : z_cvB RX3 39 2 yX2_choose cX2_choose 5 (some .int) 3 = true := z_cv_of [465, 466, 467, 56, 468] rfl (by decide +kernel) (by decide +kernel) rfl
theorem kX3_45 : z_cvB RX3 45 2 yX2_actOf cX2_actOf 2 (some .int) 1 = true := z_cv_of [469, 470, 471, 56, 472] rfl (by decide +kernel) (by decide +kernel) rfl
theorem kX3_49 : z_cvB RX3 49 2 yX2_stateAfter cX2_stateAfter 3 (some .int) 2 = true := z_cv_of [473, 474, 475, 56, 476] rfl (by decide +kernel) (by decide +kernel) rfl
theorem kL_51 : z_cvB R_law 51 9 yX9_chooses cX9_chooses 5 (some .int) 4 = true := z_cv_of [477, 478, 479, 53, 480] rfl (by decide +kernel) (by decide +kernel) rfl
theorem kX9_170 : z_cvB RX9 170 2 yX2_choose cX2_choose 5 (some .int) 3 = true := z_cv_of [481, 466, 467, 56, 468] rfl (by decide +kernel) (by decide +kernel) rfl
theorem kL_56 : z_cvB R_law 56 9 yX9_write cX9_write 3 (some .int) 1 = true := z_cv_of [482, 483, 484, 53, 485] rfl (by decide +kernel) (by decide +kernel) rfl
theorem kX9_177 : z_cvB RX9 177 0 yX0_add cX0_add 4 none 3 = true := z_cv_of [486, 487, 488, 60, 489] rfl (by decide +kernel) (by decide +kernel) rfl
theorem kX9_183 : z_csB RX9 183 yJ9_max_7cf53 cJ9_max_7cf53 2 (some .int) 2 = true := z_cs_of [490, 491, 66, 492] (by decide +kernel) (by decide +kernel) rfl
theorem kX9_189 : z_cvB RX9 189 0 yX0_lose cX0_lose 5 none 1 = true := z_cv_of [493, 494, 495, 60, 496] rfl (by decide +kernel) (by decide +kernel) rfl
theorem kX9_192 : z_cvB RX9 192 0 yX0_sealAll cX0_sealAll 4 none 0 = true := z_cv_of [499, 500, 501, 60, 502] rfl (by decide +kernel) (by decide +kernel) rfl
theorem kL_60 : z_cvB R_law 60 9 yX9_tell cX9_tell 3 (some .int) 2 = true := z_cv_of [503, 504, 505, 53, 506] rfl (by decide +kernel) (by decide +kernel) rfl
theorem kL_64 : z_cvB R_law 64 9 yX9_line cX9_line 3 (some .int) 2 = true := z_cv_of [507, 508, 509, 53, 510] rfl (by decide +kernel) (by decide +kernel) rfl
theorem kX9_195 : z_cvB RX9 195 9 yX9_noLine cX9_noLine 2 (some .boolean) 1 = true := z_cv_of [511, 513, 15, 53, 514] rfl (by decide +kernel) (by decide +kernel) rfl
theorem kX9_201 : z_cvB RX9 201 9 yX9_countHolders cX9_countHolders 3 (some .int) 0 = true := z_cv_of [515, 517, 16, 53, 518] rfl (by decide +kernel) (by decide +kernel) rfl
theorem kX9_205 : z_cvB RX9 205 9 yX9_isHeld cX9_isHeld 5 (some .boolean) 2 = true := z_cv_of [519, 521, 17, 53, 522] rfl (by decide +kernel) (by decide +kernel) rfl
theorem kL_68 : z_cvB R_law 68 9 yX9_forge cX9_forge 4 (some .int) 2 = true := z_cv_of [523, 524, 525, 53, 526] rfl (by decide +kernel) (by decide +kernel) rfl
theorem kL_72 : z_cvB R_law 72 9 yX9_swap cX9_swap 3 (some .int) 2 = true := z_cv_of [529, 530, 531, 53, 532] rfl (by decide +kernel) (by decide +kernel) rfl
theorem kX9_211 : z_cvB RX9 211 0 yX0_exchange cX0_exchange 5 none 2 = true := z_cv_of [533, 534, 535, 60, 536] rfl (by decide +kernel) (by decide +kernel) rfl
theorem kL_76 : z_cvB R_law 76 9 yX9_tear cX9_tear 2 (some .int) 1 = true := z_cv_of [537, 538, 539, 53, 540] rfl (by decide +kernel) (by decide +kernel) rfl
theorem kX9_215 : z_cvB RX9 215 0 yX0_takeOut cX0_takeOut 3 none 1 = true := z_cv_of [541, 542, 543, 60, 544] rfl (by decide +kernel) (by decide +kernel) rfl
theorem kL_80 : z_cvB R_law 80 9 yX9_give cX9_give 2 (some .int) 1 = true := z_cv_of [546, 547, 548, 53, 549] rfl (by decide +kernel) (by decide +kernel) rfl
theorem kX9_218 : z_cvB RX9 218 9 yX9_noKeeper cX9_noKeeper 2 (some .boolean) 1 = true := z_cv_of [550, 552, 18, 53, 553] rfl (by decide +kernel) (by decide +kernel) rfl
theorem kX9_221 : z_cvB RX9 221 1 yX1_hold cX1_hold 2 none 1 = true := z_cv_of [554, 555, 556, 61, 557] rfl (by decide +kernel) (by decide +kernel) rfl
theorem kL_84 : z_cvB R_law 84 9 yX9_kept cX9_kept 3 (some .int) 2 = true := z_cv_of [559, 560, 561, 53, 562] rfl (by decide +kernel) (by decide +kernel) rfl
theorem kL_88 : z_cvB R_law 88 9 yX9_torn cX9_torn 3 (some .int) 0 = true := z_cv_of [563, 564, 565, 53, 566] rfl (by decide +kernel) (by decide +kernel) rfl
theorem kL_93 : z_cvB R_law 93 9 yX9_differs cX9_differs 3 (some .int) 0 = true := z_cv_of [567, 568, 569, 53, 570] rfl (by decide +kernel) (by decide +kernel) rfl
theorem kX9_233 : z_cvB RX9 233 9 yX9_seeByBook cX9_seeByBook 3 none 0 = true := z_cv_of [571, 573, 19, 53, 574] rfl (by decide +kernel) (by decide +kernel) rfl
theorem kX9_240 : z_cvB RX9 240 9 yX9_isUnlikePlayed cX9_isUnlikePlayed 4 (some .boolean) 3 = true := z_cv_of [575, 577, 20, 53, 578] rfl (by decide +kernel) (by decide +kernel) rfl
theorem kL_97 : z_cvB R_law 97 9 yX9_count cX9_count 2 (some .int) 1 = true := z_cv_of [579, 580, 581, 53, 582] rfl (by decide +kernel) (by decide +kernel) rfl
theorem kX9_244 : z_cvB RX9 244 0 yX0_countLost cX0_countLost 3 (some .int) 0 = true := z_cv_of [583, 584, 585, 60, 586] rfl (by decide +kernel) (by decide +kernel) rfl
theorem kL_101 : z_cvB R_law 101 9 yX9_doing cX9_doing 3 (some .int) 2 = true := z_cv_of [587, 588, 589, 53, 590] rfl (by decide +kernel) (by decide +kernel) rfl
theorem kX9_248 : z_cvB RX9 248 9 yX9_comesOtherwise cX9_comesOtherwise 3 (some .boolean) 1 = true := z_cv_of [591, 593, 21, 53, 594] rfl (by decide +kernel) (by decide +kernel) rfl
theorem kX9_310 : z_cvB RX9 310 7 yX7_undo cX7_undo 5 (some .int) 2 = true := z_cv_of [595, 596, 597, 62, 598] rfl (by decide +kernel) (by decide +kernel) rfl
theorem kX9_314 : z_cvB RX9 314 9 yX9_comesWithRules cX9_comesWithRules 2 (some .boolean) 1 = true := z_cv_of [599, 601, 22, 53, 602] rfl (by decide +kernel) (by decide +kernel) rfl
theorem kL_105 : z_cvB R_law 105 9 yX9_thing cX9_thing 4 (some .int) 3 = true := z_cv_of [603, 604, 605, 53, 606] rfl (by decide +kernel) (by decide +kernel) rfl
theorem kX9_251 : z_csB RX9 251 yX9_lastOfThing cX9_lastOfThing 1 (some .int) 1 = true := z_cs_of [607, 608, 53, 609] (by decide +kernel) (by decide +kernel) rfl
theorem kX9_255 : z_cvB RX9 255 7 yX7_has cX7_has 5 (some .boolean) 3 = true := z_cv_of [610, 611, 612, 62, 613] rfl (by decide +kernel) (by decide +kernel) rfl
theorem kX9_258 : z_cvB RX9 258 7 yX7_add cX7_add 4 none 3 = true := z_cv_of [614, 615, 616, 62, 617] rfl (by decide +kernel) (by decide +kernel) rfl
theorem kL_109 : z_cvB R_law 109 9 yX9_clear cX9_clear 2 (some .int) 0 = true := z_cv_of [618, 619, 620, 53, 621] rfl (by decide +kernel) (by decide +kernel) rfl
theorem kL_113 : z_cvB R_law 113 9 yX9_otherwise cX9_otherwise 2 (some .int) 1 = true := z_cv_of [622, 623, 624, 53, 625] rfl (by decide +kernel) (by decide +kernel) rfl
theorem kX9_259 : z_cvB RX9 259 7 yX7_allBits cX7_allBits 1 (some .int) 0 = true := z_cv_of [626, 627, 628, 62, 629] rfl (by decide +kernel) (by decide +kernel) rfl
theorem kX9_262 : z_cvB RX9 262 9 yX9_noDoing cX9_noDoing 1 (some .boolean) 0 = true := z_cv_of [630, 632, 23, 53, 633] rfl (by decide +kernel) (by decide +kernel) rfl
theorem kL_117 : z_cvB R_law 117 9 yX9_because cX9_because 1 (some .int) 0 = true := z_cv_of [634, 635, 636, 53, 637] rfl (by decide +kernel) (by decide +kernel) rfl
theorem kX9_266 : z_cvB RX9 266 9 yX9_leastSet cX9_leastSet 6 (some .int) 1 = true := z_cv_of [638, 640, 24, 53, 641] rfl (by decide +kernel) (by decide +kernel) rfl
theorem kX9_270 : z_cvB RX9 270 9 yX9_tryAllSets cX9_tryAllSets 2 none 0 = true := z_cv_of [642, 644, 25, 53, 645] rfl (by decide +kernel) (by decide +kernel) rfl
theorem kX9_285 : z_csB RX9 285 yJ6_bitCount_0f7a4 cJ6_bitCount_0f7a4 1 (some .int) 1 = true := z_cs_of [646, 647, 67, 648] (by decide +kernel) (by decide +kernel) rfl
theorem kX9_276 : z_cvB RX9 276 9 yX9_isEnough cX9_isEnough 3 (some .boolean) 1 = true := z_cv_of [652, 654, 26, 53, 655] rfl (by decide +kernel) (by decide +kernel) rfl
theorem kX9_273 : z_cvB RX9 273 9 yX9_isBecause cX9_isBecause 2 (some .boolean) 1 = true := z_cv_of [656, 658, 27, 53, 659] rfl (by decide +kernel) (by decide +kernel) rfl
theorem kL_121 : z_cvB R_law 121 9 yX9_enough cX9_enough 1 (some .int) 0 = true := z_cv_of [660, 661, 662, 53, 663] rfl (by decide +kernel) (by decide +kernel) rfl
theorem kL_125 : z_cvB R_law 125 9 yX9_sets cX9_sets 4 (some .int) 1 = true := z_cv_of [664, 665, 666, 53, 667] rfl (by decide +kernel) (by decide +kernel) rfl
theorem kL_129 : z_cvB R_law 129 9 yX9_part cX9_part 5 (some .int) 1 = true := z_cv_of [668, 669, 670, 53, 671] rfl (by decide +kernel) (by decide +kernel) rfl
theorem kX9_279 : z_cvB RX9 279 9 yX9_comesWithMakers cX9_comesWithMakers 2 (some .boolean) 1 = true := z_cv_of [672, 674, 28, 53, 675] rfl (by decide +kernel) (by decide +kernel) rfl
theorem kX9_317 : z_cvB RX9 317 2 yX2_rulesOf cX2_rulesOf 4 (some .int) 1 = true := z_cv_of [676, 677, 678, 56, 679] rfl (by decide +kernel) (by decide +kernel) rfl
theorem kL_133 : z_cvB R_law 133 9 yX9_careful cX9_careful 3 (some .int) 2 = true := z_cv_of [682, 683, 684, 53, 685] rfl (by decide +kernel) (by decide +kernel) rfl
theorem kX9_290 : z_cvB RX9 290 3 yX3_hide cX3_hide 3 none 1 = true := z_cv_of [686, 687, 688, 59, 689] rfl (by decide +kernel) (by decide +kernel) rfl
theorem kL_137 : z_cvB R_law 137 9 yX9_saying cX9_saying 7 (some .int) 3 = true := z_cv_of [690, 691, 692, 53, 693] rfl (by decide +kernel) (by decide +kernel) rfl
theorem kX9_293 : z_cvB RX9 293 2 yX2_actOf cX2_actOf 2 (some .int) 1 = true := z_cv_of [694, 470, 471, 56, 472] rfl (by decide +kernel) (by decide +kernel) rfl
theorem kL_142 : z_cvB R_law 142 9 yX9_duty cX9_duty 2 (some .int) 0 = true := z_cv_of [695, 696, 697, 53, 698] rfl (by decide +kernel) (by decide +kernel) rfl
theorem kX9_296 : z_cvB RX9 296 4 yX4_readDuty cX4_readDuty 2 (some .int) 1 = true := z_cv_of [699, 700, 701, 55, 702] rfl (by decide +kernel) (by decide +kernel) rfl
theorem kL_146 : z_cvB R_law 146 9 yX9_broken cX9_broken 3 (some .int) 0 = true := z_cv_of [703, 704, 705, 53, 706] rfl (by decide +kernel) (by decide +kernel) rfl
theorem kL_150 : z_cvB R_law 150 9 yX9_sheet cX9_sheet 4 (some .int) 3 = true := z_cv_of [707, 708, 709, 53, 710] rfl (by decide +kernel) (by decide +kernel) rfl
theorem kX9_300 : z_cvB RX9 300 5 yX5_renew cX5_renew 3 none 2 = true := z_cv_of [711, 712, 713, 63, 714] rfl (by decide +kernel) (by decide +kernel) rfl
theorem kX5_22 : z_csB RX5 22 yJ7_fill_53178 cJ7_fill_53178 4 none 2 = true := z_cs_of [715, 164, 58, 165] (by decide +kernel) (by decide +kernel) rfl
theorem kL_154 : z_cvB R_law 154 9 yX9_drop cX9_drop 3 (some .int) 1 = true := z_cv_of [716, 717, 718, 53, 719] rfl (by decide +kernel) (by decide +kernel) rfl
theorem kL_158 : z_cvB R_law 158 9 yX9_item cX9_item 7 (some .int) 4 = true := z_cv_of [720, 721, 722, 53, 723] rfl (by decide +kernel) (by decide +kernel) rfl
theorem kL_162 : z_cvB R_law 162 9 yX9_copy cX9_copy 8 (some .int) 5 = true := z_cv_of [724, 725, 726, 53, 727] rfl (by decide +kernel) (by decide +kernel) rfl
theorem kX9_307 : z_cvB RX9 307 5 yX5_lacks cX5_lacks 3 (some .boolean) 2 = true := z_cv_of [728, 440, 441, 63, 442] rfl (by decide +kernel) (by decide +kernel) rfl
theorem kL_12 : z_ciB R_law 12 yX10_init cX10_init 2 0 = true := z_ci_of 733 731 64 732 (by decide +kernel) (by decide +kernel) (by decide +kernel) (by decide +kernel) rfl (by decide +kernel) rfl
theorem kL_19 : z_cvB R_law 19 10 yX10_type cX10_type 5 (some .int) 2 = true := z_cv_of [874, 875, 876, 64, 877] rfl (by decide +kernel) (by decide +kernel) rfl
theorem kX10_131 : z_csB RX10 131 yX10_in cX10_in 6 (some .boolean) 3 = true := z_cs_of [879, 880, 64, 881] (by decide +kernel) (by decide +kernel) rfl
theorem kL_24 : z_cvB R_law 24 10 yX10_rules cX10_rules 6 (some .int) 1 = true := z_cv_of [885, 886, 887, 64, 888] rfl (by decide +kernel) (by decide +kernel) rfl
theorem kX10_173 : z_csB RX10 173 yX10_isMachine cX10_isMachine 1 (some .boolean) 1 = true := z_cs_of [889, 890, 64, 891] (by decide +kernel) (by decide +kernel) rfl
theorem kX10_176 : z_cvB RX10 176 10 yX10_clause cX10_clause 5 none 1 = true := z_cv_of [892, 894, 29, 64, 895] rfl (by decide +kernel) (by decide +kernel) rfl
theorem kX10_159 : z_cvB RX10 159 10 yX10_digit cX10_digit 2 (some .int) 0 = true := z_cv_of [896, 898, 30, 64, 899] rfl (by decide +kernel) (by decide +kernel) rfl
theorem kX10_151 : z_cvB RX10 151 10 yX10_next cX10_next 1 (some .int) 0 = true := z_cv_of [900, 902, 31, 64, 903] rfl (by decide +kernel) (by decide +kernel) rfl
theorem kX10_170 : z_cvB RX10 170 10 yX10_test cX10_test 8 (some .boolean) 3 = true := z_cv_of [906, 908, 32, 64, 909] rfl (by decide +kernel) (by decide +kernel) rfl
theorem kX10_162 : z_cvB RX10 162 10 yX10_passes cX10_passes 3 (some .boolean) 1 = true := z_cv_of [910, 912, 33, 64, 913] rfl (by decide +kernel) (by decide +kernel) rfl
theorem kX10_166 : z_cvB RX10 166 10 yX10_claim cX10_claim 7 (some .boolean) 3 = true := z_cv_of [914, 916, 34, 64, 917] rfl (by decide +kernel) (by decide +kernel) rfl
theorem kL_29 : z_cvB R_law 29 10 yX10_rule cX10_rule 5 (some .int) 3 = true := z_cv_of [918, 919, 920, 64, 921] rfl (by decide +kernel) (by decide +kernel) rfl
theorem kL_33 : z_cvB R_law 33 10 yX10_ticks cX10_ticks 3 (some .int) 1 = true := z_cv_of [923, 924, 925, 64, 926] rfl (by decide +kernel) (by decide +kernel) rfl
theorem kL_37 : z_cvB R_law 37 10 yX10_world cX10_world 5 (some .int) 3 = true := z_cv_of [928, 929, 930, 64, 931] rfl (by decide +kernel) (by decide +kernel) rfl
theorem kX10_184 : z_cvB RX10 184 10 yX10_isTick cX10_isTick 2 (some .boolean) 1 = true := z_cv_of [932, 934, 35, 64, 935] rfl (by decide +kernel) (by decide +kernel) rfl
theorem kL_41 : z_cvB R_law 41 10 yX10_sights cX10_sights 6 (some .int) 3 = true := z_cv_of [937, 938, 939, 64, 940] rfl (by decide +kernel) (by decide +kernel) rfl
theorem kX10_189 : z_csB RX10 189 yX10_isSheet cX10_isSheet 1 (some .boolean) 1 = true := z_cs_of [941, 942, 64, 943] (by decide +kernel) (by decide +kernel) rfl
theorem kX10_192 : z_cvB RX10 192 10 yX10_finds cX10_finds 5 (some .int) 4 = true := z_cv_of [945, 947, 36, 64, 948] rfl (by decide +kernel) (by decide +kernel) rfl
theorem kL_46 : z_cvB R_law 46 10 yX10_lots cX10_lots 6 (some .int) 2 = true := z_cv_of [949, 950, 951, 64, 952] rfl (by decide +kernel) (by decide +kernel) rfl
theorem kL_50 : z_cvB R_law 50 10 yX10_play cX10_play 4 (some .int) 3 = true := z_cv_of [953, 954, 955, 64, 956] rfl (by decide +kernel) (by decide +kernel) rfl
theorem kX10_200 : z_cvB RX10 200 10 yX10_lays cX10_lays 2 none 0 = true := z_cv_of [957, 959, 37, 64, 960] rfl (by decide +kernel) (by decide +kernel) rfl
theorem kX10_203 : z_cvB RX10 203 10 yX10_plays cX10_plays 7 none 2 = true := z_cv_of [961, 963, 38, 64, 964] rfl (by decide +kernel) (by decide +kernel) rfl
theorem kX10_196 : z_cvB RX10 196 10 yX10_chosen cX10_chosen 5 (some .int) 3 = true := z_cv_of [965, 967, 39, 64, 968] rfl (by decide +kernel) (by decide +kernel) rfl
theorem kL_55 : z_cvB R_law 55 10 yX10_chooses cX10_chooses 5 (some .int) 4 = true := z_cv_of [969, 970, 971, 64, 972] rfl (by decide +kernel) (by decide +kernel) rfl
theorem kL_59 : z_cvB R_law 59 10 yX10_write cX10_write 4 (some .int) 1 = true := z_cv_of [973, 974, 975, 64, 976] rfl (by decide +kernel) (by decide +kernel) rfl
theorem kX10_212 : z_cvB RX10 212 10 yX10_writes cX10_writes 4 none 3 = true := z_cv_of [977, 979, 40, 64, 980] rfl (by decide +kernel) (by decide +kernel) rfl
theorem kX10_216 : z_cvB RX10 216 10 yX10_loses cX10_loses 5 (some .int) 2 = true := z_cv_of [981, 983, 41, 64, 984] rfl (by decide +kernel) (by decide +kernel) rfl
theorem kL_63 : z_cvB R_law 63 10 yX10_tell cX10_tell 3 (some .int) 2 = true := z_cv_of [985, 986, 987, 64, 988] rfl (by decide +kernel) (by decide +kernel) rfl
theorem kL_67 : z_cvB R_law 67 10 yX10_line cX10_line 3 (some .int) 2 = true := z_cv_of [991, 992, 993, 64, 994] rfl (by decide +kernel) (by decide +kernel) rfl
theorem kX10_224 : z_cvB RX10 224 10 yX10_isLine cX10_isLine 2 (some .boolean) 1 = true := z_cv_of [995, 997, 42, 64, 998] rfl (by decide +kernel) (by decide +kernel) rfl
theorem kX10_229 : z_cvB RX10 229 10 yX10_seal cX10_seal 3 none 0 = true := z_cv_of [1000, 1002, 43, 64, 1003] rfl (by decide +kernel) (by decide +kernel) rfl
theorem kX10_232 : z_cvB RX10 232 10 yX10_isHeld cX10_isHeld 5 (some .boolean) 1 = true := z_cv_of [1004, 1006, 44, 64, 1007] rfl (by decide +kernel) (by decide +kernel) rfl
theorem kL_71 : z_cvB R_law 71 10 yX10_forge cX10_forge 4 (some .int) 2 = true := z_cv_of [1008, 1009, 1010, 64, 1011] rfl (by decide +kernel) (by decide +kernel) rfl
theorem kX10_235 : z_csB RX10 235 yX10_mostOf cX10_mostOf 1 (some .int) 1 = true := z_cs_of [1012, 1013, 64, 1014] (by decide +kernel) (by decide +kernel) rfl
theorem kL_75 : z_cvB R_law 75 10 yX10_swap cX10_swap 6 (some .int) 2 = true := z_cv_of [1015, 1016, 1017, 64, 1018] rfl (by decide +kernel) (by decide +kernel) rfl
theorem kX10_239 : z_cvB RX10 239 10 yX10_moves cX10_moves 3 none 2 = true := z_cv_of [1019, 1021, 45, 64, 1022] rfl (by decide +kernel) (by decide +kernel) rfl
theorem kL_79 : z_cvB R_law 79 10 yX10_tear cX10_tear 3 (some .int) 1 = true := z_cv_of [1023, 1024, 1025, 64, 1026] rfl (by decide +kernel) (by decide +kernel) rfl
theorem kL_83 : z_cvB R_law 83 10 yX10_give cX10_give 3 (some .int) 1 = true := z_cv_of [1027, 1028, 1029, 64, 1030] rfl (by decide +kernel) (by decide +kernel) rfl
theorem kL_87 : z_cvB R_law 87 10 yX10_kept cX10_kept 3 (some .int) 2 = true := z_cv_of [1031, 1032, 1033, 64, 1034] rfl (by decide +kernel) (by decide +kernel) rfl
theorem kL_92 : z_cvB R_law 92 10 yX10_torn cX10_torn 2 (some .int) 0 = true := z_cv_of [1036, 1037, 1038, 64, 1039] rfl (by decide +kernel) (by decide +kernel) rfl
theorem kL_96 : z_cvB R_law 96 10 yX10_differs cX10_differs 4 (some .int) 0 = true := z_cv_of [1040, 1041, 1042, 64, 1043] rfl (by decide +kernel) (by decide +kernel) rfl
theorem kL_100 : z_cvB R_law 100 10 yX10_count cX10_count 4 (some .int) 1 = true := z_cv_of [1044, 1045, 1046, 64, 1047] rfl (by decide +kernel) (by decide +kernel) rfl
theorem kL_104 : z_cvB R_law 104 10 yX10_doing cX10_doing 3 (some .int) 2 = true := z_cv_of [1048, 1049, 1050, 64, 1051] rfl (by decide +kernel) (by decide +kernel) rfl
theorem kX10_250 : z_cvB RX10 250 10 yX10_comesBy cX10_comesBy 6 (some .boolean) 2 = true := z_cv_of [1052, 1054, 46, 64, 1055] rfl (by decide +kernel) (by decide +kernel) rfl
theorem kL_108 : z_cvB R_law 108 10 yX10_thing cX10_thing 6 (some .int) 3 = true := z_cv_of [1056, 1057, 1058, 64, 1059] rfl (by decide +kernel) (by decide +kernel) rfl
theorem kL_112 : z_cvB R_law 112 10 yX10_clear cX10_clear 2 (some .int) 0 = true := z_cv_of [1061, 1062, 1063, 64, 1064] rfl (by decide +kernel) (by decide +kernel) rfl
theorem kL_116 : z_cvB R_law 116 10 yX10_otherwise cX10_otherwise 2 (some .int) 1 = true := z_cv_of [1065, 1066, 1067, 64, 1068] rfl (by decide +kernel) (by decide +kernel) rfl
theorem kX10_256 : z_cvB RX10 256 10 yX10_isTold cX10_isTold 1 (some .boolean) 0 = true := z_cv_of [1069, 1071, 47, 64, 1072] rfl (by decide +kernel) (by decide +kernel) rfl
theorem kL_120 : z_cvB R_law 120 10 yX10_because cX10_because 1 (some .int) 0 = true := z_cv_of [1073, 1074, 1075, 64, 1076] rfl (by decide +kernel) (by decide +kernel) rfl
theorem kX10_269 : z_cvB RX10 269 10 yX10_leastOf cX10_leastOf 4 (some .int) 1 = true := z_cv_of [1077, 1079, 48, 64, 1080] rfl (by decide +kernel) (by decide +kernel) rfl
theorem kX10_260 : z_cvB RX10 260 10 yX10_tries cX10_tries 2 none 0 = true := z_cv_of [1081, 1083, 49, 64, 1084] rfl (by decide +kernel) (by decide +kernel) rfl
theorem kX10_263 : z_cvB RX10 263 10 yX10_isSuch cX10_isSuch 5 (some .boolean) 2 = true := z_cv_of [1085, 1087, 50, 64, 1088] rfl (by decide +kernel) (by decide +kernel) rfl
theorem kX10_266 : z_csB RX10 266 yX10_size cX10_size 3 (some .int) 1 = true := z_cs_of [1089, 1090, 64, 1091] (by decide +kernel) (by decide +kernel) rfl
theorem kL_124 : z_cvB R_law 124 10 yX10_enough cX10_enough 1 (some .int) 0 = true := z_cv_of [1092, 1093, 1094, 64, 1095] rfl (by decide +kernel) (by decide +kernel) rfl
theorem kL_128 : z_cvB R_law 128 10 yX10_sets cX10_sets 4 (some .int) 1 = true := z_cv_of [1096, 1097, 1098, 64, 1099] rfl (by decide +kernel) (by decide +kernel) rfl
theorem kL_132 : z_cvB R_law 132 10 yX10_part cX10_part 4 (some .int) 1 = true := z_cv_of [1100, 1101, 1102, 64, 1103] rfl (by decide +kernel) (by decide +kernel) rfl
theorem kL_136 : z_cvB R_law 136 10 yX10_careful cX10_careful 4 (some .int) 2 = true := z_cv_of [1104, 1105, 1106, 64, 1107] rfl (by decide +kernel) (by decide +kernel) rfl
theorem kL_141 : z_cvB R_law 141 10 yX10_saying cX10_saying 8 (some .int) 3 = true := z_cv_of [1108, 1109, 1110, 64, 1111] rfl (by decide +kernel) (by decide +kernel) rfl
theorem kX10_272 : z_cvB RX10 272 10 yX10_actAt cX10_actAt 3 (some .int) 1 = true := z_cv_of [1112, 1114, 51, 64, 1115] rfl (by decide +kernel) (by decide +kernel) rfl
theorem kL_145 : z_cvB R_law 145 10 yX10_duty cX10_duty 2 (some .int) 0 = true := z_cv_of [1116, 1117, 1118, 64, 1119] rfl (by decide +kernel) (by decide +kernel) rfl
theorem kL_149 : z_cvB R_law 149 10 yX10_broken cX10_broken 3 (some .int) 0 = true := z_cv_of [1120, 1121, 1122, 64, 1123] rfl (by decide +kernel) (by decide +kernel) rfl
theorem kL_153 : z_cvB R_law 153 10 yX10_sheet cX10_sheet 5 (some .int) 3 = true := z_cv_of [1124, 1125, 1126, 64, 1127] rfl (by decide +kernel) (by decide +kernel) rfl
theorem kX10_278 : z_csB RX10 278 yX10_isLane cX10_isLane 1 (some .boolean) 1 = true := z_cs_of [1128, 1129, 64, 1130] (by decide +kernel) (by decide +kernel) rfl
theorem kL_157 : z_cvB R_law 157 10 yX10_drop cX10_drop 2 (some .int) 1 = true := z_cv_of [1131, 1132, 1133, 64, 1134] rfl (by decide +kernel) (by decide +kernel) rfl
theorem kL_161 : z_cvB R_law 161 10 yX10_item cX10_item 6 (some .int) 4 = true := z_cv_of [1135, 1136, 1137, 64, 1138] rfl (by decide +kernel) (by decide +kernel) rfl
theorem kL_166 : z_cvB R_law 166 10 yX10_copy cX10_copy 7 (some .int) 5 = true := z_cv_of [1139, 1140, 1141, 64, 1142] rfl (by decide +kernel) (by decide +kernel) rfl
section AWY
variable {l : Launch} {g : zG} {own : String} {cc : ByteArray} {nL : Nat} {rt : Option FieldType} {ini : Bool} {d bc bs pc : Nat} {ls : List (Option Value)} {st : List Value} {S : zS} {M : zM} {Q : Option Value → zS → zM → Prop}
theorem AW.cVi0 (pc' : Nat) {ci k : Nat} {ix n2 : Nat} {y : MethodName} {c2 : ByteArray} {r2 : Option FieldType} (hd : decode cc pc = .ok (.invokevirtual ix, 3)) (hw : z_cvB own ix ci y c2 n2 r2 0 = true) (hc : z_is S k ci) (hcat : (st.map fun v => v.category).sum ≤ 8) (hp : pc + 3 = pc') (hM : AMet l g y c2 n2 r2 d 0 0 (.ref k :: []) S M (z_Qi fun r S' M' => AW l g own cc nL rt ini (d + 1) 0 0 pc' ls (.int r :: st) S' M' Q)) : AW l g own cc nL rt ini (d + 1) 0 0 pc ls (.ref k :: st) S M Q := AW.cVi pc' [] hd hw hc rfl rfl hcat hp hM
theorem AW.cVi1 (pc' : Nat) {ci k : Nat} {ix n2 : Nat} {y : MethodName} {c2 : ByteArray} {r2 : Option FieldType} {a1 : Value} (hd : decode cc pc = .ok (.invokevirtual ix, 3)) (hw : z_cvB own ix ci y c2 n2 r2 1 = true) (hc : z_is S k ci) (hcat : (st.map fun v => v.category).sum ≤ 8) (hp : pc + 3 = pc') (hM : AMet l g y c2 n2 r2 d 0 0 (.ref k :: [a1]) S M (z_Qi fun r S' M' => AW l g own cc nL rt ini (d + 1) 0 0 pc' ls (.int r :: st) S' M' Q)) : AW l g own cc nL rt ini (d + 1) 0 0 pc ls (a1 :: .ref k :: st) S M Q := AW.cVi pc' [a1] hd hw hc rfl rfl hcat hp hM
theorem AW.cVi2 (pc' : Nat) {ci k : Nat} {ix n2 : Nat} {y : MethodName} {c2 : ByteArray} {r2 : Option FieldType} {a1 a2 : Value} (hd : decode cc pc = .ok (.invokevirtual ix, 3)) (hw : z_cvB own ix ci y c2 n2 r2 2 = true) (hc : z_is S k ci) (hcat : (st.map fun v => v.category).sum ≤ 8) (hp : pc + 3 = pc') (hM : AMet l g y c2 n2 r2 d 0 0 (.ref k :: [a1, a2]) S M (z_Qi fun r S' M' => AW l g own cc nL rt ini (d + 1) 0 0 pc' ls (.int r :: st) S' M' Q)) : AW l g own cc nL rt ini (d + 1) 0 0 pc ls (a2 :: a1 :: .ref k :: st) S M Q := AW.cVi pc' [a1, a2] hd hw hc rfl rfl hcat hp hM
theorem AW.cVi3 (pc' : Nat) {ci k : Nat} {ix n2 : Nat} {y : MethodName} {c2 : ByteArray} {r2 : Option FieldType} {a1 a2 a3 : Value} (hd : decode cc pc = .ok (.invokevirtual ix, 3)) (hw : z_cvB own ix ci y c2 n2 r2 3 = true) (hc : z_is S k ci) (hcat : (st.map fun v => v.category).sum ≤ 8) (hp : pc + 3 = pc') (hM : AMet l g y c2 n2 r2 d 0 0 (.ref k :: [a1, a2, a3]) S M (z_Qi fun r S' M' => AW l g own cc nL rt ini (d + 1) 0 0 pc' ls (.int r :: st) S' M' Q)) : AW l g own cc nL rt ini (d + 1) 0 0 pc ls (a3 :: a2 :: a1 :: .ref k :: st) S M Q := AW.cVi pc' [a1, a2, a3] hd hw hc rfl rfl hcat hp hM
theorem AW.cVi4 (pc' : Nat) {ci k : Nat} {ix n2 : Nat} {y : MethodName} {c2 : ByteArray} {r2 : Option FieldType} {a1 a2 a3 a4 : Value} (hd : decode cc pc = .ok (.invokevirtual ix, 3)) (hw : z_cvB own ix ci y c2 n2 r2 4 = true) (hc : z_is S k ci) (hcat : (st.map fun v => v.category).sum ≤ 8) (hp : pc + 3 = pc') (hM : AMet l g y c2 n2 r2 d 0 0 (.ref k :: [a1, a2, a3, a4]) S M (z_Qi fun r S' M' => AW l g own cc nL rt ini (d + 1) 0 0 pc' ls (.int r :: st) S' M' Q)) : AW l g own cc nL rt ini (d + 1) 0 0 pc ls (a4 :: a3 :: a2 :: a1 :: .ref k :: st) S M Q := AW.cVi pc' [a1, a2, a3, a4] hd hw hc rfl rfl hcat hp hM
theorem AW.cVi5 (pc' : Nat) {ci k : Nat} {ix n2 : Nat} {y : MethodName} {c2 : ByteArray} {r2 : Option FieldType} {a1 a2 a3 a4 a5 : Value} (hd : decode cc pc = .ok (.invokevirtual ix, 3)) (hw : z_cvB own ix ci y c2 n2 r2 5 = true) (hc : z_is S k ci) (hcat : (st.map fun v => v.category).sum ≤ 8) (hp : pc + 3 = pc') (hM : AMet l g y c2 n2 r2 d 0 0 (.ref k :: [a1, a2, a3, a4, a5]) S M (z_Qi fun r S' M' => AW l g own cc nL rt ini (d + 1) 0 0 pc' ls (.int r :: st) S' M' Q)) : AW l g own cc nL rt ini (d + 1) 0 0 pc ls (a5 :: a4 :: a3 :: a2 :: a1 :: .ref k :: st) S M Q := AW.cVi pc' [a1, a2, a3, a4, a5] hd hw hc rfl rfl hcat hp hM
theorem AW.cVv0 (pc' : Nat) {ci k : Nat} {ix n2 : Nat} {y : MethodName} {c2 : ByteArray} {r2 : Option FieldType} (hd : decode cc pc = .ok (.invokevirtual ix, 3)) (hw : z_cvB own ix ci y c2 n2 r2 0 = true) (hc : z_is S k ci) (hcat : (st.map fun v => v.category).sum ≤ 8) (hp : pc + 3 = pc') (hM : AMet l g y c2 n2 r2 d 0 0 (.ref k :: []) S M (z_Qv fun S' M' => AW l g own cc nL rt ini (d + 1) 0 0 pc' ls st S' M' Q)) : AW l g own cc nL rt ini (d + 1) 0 0 pc ls (.ref k :: st) S M Q := AW.cVv pc' [] hd hw hc rfl rfl hcat hp hM
theorem AW.cVv1 (pc' : Nat) {ci k : Nat} {ix n2 : Nat} {y : MethodName} {c2 : ByteArray} {r2 : Option FieldType} {a1 : Value} (hd : decode cc pc = .ok (.invokevirtual ix, 3)) (hw : z_cvB own ix ci y c2 n2 r2 1 = true) (hc : z_is S k ci) (hcat : (st.map fun v => v.category).sum ≤ 8) (hp : pc + 3 = pc') (hM : AMet l g y c2 n2 r2 d 0 0 (.ref k :: [a1]) S M (z_Qv fun S' M' => AW l g own cc nL rt ini (d + 1) 0 0 pc' ls st S' M' Q)) : AW l g own cc nL rt ini (d + 1) 0 0 pc ls (a1 :: .ref k :: st) S M Q := AW.cVv pc' [a1] hd hw hc rfl rfl hcat hp hM
theorem AW.cVv2 (pc' : Nat) {ci k : Nat} {ix n2 : Nat} {y : MethodName} {c2 : ByteArray} {r2 : Option FieldType} {a1 a2 : Value} (hd : decode cc pc = .ok (.invokevirtual ix, 3)) (hw : z_cvB own ix ci y c2 n2 r2 2 = true) (hc : z_is S k ci) (hcat : (st.map fun v => v.category).sum ≤ 8) (hp : pc + 3 = pc') (hM : AMet l g y c2 n2 r2 d 0 0 (.ref k :: [a1, a2]) S M (z_Qv fun S' M' => AW l g own cc nL rt ini (d + 1) 0 0 pc' ls st S' M' Q)) : AW l g own cc nL rt ini (d + 1) 0 0 pc ls (a2 :: a1 :: .ref k :: st) S M Q := AW.cVv pc' [a1, a2] hd hw hc rfl rfl hcat hp hM
theorem AW.cVv3 (pc' : Nat) {ci k : Nat} {ix n2 : Nat} {y : MethodName} {c2 : ByteArray} {r2 : Option FieldType} {a1 a2 a3 : Value} (hd : decode cc pc = .ok (.invokevirtual ix, 3)) (hw : z_cvB own ix ci y c2 n2 r2 3 = true) (hc : z_is S k ci) (hcat : (st.map fun v => v.category).sum ≤ 8) (hp : pc + 3 = pc') (hM : AMet l g y c2 n2 r2 d 0 0 (.ref k :: [a1, a2, a3]) S M (z_Qv fun S' M' => AW l g own cc nL rt ini (d + 1) 0 0 pc' ls st S' M' Q)) : AW l g own cc nL rt ini (d + 1) 0 0 pc ls (a3 :: a2 :: a1 :: .ref k :: st) S M Q := AW.cVv pc' [a1, a2, a3] hd hw hc rfl rfl hcat hp hM
theorem AW.cVv4 (pc' : Nat) {ci k : Nat} {ix n2 : Nat} {y : MethodName} {c2 : ByteArray} {r2 : Option FieldType} {a1 a2 a3 a4 : Value} (hd : decode cc pc = .ok (.invokevirtual ix, 3)) (hw : z_cvB own ix ci y c2 n2 r2 4 = true) (hc : z_is S k ci) (hcat : (st.map fun v => v.category).sum ≤ 8) (hp : pc + 3 = pc') (hM : AMet l g y c2 n2 r2 d 0 0 (.ref k :: [a1, a2, a3, a4]) S M (z_Qv fun S' M' => AW l g own cc nL rt ini (d + 1) 0 0 pc' ls st S' M' Q)) : AW l g own cc nL rt ini (d + 1) 0 0 pc ls (a4 :: a3 :: a2 :: a1 :: .ref k :: st) S M Q := AW.cVv pc' [a1, a2, a3, a4] hd hw hc rfl rfl hcat hp hM
theorem AW.cVv5 (pc' : Nat) {ci k : Nat} {ix n2 : Nat} {y : MethodName} {c2 : ByteArray} {r2 : Option FieldType} {a1 a2 a3 a4 a5 : Value} (hd : decode cc pc = .ok (.invokevirtual ix, 3)) (hw : z_cvB own ix ci y c2 n2 r2 5 = true) (hc : z_is S k ci) (hcat : (st.map fun v => v.category).sum ≤ 8) (hp : pc + 3 = pc') (hM : AMet l g y c2 n2 r2 d 0 0 (.ref k :: [a1, a2, a3, a4, a5]) S M (z_Qv fun S' M' => AW l g own cc nL rt ini (d + 1) 0 0 pc' ls st S' M' Q)) : AW l g own cc nL rt ini (d + 1) 0 0 pc ls (a5 :: a4 :: a3 :: a2 :: a1 :: .ref k :: st) S M Q := AW.cVv pc' [a1, a2, a3, a4, a5] hd hw hc rfl rfl hcat hp hM
theorem AW.cSi0 (pc' : Nat) {ix n2 : Nat} {y : MethodName} {c2 : ByteArray} {r2 : Option FieldType} (hd : decode cc pc = .ok (.invokestatic ix, 3)) (hw : z_csB own ix y c2 n2 r2 0 = true) (hcat : (st.map fun v => v.category).sum ≤ 8) (hp : pc + 3 = pc') (hM : AMet l g y c2 n2 r2 d 0 0 ([]) S M (z_Qi fun r S' M' => AW l g own cc nL rt ini (d + 1) 0 0 pc' ls (.int r :: st) S' M' Q)) : AW l g own cc nL rt ini (d + 1) 0 0 pc ls (st) S M Q := AW.cSi pc' [] hd hw rfl rfl hcat hp hM
theorem AW.cSi1 (pc' : Nat) {ix n2 : Nat} {y : MethodName} {c2 : ByteArray} {r2 : Option FieldType} {a1 : Value} (hd : decode cc pc = .ok (.invokestatic ix, 3)) (hw : z_csB own ix y c2 n2 r2 1 = true) (hcat : (st.map fun v => v.category).sum ≤ 8) (hp : pc + 3 = pc') (hM : AMet l g y c2 n2 r2 d 0 0 ([a1]) S M (z_Qi fun r S' M' => AW l g own cc nL rt ini (d + 1) 0 0 pc' ls (.int r :: st) S' M' Q)) : AW l g own cc nL rt ini (d + 1) 0 0 pc ls (a1 :: st) S M Q := AW.cSi pc' [a1] hd hw rfl rfl hcat hp hM
theorem AW.cSi2 (pc' : Nat) {ix n2 : Nat} {y : MethodName} {c2 : ByteArray} {r2 : Option FieldType} {a1 a2 : Value} (hd : decode cc pc = .ok (.invokestatic ix, 3)) (hw : z_csB own ix y c2 n2 r2 2 = true) (hcat : (st.map fun v => v.category).sum ≤ 8) (hp : pc + 3 = pc') (hM : AMet l g y c2 n2 r2 d 0 0 ([a1, a2]) S M (z_Qi fun r S' M' => AW l g own cc nL rt ini (d + 1) 0 0 pc' ls (.int r :: st) S' M' Q)) : AW l g own cc nL rt ini (d + 1) 0 0 pc ls (a2 :: a1 :: st) S M Q := AW.cSi pc' [a1, a2] hd hw rfl rfl hcat hp hM
theorem AW.cSi3 (pc' : Nat) {ix n2 : Nat} {y : MethodName} {c2 : ByteArray} {r2 : Option FieldType} {a1 a2 a3 : Value} (hd : decode cc pc = .ok (.invokestatic ix, 3)) (hw : z_csB own ix y c2 n2 r2 3 = true) (hcat : (st.map fun v => v.category).sum ≤ 8) (hp : pc + 3 = pc') (hM : AMet l g y c2 n2 r2 d 0 0 ([a1, a2, a3]) S M (z_Qi fun r S' M' => AW l g own cc nL rt ini (d + 1) 0 0 pc' ls (.int r :: st) S' M' Q)) : AW l g own cc nL rt ini (d + 1) 0 0 pc ls (a3 :: a2 :: a1 :: st) S M Q := AW.cSi pc' [a1, a2, a3] hd hw rfl rfl hcat hp hM
theorem AW.cSi4 (pc' : Nat) {ix n2 : Nat} {y : MethodName} {c2 : ByteArray} {r2 : Option FieldType} {a1 a2 a3 a4 : Value} (hd : decode cc pc = .ok (.invokestatic ix, 3)) (hw : z_csB own ix y c2 n2 r2 4 = true) (hcat : (st.map fun v => v.category).sum ≤ 8) (hp : pc + 3 = pc') (hM : AMet l g y c2 n2 r2 d 0 0 ([a1, a2, a3, a4]) S M (z_Qi fun r S' M' => AW l g own cc nL rt ini (d + 1) 0 0 pc' ls (.int r :: st) S' M' Q)) : AW l g own cc nL rt ini (d + 1) 0 0 pc ls (a4 :: a3 :: a2 :: a1 :: st) S M Q := AW.cSi pc' [a1, a2, a3, a4] hd hw rfl rfl hcat hp hM
theorem AW.cSi5 (pc' : Nat) {ix n2 : Nat} {y : MethodName} {c2 : ByteArray} {r2 : Option FieldType} {a1 a2 a3 a4 a5 : Value} (hd : decode cc pc = .ok (.invokestatic ix, 3)) (hw : z_csB own ix y c2 n2 r2 5 = true) (hcat : (st.map fun v => v.category).sum ≤ 8) (hp : pc + 3 = pc') (hM : AMet l g y c2 n2 r2 d 0 0 ([a1, a2, a3, a4, a5]) S M (z_Qi fun r S' M' => AW l g own cc nL rt ini (d + 1) 0 0 pc' ls (.int r :: st) S' M' Q)) : AW l g own cc nL rt ini (d + 1) 0 0 pc ls (a5 :: a4 :: a3 :: a2 :: a1 :: st) S M Q := AW.cSi pc' [a1, a2, a3, a4, a5] hd hw rfl rfl hcat hp hM
theorem AW.cSv0 (pc' : Nat) {ix n2 : Nat} {y : MethodName} {c2 : ByteArray} {r2 : Option FieldType} (hd : decode cc pc = .ok (.invokestatic ix, 3)) (hw : z_csB own ix y c2 n2 r2 0 = true) (hcat : (st.map fun v => v.category).sum ≤ 8) (hp : pc + 3 = pc') (hM : AMet l g y c2 n2 r2 d 0 0 ([]) S M (z_Qv fun S' M' => AW l g own cc nL rt ini (d + 1) 0 0 pc' ls st S' M' Q)) : AW l g own cc nL rt ini (d + 1) 0 0 pc ls (st) S M Q := AW.cSv pc' [] hd hw rfl rfl hcat hp hM
theorem AW.cSv1 (pc' : Nat) {ix n2 : Nat} {y : MethodName} {c2 : ByteArray} {r2 : Option FieldType} {a1 : Value} (hd : decode cc pc = .ok (.invokestatic ix, 3)) (hw : z_csB own ix y c2 n2 r2 1 = true) (hcat : (st.map fun v => v.category).sum ≤ 8) (hp : pc + 3 = pc') (hM : AMet l g y c2 n2 r2 d 0 0 ([a1]) S M (z_Qv fun S' M' => AW l g own cc nL rt ini (d + 1) 0 0 pc' ls st S' M' Q)) : AW l g own cc nL rt ini (d + 1) 0 0 pc ls (a1 :: st) S M Q := AW.cSv pc' [a1] hd hw rfl rfl hcat hp hM
theorem AW.cSv2 (pc' : Nat) {ix n2 : Nat} {y : MethodName} {c2 : ByteArray} {r2 : Option FieldType} {a1 a2 : Value} (hd : decode cc pc = .ok (.invokestatic ix, 3)) (hw : z_csB own ix y c2 n2 r2 2 = true) (hcat : (st.map fun v => v.category).sum ≤ 8) (hp : pc + 3 = pc') (hM : AMet l g y c2 n2 r2 d 0 0 ([a1, a2]) S M (z_Qv fun S' M' => AW l g own cc nL rt ini (d + 1) 0 0 pc' ls st S' M' Q)) : AW l g own cc nL rt ini (d + 1) 0 0 pc ls (a2 :: a1 :: st) S M Q := AW.cSv pc' [a1, a2] hd hw rfl rfl hcat hp hM
theorem AW.cSv3 (pc' : Nat) {ix n2 : Nat} {y : MethodName} {c2 : ByteArray} {r2 : Option FieldType} {a1 a2 a3 : Value} (hd : decode cc pc = .ok (.invokestatic ix, 3)) (hw : z_csB own ix y c2 n2 r2 3 = true) (hcat : (st.map fun v => v.category).sum ≤ 8) (hp : pc + 3 = pc') (hM : AMet l g y c2 n2 r2 d 0 0 ([a1, a2, a3]) S M (z_Qv fun S' M' => AW l g own cc nL rt ini (d + 1) 0 0 pc' ls st S' M' Q)) : AW l g own cc nL rt ini (d + 1) 0 0 pc ls (a3 :: a2 :: a1 :: st) S M Q := AW.cSv pc' [a1, a2, a3] hd hw rfl rfl hcat hp hM
theorem AW.cSv4 (pc' : Nat) {ix n2 : Nat} {y : MethodName} {c2 : ByteArray} {r2 : Option FieldType} {a1 a2 a3 a4 : Value} (hd : decode cc pc = .ok (.invokestatic ix, 3)) (hw : z_csB own ix y c2 n2 r2 4 = true) (hcat : (st.map fun v => v.category).sum ≤ 8) (hp : pc + 3 = pc') (hM : AMet l g y c2 n2 r2 d 0 0 ([a1, a2, a3, a4]) S M (z_Qv fun S' M' => AW l g own cc nL rt ini (d + 1) 0 0 pc' ls st S' M' Q)) : AW l g own cc nL rt ini (d + 1) 0 0 pc ls (a4 :: a3 :: a2 :: a1 :: st) S M Q := AW.cSv pc' [a1, a2, a3, a4] hd hw rfl rfl hcat hp hM
theorem AW.cSv5 (pc' : Nat) {ix n2 : Nat} {y : MethodName} {c2 : ByteArray} {r2 : Option FieldType} {a1 a2 a3 a4 a5 : Value} (hd : decode cc pc = .ok (.invokestatic ix, 3)) (hw : z_csB own ix y c2 n2 r2 5 = true) (hcat : (st.map fun v => v.category).sum ≤ 8) (hp : pc + 3 = pc') (hM : AMet l g y c2 n2 r2 d 0 0 ([a1, a2, a3, a4, a5]) S M (z_Qv fun S' M' => AW l g own cc nL rt ini (d + 1) 0 0 pc' ls st S' M' Q)) : AW l g own cc nL rt ini (d + 1) 0 0 pc ls (a5 :: a4 :: a3 :: a2 :: a1 :: st) S M Q := AW.cSv pc' [a1, a2, a3, a4, a5] hd hw rfl rfl hcat hp hM
theorem AW.cNi0 (pc' : Nat) {ix n2 : Nat} {y : MethodName} {c2 : ByteArray} {r2 : Option FieldType} (hd : decode cc pc = .ok (.invokestatic ix, 3)) (hw : z_csNB own ix y c2 n2 r2 0 = true) (hcat : (st.map fun v => v.category).sum ≤ 8) (hp : pc + 3 = pc') (hM : AMet l g y c2 n2 r2 d 0 0 ([]) S M (z_Qi fun r S' M' => AW l g own cc nL rt ini (d + 1) 0 0 pc' ls (.int r :: st) S' M' Q)) : AW l g own cc nL rt ini (d + 1) 0 0 pc ls (st) S M Q := AW.cNi pc' [] hd hw rfl rfl hcat hp hM
theorem AW.cNi1 (pc' : Nat) {ix n2 : Nat} {y : MethodName} {c2 : ByteArray} {r2 : Option FieldType} {a1 : Value} (hd : decode cc pc = .ok (.invokestatic ix, 3)) (hw : z_csNB own ix y c2 n2 r2 1 = true) (hcat : (st.map fun v => v.category).sum ≤ 8) (hp : pc + 3 = pc') (hM : AMet l g y c2 n2 r2 d 0 0 ([a1]) S M (z_Qi fun r S' M' => AW l g own cc nL rt ini (d + 1) 0 0 pc' ls (.int r :: st) S' M' Q)) : AW l g own cc nL rt ini (d + 1) 0 0 pc ls (a1 :: st) S M Q := AW.cNi pc' [a1] hd hw rfl rfl hcat hp hM
theorem AW.cNi2 (pc' : Nat) {ix n2 : Nat} {y : MethodName} {c2 : ByteArray} {r2 : Option FieldType} {a1 a2 : Value} (hd : decode cc pc = .ok (.invokestatic ix, 3)) (hw : z_csNB own ix y c2 n2 r2 2 = true) (hcat : (st.map fun v => v.category).sum ≤ 8) (hp : pc + 3 = pc') (hM : AMet l g y c2 n2 r2 d 0 0 ([a1, a2]) S M (z_Qi fun r S' M' => AW l g own cc nL rt ini (d + 1) 0 0 pc' ls (.int r :: st) S' M' Q)) : AW l g own cc nL rt ini (d + 1) 0 0 pc ls (a2 :: a1 :: st) S M Q := AW.cNi pc' [a1, a2] hd hw rfl rfl hcat hp hM
theorem AW.cNi3 (pc' : Nat) {ix n2 : Nat} {y : MethodName} {c2 : ByteArray} {r2 : Option FieldType} {a1 a2 a3 : Value} (hd : decode cc pc = .ok (.invokestatic ix, 3)) (hw : z_csNB own ix y c2 n2 r2 3 = true) (hcat : (st.map fun v => v.category).sum ≤ 8) (hp : pc + 3 = pc') (hM : AMet l g y c2 n2 r2 d 0 0 ([a1, a2, a3]) S M (z_Qi fun r S' M' => AW l g own cc nL rt ini (d + 1) 0 0 pc' ls (.int r :: st) S' M' Q)) : AW l g own cc nL rt ini (d + 1) 0 0 pc ls (a3 :: a2 :: a1 :: st) S M Q := AW.cNi pc' [a1, a2, a3] hd hw rfl rfl hcat hp hM
theorem AW.cNi4 (pc' : Nat) {ix n2 : Nat} {y : MethodName} {c2 : ByteArray} {r2 : Option FieldType} {a1 a2 a3 a4 : Value} (hd : decode cc pc = .ok (.invokestatic ix, 3)) (hw : z_csNB own ix y c2 n2 r2 4 = true) (hcat : (st.map fun v => v.category).sum ≤ 8) (hp : pc + 3 = pc') (hM : AMet l g y c2 n2 r2 d 0 0 ([a1, a2, a3, a4]) S M (z_Qi fun r S' M' => AW l g own cc nL rt ini (d + 1) 0 0 pc' ls (.int r :: st) S' M' Q)) : AW l g own cc nL rt ini (d + 1) 0 0 pc ls (a4 :: a3 :: a2 :: a1 :: st) S M Q := AW.cNi pc' [a1, a2, a3, a4] hd hw rfl rfl hcat hp hM
theorem AW.cNi5 (pc' : Nat) {ix n2 : Nat} {y : MethodName} {c2 : ByteArray} {r2 : Option FieldType} {a1 a2 a3 a4 a5 : Value} (hd : decode cc pc = .ok (.invokestatic ix, 3)) (hw : z_csNB own ix y c2 n2 r2 5 = true) (hcat : (st.map fun v => v.category).sum ≤ 8) (hp : pc + 3 = pc') (hM : AMet l g y c2 n2 r2 d 0 0 ([a1, a2, a3, a4, a5]) S M (z_Qi fun r S' M' => AW l g own cc nL rt ini (d + 1) 0 0 pc' ls (.int r :: st) S' M' Q)) : AW l g own cc nL rt ini (d + 1) 0 0 pc ls (a5 :: a4 :: a3 :: a2 :: a1 :: st) S M Q := AW.cNi pc' [a1, a2, a3, a4, a5] hd hw rfl rfl hcat hp hM
theorem AW.cNv0 (pc' : Nat) {ix n2 : Nat} {y : MethodName} {c2 : ByteArray} {r2 : Option FieldType} (hd : decode cc pc = .ok (.invokestatic ix, 3)) (hw : z_csNB own ix y c2 n2 r2 0 = true) (hcat : (st.map fun v => v.category).sum ≤ 8) (hp : pc + 3 = pc') (hM : AMet l g y c2 n2 r2 d 0 0 ([]) S M (z_Qv fun S' M' => AW l g own cc nL rt ini (d + 1) 0 0 pc' ls st S' M' Q)) : AW l g own cc nL rt ini (d + 1) 0 0 pc ls (st) S M Q := AW.cNv pc' [] hd hw rfl rfl hcat hp hM
theorem AW.cNv1 (pc' : Nat) {ix n2 : Nat} {y : MethodName} {c2 : ByteArray} {r2 : Option FieldType} {a1 : Value} (hd : decode cc pc = .ok (.invokestatic ix, 3)) (hw : z_csNB own ix y c2 n2 r2 1 = true) (hcat : (st.map fun v => v.category).sum ≤ 8) (hp : pc + 3 = pc') (hM : AMet l g y c2 n2 r2 d 0 0 ([a1]) S M (z_Qv fun S' M' => AW l g own cc nL rt ini (d + 1) 0 0 pc' ls st S' M' Q)) : AW l g own cc nL rt ini (d + 1) 0 0 pc ls (a1 :: st) S M Q := AW.cNv pc' [a1] hd hw rfl rfl hcat hp hM
theorem AW.cNv2 (pc' : Nat) {ix n2 : Nat} {y : MethodName} {c2 : ByteArray} {r2 : Option FieldType} {a1 a2 : Value} (hd : decode cc pc = .ok (.invokestatic ix, 3)) (hw : z_csNB own ix y c2 n2 r2 2 = true) (hcat : (st.map fun v => v.category).sum ≤ 8) (hp : pc + 3 = pc') (hM : AMet l g y c2 n2 r2 d 0 0 ([a1, a2]) S M (z_Qv fun S' M' => AW l g own cc nL rt ini (d + 1) 0 0 pc' ls st S' M' Q)) : AW l g own cc nL rt ini (d + 1) 0 0 pc ls (a2 :: a1 :: st) S M Q := AW.cNv pc' [a1, a2] hd hw rfl rfl hcat hp hM
theorem AW.cNv3 (pc' : Nat) {ix n2 : Nat} {y : MethodName} {c2 : ByteArray} {r2 : Option FieldType} {a1 a2 a3 : Value} (hd : decode cc pc = .ok (.invokestatic ix, 3)) (hw : z_csNB own ix y c2 n2 r2 3 = true) (hcat : (st.map fun v => v.category).sum ≤ 8) (hp : pc + 3 = pc') (hM : AMet l g y c2 n2 r2 d 0 0 ([a1, a2, a3]) S M (z_Qv fun S' M' => AW l g own cc nL rt ini (d + 1) 0 0 pc' ls st S' M' Q)) : AW l g own cc nL rt ini (d + 1) 0 0 pc ls (a3 :: a2 :: a1 :: st) S M Q := AW.cNv pc' [a1, a2, a3] hd hw rfl rfl hcat hp hM
theorem AW.cNv4 (pc' : Nat) {ix n2 : Nat} {y : MethodName} {c2 : ByteArray} {r2 : Option FieldType} {a1 a2 a3 a4 : Value} (hd : decode cc pc = .ok (.invokestatic ix, 3)) (hw : z_csNB own ix y c2 n2 r2 4 = true) (hcat : (st.map fun v => v.category).sum ≤ 8) (hp : pc + 3 = pc') (hM : AMet l g y c2 n2 r2 d 0 0 ([a1, a2, a3, a4]) S M (z_Qv fun S' M' => AW l g own cc nL rt ini (d + 1) 0 0 pc' ls st S' M' Q)) : AW l g own cc nL rt ini (d + 1) 0 0 pc ls (a4 :: a3 :: a2 :: a1 :: st) S M Q := AW.cNv pc' [a1, a2, a3, a4] hd hw rfl rfl hcat hp hM
theorem AW.cNv5 (pc' : Nat) {ix n2 : Nat} {y : MethodName} {c2 : ByteArray} {r2 : Option FieldType} {a1 a2 a3 a4 a5 : Value} (hd : decode cc pc = .ok (.invokestatic ix, 3)) (hw : z_csNB own ix y c2 n2 r2 5 = true) (hcat : (st.map fun v => v.category).sum ≤ 8) (hp : pc + 3 = pc') (hM : AMet l g y c2 n2 r2 d 0 0 ([a1, a2, a3, a4, a5]) S M (z_Qv fun S' M' => AW l g own cc nL rt ini (d + 1) 0 0 pc' ls st S' M' Q)) : AW l g own cc nL rt ini (d + 1) 0 0 pc ls (a5 :: a4 :: a3 :: a2 :: a1 :: st) S M Q := AW.cNv pc' [a1, a2, a3, a4, a5] hd hw rfl rfl hcat hp hM
end AWY
end
section
theorem qL_7 : Cond.classLink R_law 7 "MachineBench" ∈ z_U := z_U_ix (i := 68) (by decide +kernel) rfl
theorem qX9_1 : Cond.methodLink RX9 1 objectInit ∈ z_U := z_U_ix (i := 73) (by decide +kernel) rfl
theorem qX9_7 : Cond.classLink RX9 7 "MachineBench$Tape" ∈ z_U := z_U_ix (i := 76) (by decide +kernel) rfl
theorem qX6_3 : Cond.methodLink RX6 3 objectInit ∈ z_U := z_U_ix (i := 81) (by decide +kernel) rfl
theorem qX9_16 : Cond.classLink RX9 16 "MachineBench$Reader" ∈ z_U := z_U_ix (i := 93) (by decide +kernel) rfl
theorem qX4_3 : Cond.methodLink RX4 3 objectInit ∈ z_U := z_U_ix (i := 98) (by decide +kernel) rfl
theorem qX4_9 : Cond.classLink RX4 9 "[[I" ∈ z_U := z_U_ix (i := 99) (by decide +kernel) rfl
theorem qX9_25 : Cond.classLink RX9 25 "MachineBench$Machine" ∈ z_U := z_U_ix (i := 123) (by decide +kernel) rfl
theorem qX2_3 : Cond.methodLink RX2 3 objectInit ∈ z_U := z_U_ix (i := 129) (by decide +kernel) rfl
theorem qX2_21 : Cond.classLink RX2 21 "[[I" ∈ z_U := z_U_ix (i := 130) (by decide +kernel) rfl
theorem qX9_36 : Cond.classLink RX9 36 "MachineBench$World" ∈ z_U := z_U_ix (i := 156) (by decide +kernel) rfl
theorem qX8_3 : Cond.methodLink RX8 3 objectInit ∈ z_U := z_U_ix (i := 161) (by decide +kernel) rfl
theorem qX8_9 : Cond.classLink RX8 9 "[[I" ∈ z_U := z_U_ix (i := 162) (by decide +kernel) rfl
theorem qX9_43 : Cond.classLink RX9 43 "MachineBench$Play" ∈ z_U := z_U_ix (i := 176) (by decide +kernel) rfl
theorem qX3_3 : Cond.methodLink RX3 3 objectInit ∈ z_U := z_U_ix (i := 181) (by decide +kernel) rfl
theorem qX9_50 : Cond.classLink RX9 50 "MachineBench$Book" ∈ z_U := z_U_ix (i := 205) (by decide +kernel) rfl
theorem qX0_3 : Cond.methodLink RX0 3 objectInit ∈ z_U := z_U_ix (i := 210) (by decide +kernel) rfl
theorem qX0_9 : Cond.classLink RX0 9 "[[I" ∈ z_U := z_U_ix (i := 211) (by decide +kernel) rfl
theorem qX9_57 : Cond.classLink RX9 57 "MachineBench$Keeper" ∈ z_U := z_U_ix (i := 223) (by decide +kernel) rfl
theorem qX1_3 : Cond.methodLink RX1 3 objectInit ∈ z_U := z_U_ix (i := 229) (by decide +kernel) rfl
theorem qX9_64 : Cond.classLink RX9 64 "MachineBench$Things" ∈ z_U := z_U_ix (i := 239) (by decide +kernel) rfl
theorem qX7_3 : Cond.methodLink RX7 3 objectInit ∈ z_U := z_U_ix (i := 244) (by decide +kernel) rfl
theorem qX9_82 : Cond.classLink RX9 82 "MachineBench$Sheet" ∈ z_U := z_U_ix (i := 259) (by decide +kernel) rfl
theorem qX5_3 : Cond.methodLink RX5 3 objectInit ∈ z_U := z_U_ix (i := 265) (by decide +kernel) rfl
theorem qX4_100 : Cond.fieldLinkNest RX4 100 "MachineBench" (z_sn 3) "[I" "MachineBench" ∈ z_U := z_U_ix (i := 389) (by decide +kernel) rfl
theorem qX4_107 : Cond.constant RX4 107 (-1431655766) ∈ z_U := z_U_ix (i := 395) (by decide +kernel) rfl
theorem qX4_62 : Cond.methodLink RX4 62 arraycopyName ∈ z_U := z_U_ix (i := 400) (by decide +kernel) rfl
theorem qX9_153 : Cond.methodLink RX9 153 arraycopyName ∈ z_U := z_U_ix (i := 443) (by decide +kernel) rfl
theorem qX3_33 : Cond.methodLink RX3 33 arraycopyName ∈ z_U := z_U_ix (i := 460) (by decide +kernel) rfl
theorem qX0_20 : Cond.fieldLinkNest RX0 20 "MachineBench" (z_sn 1) "[I" "MachineBench" ∈ z_U := z_U_ix (i := 497) (by decide +kernel) rfl
theorem qX9_208 : Cond.fieldLink RX9 208 "MachineBench" (z_sn 0) "[I" ∈ z_U := z_U_ix (i := 527) (by decide +kernel) rfl
theorem qX0_24 : Cond.methodLink RX0 24 arraycopyName ∈ z_U := z_U_ix (i := 545) (by decide +kernel) rfl
theorem qX1_26 : Cond.methodLink RX1 26 arraycopyName ∈ z_U := z_U_ix (i := 558) (by decide +kernel) rfl
theorem qJ6_265 : Cond.constant RJ6 265 (nI 1431655765) ∈ z_U := z_U_ix (i := 649) (by decide +kernel) rfl
theorem qJ6_266 : Cond.constant RJ6 266 (nI 858993459) ∈ z_U := z_U_ix (i := 650) (by decide +kernel) rfl
theorem qJ6_267 : Cond.constant RJ6 267 (nI 252645135) ∈ z_U := z_U_ix (i := 651) (by decide +kernel) rfl
theorem qX9_282 : Cond.fieldLink RX9 282 "MachineBench" (z_sn 2) "[I" ∈ z_U := z_U_ix (i := 680) (by decide +kernel) rfl
theorem qL_10 : Cond.classLink R_law 10 "MachineBenchModel" ∈ z_U := z_U_ix (i := 729) (by decide +kernel) rfl
theorem qX10_1 : Cond.methodLink RX10 1 objectInit ∈ z_U := z_U_ix (i := 734) (by decide +kernel) rfl
theorem qX10_129 : Cond.constantLong RX10 129 (lN 8) ∈ z_U := z_U_ix (i := 878) (by decide +kernel) rfl
theorem qX10_135 : Cond.constantLong RX10 135 (lN 255) ∈ z_U := z_U_ix (i := 882) (by decide +kernel) rfl
theorem qX10_137 : Cond.constantLong RX10 137 (lN 32) ∈ z_U := z_U_ix (i := 883) (by decide +kernel) rfl
theorem qX10_139 : Cond.constantLong RX10 139 (lN 126) ∈ z_U := z_U_ix (i := 884) (by decide +kernel) rfl
theorem qX10_155 : Cond.constantLong RX10 155 (lN 48) ∈ z_U := z_U_ix (i := 904) (by decide +kernel) rfl
theorem qX10_157 : Cond.constantLong RX10 157 (lN 51) ∈ z_U := z_U_ix (i := 905) (by decide +kernel) rfl
theorem qX10_180 : Cond.constantLong RX10 180 (lN 2) ∈ z_U := z_U_ix (i := 922) (by decide +kernel) rfl
theorem qX10_182 : Cond.constantLong RX10 182 (lN 12) ∈ z_U := z_U_ix (i := 927) (by decide +kernel) rfl
theorem qX10_187 : Cond.constantLong RX10 187 (lN 15) ∈ z_U := z_U_ix (i := 936) (by decide +kernel) rfl
theorem qX10_207 : Cond.constantLong RX10 207 (lN 3) ∈ z_U := z_U_ix (i := 944) (by decide +kernel) rfl
theorem qX10_220 : Cond.constantLong RX10 220 (lN 11) ∈ z_U := z_U_ix (i := 989) (by decide +kernel) rfl
theorem qX10_222 : Cond.constantLong RX10 222 (lN 99) ∈ z_U := z_U_ix (i := 990) (by decide +kernel) rfl
theorem qX10_227 : Cond.constantLong RX10 227 (lN 4) ∈ z_U := z_U_ix (i := 999) (by decide +kernel) rfl
theorem qX10_242 : Cond.constantLong RX10 242 (lN 47) ∈ z_U := z_U_ix (i := 1035) (by decide +kernel) rfl
theorem qX10_254 : Cond.constantLong RX10 254 (lN 7) ∈ z_U := z_U_ix (i := 1060) (by decide +kernel) rfl
theorem qL_13 : Cond.constantLong R_law 13 (lN 4294967295) ∈ z_U := z_U_ix (i := 1143) (by decide +kernel) rfl
section AWL
variable {l : Launch} {g : zG} {own : String} {cc : ByteArray} {nL : Nat} {rt : Option FieldType} {ini : Bool} {d bc bs pc : Nat} {ls : List (Option Value)} {st : List Value} {S : zS} {M : zM} {Q : Option Value → zS → zM → Prop}
theorem AW.ldcw (pc' : Nat) {ix : Nat} (v : Int32) (hd : decode cc pc = .ok (.ldc_w ix, 3)) (hw : Cond.constant own ix v ∈ z_U) (hp : pc + 3 = pc') (k : AW l g own cc nL rt ini d bc bs pc' ls (.int v :: st) S M Q) : AW l g own cc nL rt ini d bc bs pc ls st S M Q := by
  subst hp
  intro p e R s m args below meth c H locs cells slots mc ms hx hb hr hml hown hlk hin hA h1 h2 h3 h4 h5 h6 h7 h8 h9 hP hS la hl
  exact lv_ldcw hx hb hown (hA.word _ hw) hd (k p e R s m args below meth c H locs cells slots mc ms hx hb hr hml hown hlk hin hA h1 h2 h3 h4 h5 h6 h7 h8 h9 hP hS la hl)
end AWL
end
section
theorem z_inc1 (t : Nat) : nI t + Int32.ofInt 1 = nI (t + 1) := nI_1 t
theorem z_inc6 (t : Nat) : nI t + Int32.ofInt 6 = nI (t + 6) := nI_add t 6
theorem z_dec (t : Nat) : nI (t + 1) + Int32.ofInt (-1) = nI t := pk_m1 t
theorem z0_lt {a b : Int32} : a < b ↔ a.toInt < b.toInt := Int32.lt_iff_toInt_lt
theorem z0_le {a b : Int32} : a ≤ b ↔ a.toInt ≤ b.toInt := Int32.le_iff_toInt_le
theorem z0_eq {a b : Int32} : a = b ↔ a.toInt = b.toInt := Int32.toInt_inj.symm
theorem z_nI_lt0 (a : Nat) (h : a < 2 ^ 31) : ¬ nI a < 0 := nI_pos h
theorem z_b1 : narrow .boolean (.int 1) = .int 1 ∧ fits .boolean (.int 1) = true := ⟨rfl, rfl⟩
section AWZ
variable {l : Launch} {g : zG} {own : String} {cc : ByteArray} {nL : Nat} {rt : Option FieldType} {ini : Bool} {d bc bs pc : Nat} {ls : List (Option Value)} {st : List Value} {S : zS} {M : zM} {Q : Option Value → zS → zM → Prop}
theorem AW.istn0 (pc' : Nat) {o : Option Value} {r : List (Option Value)} {x : Int32} (hd : decode cc pc = .ok (.istore_n 0, 1)) (hi : 0 < nL) (hok : z_ok (o :: r) 0 = true) (hp : pc + 1 = pc') (k : AW l g own cc nL rt ini d bc bs pc' (some (.int x) :: r) st S M Q) : AW l g own cc nL rt ini d bc bs pc (o :: r) (.int x :: st) S M Q := AW.istore_n pc' hd hi hok hp rfl k
theorem AW.ist0 (pc' : Nat) {o : Option Value} {r : List (Option Value)} {x : Int32} (hd : decode cc pc = .ok (.istore 0, 2)) (hi : 0 < nL) (hok : z_ok (o :: r) 0 = true) (hp : pc + 2 = pc') (k : AW l g own cc nL rt ini d bc bs pc' (some (.int x) :: r) st S M Q) : AW l g own cc nL rt ini d bc bs pc (o :: r) (.int x :: st) S M Q := AW.istore pc' hd hi hok hp rfl k
theorem AW.astn0 (pc' : Nat) {o : Option Value} {r : List (Option Value)} {x : Nat} (hd : decode cc pc = .ok (.astore_n 0, 1)) (hi : 0 < nL) (hok : z_ok (o :: r) 0 = true) (hp : pc + 1 = pc') (k : AW l g own cc nL rt ini d bc bs pc' (some (.ref x) :: r) st S M Q) : AW l g own cc nL rt ini d bc bs pc (o :: r) (.ref x :: st) S M Q := AW.astore_n pc' hd hi hok hp rfl k
theorem AW.ast0 (pc' : Nat) {o : Option Value} {r : List (Option Value)} {x : Nat} (hd : decode cc pc = .ok (.astore 0, 2)) (hi : 0 < nL) (hok : z_ok (o :: r) 0 = true) (hp : pc + 2 = pc') (k : AW l g own cc nL rt ini d bc bs pc' (some (.ref x) :: r) st S M Q) : AW l g own cc nL rt ini d bc bs pc (o :: r) (.ref x :: st) S M Q := AW.astore pc' hd hi hok hp rfl k
theorem AW.iinc0 (pc' : Nat) (v : Int32) {r : List (Option Value)} {x : Int32} {n : Int} (hd : decode cc pc = .ok (.iinc 0 n, 3)) (hv : x + Int32.ofInt n = v) (hi : 0 < nL) (hok : z_ok (some (.int x) :: r) 0 = true) (hp : pc + 3 = pc') (k : AW l g own cc nL rt ini d bc bs pc' (some (.int v) :: r) st S M Q) : AW l g own cc nL rt ini d bc bs pc (some (.int x) :: r) st S M Q := AW.iinc pc' v hd rfl hv hi hok hp rfl k
theorem AW.istn1 (pc' : Nat) {a0 o : Option Value} {r : List (Option Value)} {x : Int32} (hd : decode cc pc = .ok (.istore_n 1, 1)) (hi : 1 < nL) (hok : z_ok (a0 :: o :: r) 1 = true) (hp : pc + 1 = pc') (k : AW l g own cc nL rt ini d bc bs pc' (a0 :: some (.int x) :: r) st S M Q) : AW l g own cc nL rt ini d bc bs pc (a0 :: o :: r) (.int x :: st) S M Q := AW.istore_n pc' hd hi hok hp rfl k
theorem AW.ist1 (pc' : Nat) {a0 o : Option Value} {r : List (Option Value)} {x : Int32} (hd : decode cc pc = .ok (.istore 1, 2)) (hi : 1 < nL) (hok : z_ok (a0 :: o :: r) 1 = true) (hp : pc + 2 = pc') (k : AW l g own cc nL rt ini d bc bs pc' (a0 :: some (.int x) :: r) st S M Q) : AW l g own cc nL rt ini d bc bs pc (a0 :: o :: r) (.int x :: st) S M Q := AW.istore pc' hd hi hok hp rfl k
theorem AW.astn1 (pc' : Nat) {a0 o : Option Value} {r : List (Option Value)} {x : Nat} (hd : decode cc pc = .ok (.astore_n 1, 1)) (hi : 1 < nL) (hok : z_ok (a0 :: o :: r) 1 = true) (hp : pc + 1 = pc') (k : AW l g own cc nL rt ini d bc bs pc' (a0 :: some (.ref x) :: r) st S M Q) : AW l g own cc nL rt ini d bc bs pc (a0 :: o :: r) (.ref x :: st) S M Q := AW.astore_n pc' hd hi hok hp rfl k
theorem AW.ast1 (pc' : Nat) {a0 o : Option Value} {r : List (Option Value)} {x : Nat} (hd : decode cc pc = .ok (.astore 1, 2)) (hi : 1 < nL) (hok : z_ok (a0 :: o :: r) 1 = true) (hp : pc + 2 = pc') (k : AW l g own cc nL rt ini d bc bs pc' (a0 :: some (.ref x) :: r) st S M Q) : AW l g own cc nL rt ini d bc bs pc (a0 :: o :: r) (.ref x :: st) S M Q := AW.astore pc' hd hi hok hp rfl k
theorem AW.iinc1 (pc' : Nat) (v : Int32) {a0 : Option Value} {r : List (Option Value)} {x : Int32} {n : Int} (hd : decode cc pc = .ok (.iinc 1 n, 3)) (hv : x + Int32.ofInt n = v) (hi : 1 < nL) (hok : z_ok (a0 :: some (.int x) :: r) 1 = true) (hp : pc + 3 = pc') (k : AW l g own cc nL rt ini d bc bs pc' (a0 :: some (.int v) :: r) st S M Q) : AW l g own cc nL rt ini d bc bs pc (a0 :: some (.int x) :: r) st S M Q := AW.iinc pc' v hd rfl hv hi hok hp rfl k
theorem AW.istn2 (pc' : Nat) {a0 a1 o : Option Value} {r : List (Option Value)} {x : Int32} (hd : decode cc pc = .ok (.istore_n 2, 1)) (hi : 2 < nL) (hok : z_ok (a0 :: a1 :: o :: r) 2 = true) (hp : pc + 1 = pc') (k : AW l g own cc nL rt ini d bc bs pc' (a0 :: a1 :: some (.int x) :: r) st S M Q) : AW l g own cc nL rt ini d bc bs pc (a0 :: a1 :: o :: r) (.int x :: st) S M Q := AW.istore_n pc' hd hi hok hp rfl k
theorem AW.ist2 (pc' : Nat) {a0 a1 o : Option Value} {r : List (Option Value)} {x : Int32} (hd : decode cc pc = .ok (.istore 2, 2)) (hi : 2 < nL) (hok : z_ok (a0 :: a1 :: o :: r) 2 = true) (hp : pc + 2 = pc') (k : AW l g own cc nL rt ini d bc bs pc' (a0 :: a1 :: some (.int x) :: r) st S M Q) : AW l g own cc nL rt ini d bc bs pc (a0 :: a1 :: o :: r) (.int x :: st) S M Q := AW.istore pc' hd hi hok hp rfl k
theorem AW.astn2 (pc' : Nat) {a0 a1 o : Option Value} {r : List (Option Value)} {x : Nat} (hd : decode cc pc = .ok (.astore_n 2, 1)) (hi : 2 < nL) (hok : z_ok (a0 :: a1 :: o :: r) 2 = true) (hp : pc + 1 = pc') (k : AW l g own cc nL rt ini d bc bs pc' (a0 :: a1 :: some (.ref x) :: r) st S M Q) : AW l g own cc nL rt ini d bc bs pc (a0 :: a1 :: o :: r) (.ref x :: st) S M Q := AW.astore_n pc' hd hi hok hp rfl k
theorem AW.ast2 (pc' : Nat) {a0 a1 o : Option Value} {r : List (Option Value)} {x : Nat} (hd : decode cc pc = .ok (.astore 2, 2)) (hi : 2 < nL) (hok : z_ok (a0 :: a1 :: o :: r) 2 = true) (hp : pc + 2 = pc') (k : AW l g own cc nL rt ini d bc bs pc' (a0 :: a1 :: some (.ref x) :: r) st S M Q) : AW l g own cc nL rt ini d bc bs pc (a0 :: a1 :: o :: r) (.ref x :: st) S M Q := AW.astore pc' hd hi hok hp rfl k
theorem AW.iinc2 (pc' : Nat) (v : Int32) {a0 a1 : Option Value} {r : List (Option Value)} {x : Int32} {n : Int} (hd : decode cc pc = .ok (.iinc 2 n, 3)) (hv : x + Int32.ofInt n = v) (hi : 2 < nL) (hok : z_ok (a0 :: a1 :: some (.int x) :: r) 2 = true) (hp : pc + 3 = pc') (k : AW l g own cc nL rt ini d bc bs pc' (a0 :: a1 :: some (.int v) :: r) st S M Q) : AW l g own cc nL rt ini d bc bs pc (a0 :: a1 :: some (.int x) :: r) st S M Q := AW.iinc pc' v hd rfl hv hi hok hp rfl k
theorem AW.istn3 (pc' : Nat) {a0 a1 a2 o : Option Value} {r : List (Option Value)} {x : Int32} (hd : decode cc pc = .ok (.istore_n 3, 1)) (hi : 3 < nL) (hok : z_ok (a0 :: a1 :: a2 :: o :: r) 3 = true) (hp : pc + 1 = pc') (k : AW l g own cc nL rt ini d bc bs pc' (a0 :: a1 :: a2 :: some (.int x) :: r) st S M Q) : AW l g own cc nL rt ini d bc bs pc (a0 :: a1 :: a2 :: o :: r) (.int x :: st) S M Q := AW.istore_n pc' hd hi hok hp rfl k
theorem AW.ist3 (pc' : Nat) {a0 a1 a2 o : Option Value} {r : List (Option Value)} {x : Int32} (hd : decode cc pc = .ok (.istore 3, 2)) (hi : 3 < nL) (hok : z_ok (a0 :: a1 :: a2 :: o :: r) 3 = true) (hp : pc + 2 = pc') (k : AW l g own cc nL rt ini d bc bs pc' (a0 :: a1 :: a2 :: some (.int x) :: r) st S M Q) : AW l g own cc nL rt ini d bc bs pc (a0 :: a1 :: a2 :: o :: r) (.int x :: st) S M Q := AW.istore pc' hd hi hok hp rfl k
theorem AW.astn3 (pc' : Nat) {a0 a1 a2 o : Option Value} {r : List (Option Value)} {x : Nat} (hd : decode cc pc = .ok (.astore_n 3, 1)) (hi : 3 < nL) (hok : z_ok (a0 :: a1 :: a2 :: o :: r) 3 = true) (hp : pc + 1 = pc') (k : AW l g own cc nL rt ini d bc bs pc' (a0 :: a1 :: a2 :: some (.ref x) :: r) st S M Q) : AW l g own cc nL rt ini d bc bs pc (a0 :: a1 :: a2 :: o :: r) (.ref x :: st) S M Q := AW.astore_n pc' hd hi hok hp rfl k
theorem AW.ast3 (pc' : Nat) {a0 a1 a2 o : Option Value} {r : List (Option Value)} {x : Nat} (hd : decode cc pc = .ok (.astore 3, 2)) (hi : 3 < nL) (hok : z_ok (a0 :: a1 :: a2 :: o :: r) 3 = true) (hp : pc + 2 = pc') (k : AW l g own cc nL rt ini d bc bs pc' (a0 :: a1 :: a2 :: some (.ref x) :: r) st S M Q) : AW l g own cc nL rt ini d bc bs pc (a0 :: a1 :: a2 :: o :: r) (.ref x :: st) S M Q := AW.astore pc' hd hi hok hp rfl k
theorem AW.iinc3 (pc' : Nat) (v : Int32) {a0 a1 a2 : Option Value} {r : List (Option Value)} {x : Int32} {n : Int} (hd : decode cc pc = .ok (.iinc 3 n, 3)) (hv : x + Int32.ofInt n = v) (hi : 3 < nL) (hok : z_ok (a0 :: a1 :: a2 :: some (.int x) :: r) 3 = true) (hp : pc + 3 = pc') (k : AW l g own cc nL rt ini d bc bs pc' (a0 :: a1 :: a2 :: some (.int v) :: r) st S M Q) : AW l g own cc nL rt ini d bc bs pc (a0 :: a1 :: a2 :: some (.int x) :: r) st S M Q := AW.iinc pc' v hd rfl hv hi hok hp rfl k
theorem AW.ist4 (pc' : Nat) {a0 a1 a2 a3 o : Option Value} {r : List (Option Value)} {x : Int32} (hd : decode cc pc = .ok (.istore 4, 2)) (hi : 4 < nL) (hok : z_ok (a0 :: a1 :: a2 :: a3 :: o :: r) 4 = true) (hp : pc + 2 = pc') (k : AW l g own cc nL rt ini d bc bs pc' (a0 :: a1 :: a2 :: a3 :: some (.int x) :: r) st S M Q) : AW l g own cc nL rt ini d bc bs pc (a0 :: a1 :: a2 :: a3 :: o :: r) (.int x :: st) S M Q := AW.istore pc' hd hi hok hp rfl k
theorem AW.ast4 (pc' : Nat) {a0 a1 a2 a3 o : Option Value} {r : List (Option Value)} {x : Nat} (hd : decode cc pc = .ok (.astore 4, 2)) (hi : 4 < nL) (hok : z_ok (a0 :: a1 :: a2 :: a3 :: o :: r) 4 = true) (hp : pc + 2 = pc') (k : AW l g own cc nL rt ini d bc bs pc' (a0 :: a1 :: a2 :: a3 :: some (.ref x) :: r) st S M Q) : AW l g own cc nL rt ini d bc bs pc (a0 :: a1 :: a2 :: a3 :: o :: r) (.ref x :: st) S M Q := AW.astore pc' hd hi hok hp rfl k
theorem AW.iinc4 (pc' : Nat) (v : Int32) {a0 a1 a2 a3 : Option Value} {r : List (Option Value)} {x : Int32} {n : Int} (hd : decode cc pc = .ok (.iinc 4 n, 3)) (hv : x + Int32.ofInt n = v) (hi : 4 < nL) (hok : z_ok (a0 :: a1 :: a2 :: a3 :: some (.int x) :: r) 4 = true) (hp : pc + 3 = pc') (k : AW l g own cc nL rt ini d bc bs pc' (a0 :: a1 :: a2 :: a3 :: some (.int v) :: r) st S M Q) : AW l g own cc nL rt ini d bc bs pc (a0 :: a1 :: a2 :: a3 :: some (.int x) :: r) st S M Q := AW.iinc pc' v hd rfl hv hi hok hp rfl k
theorem AW.ist5 (pc' : Nat) {a0 a1 a2 a3 a4 o : Option Value} {r : List (Option Value)} {x : Int32} (hd : decode cc pc = .ok (.istore 5, 2)) (hi : 5 < nL) (hok : z_ok (a0 :: a1 :: a2 :: a3 :: a4 :: o :: r) 5 = true) (hp : pc + 2 = pc') (k : AW l g own cc nL rt ini d bc bs pc' (a0 :: a1 :: a2 :: a3 :: a4 :: some (.int x) :: r) st S M Q) : AW l g own cc nL rt ini d bc bs pc (a0 :: a1 :: a2 :: a3 :: a4 :: o :: r) (.int x :: st) S M Q := AW.istore pc' hd hi hok hp rfl k
theorem AW.ast5 (pc' : Nat) {a0 a1 a2 a3 a4 o : Option Value} {r : List (Option Value)} {x : Nat} (hd : decode cc pc = .ok (.astore 5, 2)) (hi : 5 < nL) (hok : z_ok (a0 :: a1 :: a2 :: a3 :: a4 :: o :: r) 5 = true) (hp : pc + 2 = pc') (k : AW l g own cc nL rt ini d bc bs pc' (a0 :: a1 :: a2 :: a3 :: a4 :: some (.ref x) :: r) st S M Q) : AW l g own cc nL rt ini d bc bs pc (a0 :: a1 :: a2 :: a3 :: a4 :: o :: r) (.ref x :: st) S M Q := AW.astore pc' hd hi hok hp rfl k
theorem AW.iinc5 (pc' : Nat) (v : Int32) {a0 a1 a2 a3 a4 : Option Value} {r : List (Option Value)} {x : Int32} {n : Int} (hd : decode cc pc = .ok (.iinc 5 n, 3)) (hv : x + Int32.ofInt n = v) (hi : 5 < nL) (hok : z_ok (a0 :: a1 :: a2 :: a3 :: a4 :: some (.int x) :: r) 5 = true) (hp : pc + 3 = pc') (k : AW l g own cc nL rt ini d bc bs pc' (a0 :: a1 :: a2 :: a3 :: a4 :: some (.int v) :: r) st S M Q) : AW l g own cc nL rt ini d bc bs pc (a0 :: a1 :: a2 :: a3 :: a4 :: some (.int x) :: r) st S M Q := AW.iinc pc' v hd rfl hv hi hok hp rfl k
theorem AW.ist6 (pc' : Nat) {a0 a1 a2 a3 a4 a5 o : Option Value} {r : List (Option Value)} {x : Int32} (hd : decode cc pc = .ok (.istore 6, 2)) (hi : 6 < nL) (hok : z_ok (a0 :: a1 :: a2 :: a3 :: a4 :: a5 :: o :: r) 6 = true) (hp : pc + 2 = pc') (k : AW l g own cc nL rt ini d bc bs pc' (a0 :: a1 :: a2 :: a3 :: a4 :: a5 :: some (.int x) :: r) st S M Q) : AW l g own cc nL rt ini d bc bs pc (a0 :: a1 :: a2 :: a3 :: a4 :: a5 :: o :: r) (.int x :: st) S M Q := AW.istore pc' hd hi hok hp rfl k
theorem AW.ast6 (pc' : Nat) {a0 a1 a2 a3 a4 a5 o : Option Value} {r : List (Option Value)} {x : Nat} (hd : decode cc pc = .ok (.astore 6, 2)) (hi : 6 < nL) (hok : z_ok (a0 :: a1 :: a2 :: a3 :: a4 :: a5 :: o :: r) 6 = true) (hp : pc + 2 = pc') (k : AW l g own cc nL rt ini d bc bs pc' (a0 :: a1 :: a2 :: a3 :: a4 :: a5 :: some (.ref x) :: r) st S M Q) : AW l g own cc nL rt ini d bc bs pc (a0 :: a1 :: a2 :: a3 :: a4 :: a5 :: o :: r) (.ref x :: st) S M Q := AW.astore pc' hd hi hok hp rfl k
theorem AW.iinc6 (pc' : Nat) (v : Int32) {a0 a1 a2 a3 a4 a5 : Option Value} {r : List (Option Value)} {x : Int32} {n : Int} (hd : decode cc pc = .ok (.iinc 6 n, 3)) (hv : x + Int32.ofInt n = v) (hi : 6 < nL) (hok : z_ok (a0 :: a1 :: a2 :: a3 :: a4 :: a5 :: some (.int x) :: r) 6 = true) (hp : pc + 3 = pc') (k : AW l g own cc nL rt ini d bc bs pc' (a0 :: a1 :: a2 :: a3 :: a4 :: a5 :: some (.int v) :: r) st S M Q) : AW l g own cc nL rt ini d bc bs pc (a0 :: a1 :: a2 :: a3 :: a4 :: a5 :: some (.int x) :: r) st S M Q := AW.iinc pc' v hd rfl hv hi hok hp rfl k
theorem AW.ist7 (pc' : Nat) {a0 a1 a2 a3 a4 a5 a6 o : Option Value} {r : List (Option Value)} {x : Int32} (hd : decode cc pc = .ok (.istore 7, 2)) (hi : 7 < nL) (hok : z_ok (a0 :: a1 :: a2 :: a3 :: a4 :: a5 :: a6 :: o :: r) 7 = true) (hp : pc + 2 = pc') (k : AW l g own cc nL rt ini d bc bs pc' (a0 :: a1 :: a2 :: a3 :: a4 :: a5 :: a6 :: some (.int x) :: r) st S M Q) : AW l g own cc nL rt ini d bc bs pc (a0 :: a1 :: a2 :: a3 :: a4 :: a5 :: a6 :: o :: r) (.int x :: st) S M Q := AW.istore pc' hd hi hok hp rfl k
theorem AW.ast7 (pc' : Nat) {a0 a1 a2 a3 a4 a5 a6 o : Option Value} {r : List (Option Value)} {x : Nat} (hd : decode cc pc = .ok (.astore 7, 2)) (hi : 7 < nL) (hok : z_ok (a0 :: a1 :: a2 :: a3 :: a4 :: a5 :: a6 :: o :: r) 7 = true) (hp : pc + 2 = pc') (k : AW l g own cc nL rt ini d bc bs pc' (a0 :: a1 :: a2 :: a3 :: a4 :: a5 :: a6 :: some (.ref x) :: r) st S M Q) : AW l g own cc nL rt ini d bc bs pc (a0 :: a1 :: a2 :: a3 :: a4 :: a5 :: a6 :: o :: r) (.ref x :: st) S M Q := AW.astore pc' hd hi hok hp rfl k
theorem AW.iinc7 (pc' : Nat) (v : Int32) {a0 a1 a2 a3 a4 a5 a6 : Option Value} {r : List (Option Value)} {x : Int32} {n : Int} (hd : decode cc pc = .ok (.iinc 7 n, 3)) (hv : x + Int32.ofInt n = v) (hi : 7 < nL) (hok : z_ok (a0 :: a1 :: a2 :: a3 :: a4 :: a5 :: a6 :: some (.int x) :: r) 7 = true) (hp : pc + 3 = pc') (k : AW l g own cc nL rt ini d bc bs pc' (a0 :: a1 :: a2 :: a3 :: a4 :: a5 :: a6 :: some (.int v) :: r) st S M Q) : AW l g own cc nL rt ini d bc bs pc (a0 :: a1 :: a2 :: a3 :: a4 :: a5 :: a6 :: some (.int x) :: r) st S M Q := AW.iinc pc' v hd rfl hv hi hok hp rfl k
theorem AW.ist8 (pc' : Nat) {a0 a1 a2 a3 a4 a5 a6 a7 o : Option Value} {r : List (Option Value)} {x : Int32} (hd : decode cc pc = .ok (.istore 8, 2)) (hi : 8 < nL) (hok : z_ok (a0 :: a1 :: a2 :: a3 :: a4 :: a5 :: a6 :: a7 :: o :: r) 8 = true) (hp : pc + 2 = pc') (k : AW l g own cc nL rt ini d bc bs pc' (a0 :: a1 :: a2 :: a3 :: a4 :: a5 :: a6 :: a7 :: some (.int x) :: r) st S M Q) : AW l g own cc nL rt ini d bc bs pc (a0 :: a1 :: a2 :: a3 :: a4 :: a5 :: a6 :: a7 :: o :: r) (.int x :: st) S M Q := AW.istore pc' hd hi hok hp rfl k
theorem AW.ast8 (pc' : Nat) {a0 a1 a2 a3 a4 a5 a6 a7 o : Option Value} {r : List (Option Value)} {x : Nat} (hd : decode cc pc = .ok (.astore 8, 2)) (hi : 8 < nL) (hok : z_ok (a0 :: a1 :: a2 :: a3 :: a4 :: a5 :: a6 :: a7 :: o :: r) 8 = true) (hp : pc + 2 = pc') (k : AW l g own cc nL rt ini d bc bs pc' (a0 :: a1 :: a2 :: a3 :: a4 :: a5 :: a6 :: a7 :: some (.ref x) :: r) st S M Q) : AW l g own cc nL rt ini d bc bs pc (a0 :: a1 :: a2 :: a3 :: a4 :: a5 :: a6 :: a7 :: o :: r) (.ref x :: st) S M Q := AW.astore pc' hd hi hok hp rfl k
theorem AW.iinc8 (pc' : Nat) (v : Int32) {a0 a1 a2 a3 a4 a5 a6 a7 : Option Value} {r : List (Option Value)} {x : Int32} {n : Int} (hd : decode cc pc = .ok (.iinc 8 n, 3)) (hv : x + Int32.ofInt n = v) (hi : 8 < nL) (hok : z_ok (a0 :: a1 :: a2 :: a3 :: a4 :: a5 :: a6 :: a7 :: some (.int x) :: r) 8 = true) (hp : pc + 3 = pc') (k : AW l g own cc nL rt ini d bc bs pc' (a0 :: a1 :: a2 :: a3 :: a4 :: a5 :: a6 :: a7 :: some (.int v) :: r) st S M Q) : AW l g own cc nL rt ini d bc bs pc (a0 :: a1 :: a2 :: a3 :: a4 :: a5 :: a6 :: a7 :: some (.int x) :: r) st S M Q := AW.iinc pc' v hd rfl hv hi hok hp rfl k
theorem AW.ist9 (pc' : Nat) {a0 a1 a2 a3 a4 a5 a6 a7 a8 o : Option Value} {r : List (Option Value)} {x : Int32} (hd : decode cc pc = .ok (.istore 9, 2)) (hi : 9 < nL) (hok : z_ok (a0 :: a1 :: a2 :: a3 :: a4 :: a5 :: a6 :: a7 :: a8 :: o :: r) 9 = true) (hp : pc + 2 = pc') (k : AW l g own cc nL rt ini d bc bs pc' (a0 :: a1 :: a2 :: a3 :: a4 :: a5 :: a6 :: a7 :: a8 :: some (.int x) :: r) st S M Q) : AW l g own cc nL rt ini d bc bs pc (a0 :: a1 :: a2 :: a3 :: a4 :: a5 :: a6 :: a7 :: a8 :: o :: r) (.int x :: st) S M Q := AW.istore pc' hd hi hok hp rfl k
theorem AW.ast9 (pc' : Nat) {a0 a1 a2 a3 a4 a5 a6 a7 a8 o : Option Value} {r : List (Option Value)} {x : Nat} (hd : decode cc pc = .ok (.astore 9, 2)) (hi : 9 < nL) (hok : z_ok (a0 :: a1 :: a2 :: a3 :: a4 :: a5 :: a6 :: a7 :: a8 :: o :: r) 9 = true) (hp : pc + 2 = pc') (k : AW l g own cc nL rt ini d bc bs pc' (a0 :: a1 :: a2 :: a3 :: a4 :: a5 :: a6 :: a7 :: a8 :: some (.ref x) :: r) st S M Q) : AW l g own cc nL rt ini d bc bs pc (a0 :: a1 :: a2 :: a3 :: a4 :: a5 :: a6 :: a7 :: a8 :: o :: r) (.ref x :: st) S M Q := AW.astore pc' hd hi hok hp rfl k
theorem AW.iinc9 (pc' : Nat) (v : Int32) {a0 a1 a2 a3 a4 a5 a6 a7 a8 : Option Value} {r : List (Option Value)} {x : Int32} {n : Int} (hd : decode cc pc = .ok (.iinc 9 n, 3)) (hv : x + Int32.ofInt n = v) (hi : 9 < nL) (hok : z_ok (a0 :: a1 :: a2 :: a3 :: a4 :: a5 :: a6 :: a7 :: a8 :: some (.int x) :: r) 9 = true) (hp : pc + 3 = pc') (k : AW l g own cc nL rt ini d bc bs pc' (a0 :: a1 :: a2 :: a3 :: a4 :: a5 :: a6 :: a7 :: a8 :: some (.int v) :: r) st S M Q) : AW l g own cc nL rt ini d bc bs pc (a0 :: a1 :: a2 :: a3 :: a4 :: a5 :: a6 :: a7 :: a8 :: some (.int x) :: r) st S M Q := AW.iinc pc' v hd rfl hv hi hok hp rfl k
theorem AW.iaddN (pc' : Nat) {a b : Nat} (hd : decode cc pc = .ok (.iadd, 1)) (hp : pc + 1 = pc') (k : AW l g own cc nL rt ini d bc bs pc' ls (.int (nI (a + b)) :: st) S M Q) : AW l g own cc nL rt ini d bc bs pc ls (.int (nI b) :: .int (nI a) :: st) S M Q := AW.iadd pc' hd hp ((nI_add a b).symm ▸ k)
theorem AW.imulN (pc' : Nat) {a b : Nat} (hd : decode cc pc = .ok (.imul, 1)) (hp : pc + 1 = pc') (k : AW l g own cc nL rt ini d bc bs pc' ls (.int (nI (a * b)) :: st) S M Q) : AW l g own cc nL rt ini d bc bs pc ls (.int (nI b) :: .int (nI a) :: st) S M Q := AW.imul pc' hd hp ((pk_mul a b).symm ▸ k)
theorem AW.isubN (pc' : Nat) {a b : Nat} (hd : decode cc pc = .ok (.isub, 1)) (hab : b ≤ a) (hp : pc + 1 = pc') (k : AW l g own cc nL rt ini d bc bs pc' ls (.int (nI (a - b)) :: st) S M Q) : AW l g own cc nL rt ini d bc bs pc ls (.int (nI b) :: .int (nI a) :: st) S M Q := AW.isub pc' hd hp ((pk_sub hab).symm ▸ k)
theorem AW.icmpN_eq (pc' tgt : Nat) {a b : Nat} {off : Int} (hd : decode cc pc = .ok (.if_icmp .eq off, 3)) (ht : (pc : Int) + off = (tgt : Int)) (hp : pc + 3 = pc') (ha : a < 2 ^ 31) (hb : b < 2 ^ 31) (kt : a = b → AW l g own cc nL rt ini d bc bs tgt ls st S M Q) (kf : ¬ a = b → AW l g own cc nL rt ini d bc bs pc' ls st S M Q) : AW l g own cc nL rt ini d bc bs pc ls (.int (nI b) :: .int (nI a) :: st) S M Q := AW.icmp_eq pc' tgt hd ht hp (fun q => kt ((nI_eq ha hb).mp q)) (fun q => kf (fun z => q ((nI_eq ha hb).mpr z)))
theorem AW.ifN_eq (pc' tgt : Nat) {a : Nat} {off : Int} (hd : decode cc pc = .ok (.ifCond .eq off, 3)) (ht : (pc : Int) + off = (tgt : Int)) (hp : pc + 3 = pc') (ha : a < 2 ^ 31) (kt : a = 0 → AW l g own cc nL rt ini d bc bs tgt ls st S M Q) (kf : ¬ a = 0 → AW l g own cc nL rt ini d bc bs pc' ls st S M Q) : AW l g own cc nL rt ini d bc bs pc ls (.int (nI a) :: st) S M Q := by
  have hb : (0 : Nat) < 2 ^ 31 := by decide
  exact AW.if_eq pc' tgt hd ht hp (fun q => kt ((nI_eq ha hb).mp q)) (fun q => kf (fun z => q ((nI_eq ha hb).mpr z)))
theorem AW.icmpN_ne (pc' tgt : Nat) {a b : Nat} {off : Int} (hd : decode cc pc = .ok (.if_icmp .ne off, 3)) (ht : (pc : Int) + off = (tgt : Int)) (hp : pc + 3 = pc') (ha : a < 2 ^ 31) (hb : b < 2 ^ 31) (kt : ¬ a = b → AW l g own cc nL rt ini d bc bs tgt ls st S M Q) (kf : a = b → AW l g own cc nL rt ini d bc bs pc' ls st S M Q) : AW l g own cc nL rt ini d bc bs pc ls (.int (nI b) :: .int (nI a) :: st) S M Q := AW.icmp_ne pc' tgt hd ht hp (fun q => kt (fun z => q ((nI_eq ha hb).mpr z))) (fun q => kf ((nI_eq ha hb).mp q))
theorem AW.ifN_ne (pc' tgt : Nat) {a : Nat} {off : Int} (hd : decode cc pc = .ok (.ifCond .ne off, 3)) (ht : (pc : Int) + off = (tgt : Int)) (hp : pc + 3 = pc') (ha : a < 2 ^ 31) (kt : ¬ a = 0 → AW l g own cc nL rt ini d bc bs tgt ls st S M Q) (kf : a = 0 → AW l g own cc nL rt ini d bc bs pc' ls st S M Q) : AW l g own cc nL rt ini d bc bs pc ls (.int (nI a) :: st) S M Q := by
  have hb : (0 : Nat) < 2 ^ 31 := by decide
  exact AW.if_ne pc' tgt hd ht hp (fun q => kt (fun z => q ((nI_eq ha hb).mpr z))) (fun q => kf ((nI_eq ha hb).mp q))
theorem AW.icmpN_lt (pc' tgt : Nat) {a b : Nat} {off : Int} (hd : decode cc pc = .ok (.if_icmp .lt off, 3)) (ht : (pc : Int) + off = (tgt : Int)) (hp : pc + 3 = pc') (ha : a < 2 ^ 31) (hb : b < 2 ^ 31) (kt : a < b → AW l g own cc nL rt ini d bc bs tgt ls st S M Q) (kf : ¬ a < b → AW l g own cc nL rt ini d bc bs pc' ls st S M Q) : AW l g own cc nL rt ini d bc bs pc ls (.int (nI b) :: .int (nI a) :: st) S M Q := AW.icmp_lt pc' tgt hd ht hp (fun q => kt ((nI_ltI ha hb).mp q)) (fun q => kf (fun z => q ((nI_ltI ha hb).mpr z)))
theorem AW.ifN_lt (pc' tgt : Nat) {a : Nat} {off : Int} (hd : decode cc pc = .ok (.ifCond .lt off, 3)) (ht : (pc : Int) + off = (tgt : Int)) (hp : pc + 3 = pc') (ha : a < 2 ^ 31) (kt : a < 0 → AW l g own cc nL rt ini d bc bs tgt ls st S M Q) (kf : ¬ a < 0 → AW l g own cc nL rt ini d bc bs pc' ls st S M Q) : AW l g own cc nL rt ini d bc bs pc ls (.int (nI a) :: st) S M Q := by
  have hb : (0 : Nat) < 2 ^ 31 := by decide
  exact AW.if_lt pc' tgt hd ht hp (fun q => kt ((nI_ltI ha hb).mp q)) (fun q => kf (fun z => q ((nI_ltI ha hb).mpr z)))
theorem AW.icmpN_ge (pc' tgt : Nat) {a b : Nat} {off : Int} (hd : decode cc pc = .ok (.if_icmp .ge off, 3)) (ht : (pc : Int) + off = (tgt : Int)) (hp : pc + 3 = pc') (ha : a < 2 ^ 31) (hb : b < 2 ^ 31) (kt : b ≤ a → AW l g own cc nL rt ini d bc bs tgt ls st S M Q) (kf : ¬ b ≤ a → AW l g own cc nL rt ini d bc bs pc' ls st S M Q) : AW l g own cc nL rt ini d bc bs pc ls (.int (nI b) :: .int (nI a) :: st) S M Q := AW.icmp_ge pc' tgt hd ht hp (fun q => kt ((nI_leI hb ha).mp q)) (fun q => kf (fun z => q ((nI_leI hb ha).mpr z)))
theorem AW.ifN_ge (pc' tgt : Nat) {a : Nat} {off : Int} (hd : decode cc pc = .ok (.ifCond .ge off, 3)) (ht : (pc : Int) + off = (tgt : Int)) (hp : pc + 3 = pc') (ha : a < 2 ^ 31) (kt : 0 ≤ a → AW l g own cc nL rt ini d bc bs tgt ls st S M Q) (kf : ¬ 0 ≤ a → AW l g own cc nL rt ini d bc bs pc' ls st S M Q) : AW l g own cc nL rt ini d bc bs pc ls (.int (nI a) :: st) S M Q := by
  have hb : (0 : Nat) < 2 ^ 31 := by decide
  exact AW.if_ge pc' tgt hd ht hp (fun q => kt ((nI_leI hb ha).mp q)) (fun q => kf (fun z => q ((nI_leI hb ha).mpr z)))
theorem AW.icmpN_gt (pc' tgt : Nat) {a b : Nat} {off : Int} (hd : decode cc pc = .ok (.if_icmp .gt off, 3)) (ht : (pc : Int) + off = (tgt : Int)) (hp : pc + 3 = pc') (ha : a < 2 ^ 31) (hb : b < 2 ^ 31) (kt : b < a → AW l g own cc nL rt ini d bc bs tgt ls st S M Q) (kf : ¬ b < a → AW l g own cc nL rt ini d bc bs pc' ls st S M Q) : AW l g own cc nL rt ini d bc bs pc ls (.int (nI b) :: .int (nI a) :: st) S M Q := AW.icmp_gt pc' tgt hd ht hp (fun q => kt ((nI_ltI hb ha).mp q)) (fun q => kf (fun z => q ((nI_ltI hb ha).mpr z)))
theorem AW.ifN_gt (pc' tgt : Nat) {a : Nat} {off : Int} (hd : decode cc pc = .ok (.ifCond .gt off, 3)) (ht : (pc : Int) + off = (tgt : Int)) (hp : pc + 3 = pc') (ha : a < 2 ^ 31) (kt : 0 < a → AW l g own cc nL rt ini d bc bs tgt ls st S M Q) (kf : ¬ 0 < a → AW l g own cc nL rt ini d bc bs pc' ls st S M Q) : AW l g own cc nL rt ini d bc bs pc ls (.int (nI a) :: st) S M Q := by
  have hb : (0 : Nat) < 2 ^ 31 := by decide
  exact AW.if_gt pc' tgt hd ht hp (fun q => kt ((nI_ltI hb ha).mp q)) (fun q => kf (fun z => q ((nI_ltI hb ha).mpr z)))
theorem AW.icmpN_le (pc' tgt : Nat) {a b : Nat} {off : Int} (hd : decode cc pc = .ok (.if_icmp .le off, 3)) (ht : (pc : Int) + off = (tgt : Int)) (hp : pc + 3 = pc') (ha : a < 2 ^ 31) (hb : b < 2 ^ 31) (kt : a ≤ b → AW l g own cc nL rt ini d bc bs tgt ls st S M Q) (kf : ¬ a ≤ b → AW l g own cc nL rt ini d bc bs pc' ls st S M Q) : AW l g own cc nL rt ini d bc bs pc ls (.int (nI b) :: .int (nI a) :: st) S M Q := AW.icmp_le pc' tgt hd ht hp (fun q => kt ((nI_leI ha hb).mp q)) (fun q => kf (fun z => q ((nI_leI ha hb).mpr z)))
theorem AW.ifN_le (pc' tgt : Nat) {a : Nat} {off : Int} (hd : decode cc pc = .ok (.ifCond .le off, 3)) (ht : (pc : Int) + off = (tgt : Int)) (hp : pc + 3 = pc') (ha : a < 2 ^ 31) (kt : a ≤ 0 → AW l g own cc nL rt ini d bc bs tgt ls st S M Q) (kf : ¬ a ≤ 0 → AW l g own cc nL rt ini d bc bs pc' ls st S M Q) : AW l g own cc nL rt ini d bc bs pc ls (.int (nI a) :: st) S M Q := by
  have hb : (0 : Nat) < 2 ^ 31 := by decide
  exact AW.if_le pc' tgt hd ht hp (fun q => kt ((nI_leI ha hb).mp q)) (fun q => kf (fun z => q ((nI_leI ha hb).mpr z)))
theorem AW.zicmp_eq (pc' tgt : Nat) {x y : Int32} {X Y off : Int} (hd : decode cc pc = .ok (.if_icmp .eq off, 3)) (ht : (pc : Int) + off = (tgt : Int)) (hp : pc + 3 = pc') (hx : x.toInt = X) (hy : y.toInt = Y) (kt : X = Y → AW l g own cc nL rt ini d bc bs tgt ls st S M Q) (kf : ¬ X = Y → AW l g own cc nL rt ini d bc bs pc' ls st S M Q) : AW l g own cc nL rt ini d bc bs pc ls (.int y :: .int x :: st) S M Q := AW.icmp_eq pc' tgt hd ht hp (fun q => kt (by subst hx; subst hy; first | exact z0_eq.mp q | exact fun z => q (z0_eq.mpr z))) (fun q => kf (by subst hx; subst hy; first | exact z0_eq.mp q | exact fun z => q (z0_eq.mpr z)))
theorem AW.zif_eq (pc' tgt : Nat) {x : Int32} {X off : Int} (hd : decode cc pc = .ok (.ifCond .eq off, 3)) (ht : (pc : Int) + off = (tgt : Int)) (hp : pc + 3 = pc') (hx : x.toInt = X) (kt : X = 0 → AW l g own cc nL rt ini d bc bs tgt ls st S M Q) (kf : ¬ X = 0 → AW l g own cc nL rt ini d bc bs pc' ls st S M Q) : AW l g own cc nL rt ini d bc bs pc ls (.int x :: st) S M Q := by
  have hy : (0 : Int32).toInt = 0 := rfl
  exact AW.if_eq pc' tgt hd ht hp (fun q => kt (by subst hx; rw [← hy]; first | exact z0_eq.mp q | exact fun z => q (z0_eq.mpr z))) (fun q => kf (by subst hx; rw [← hy]; first | exact z0_eq.mp q | exact fun z => q (z0_eq.mpr z)))
theorem AW.zicmp_ne (pc' tgt : Nat) {x y : Int32} {X Y off : Int} (hd : decode cc pc = .ok (.if_icmp .ne off, 3)) (ht : (pc : Int) + off = (tgt : Int)) (hp : pc + 3 = pc') (hx : x.toInt = X) (hy : y.toInt = Y) (kt : ¬ X = Y → AW l g own cc nL rt ini d bc bs tgt ls st S M Q) (kf : X = Y → AW l g own cc nL rt ini d bc bs pc' ls st S M Q) : AW l g own cc nL rt ini d bc bs pc ls (.int y :: .int x :: st) S M Q := AW.icmp_ne pc' tgt hd ht hp (fun q => kt (by subst hx; subst hy; first | exact z0_eq.mp q | exact fun z => q (z0_eq.mpr z))) (fun q => kf (by subst hx; subst hy; first | exact z0_eq.mp q | exact fun z => q (z0_eq.mpr z)))
theorem AW.zif_ne (pc' tgt : Nat) {x : Int32} {X off : Int} (hd : decode cc pc = .ok (.ifCond .ne off, 3)) (ht : (pc : Int) + off = (tgt : Int)) (hp : pc + 3 = pc') (hx : x.toInt = X) (kt : ¬ X = 0 → AW l g own cc nL rt ini d bc bs tgt ls st S M Q) (kf : X = 0 → AW l g own cc nL rt ini d bc bs pc' ls st S M Q) : AW l g own cc nL rt ini d bc bs pc ls (.int x :: st) S M Q := by
  have hy : (0 : Int32).toInt = 0 := rfl
  exact AW.if_ne pc' tgt hd ht hp (fun q => kt (by subst hx; rw [← hy]; first | exact z0_eq.mp q | exact fun z => q (z0_eq.mpr z))) (fun q => kf (by subst hx; rw [← hy]; first | exact z0_eq.mp q | exact fun z => q (z0_eq.mpr z)))
theorem AW.zicmp_lt (pc' tgt : Nat) {x y : Int32} {X Y off : Int} (hd : decode cc pc = .ok (.if_icmp .lt off, 3)) (ht : (pc : Int) + off = (tgt : Int)) (hp : pc + 3 = pc') (hx : x.toInt = X) (hy : y.toInt = Y) (kt : X < Y → AW l g own cc nL rt ini d bc bs tgt ls st S M Q) (kf : ¬ X < Y → AW l g own cc nL rt ini d bc bs pc' ls st S M Q) : AW l g own cc nL rt ini d bc bs pc ls (.int y :: .int x :: st) S M Q := AW.icmp_lt pc' tgt hd ht hp (fun q => kt (by subst hx; subst hy; first | exact z0_lt.mp q | exact fun z => q (z0_lt.mpr z))) (fun q => kf (by subst hx; subst hy; first | exact z0_lt.mp q | exact fun z => q (z0_lt.mpr z)))
theorem AW.zif_lt (pc' tgt : Nat) {x : Int32} {X off : Int} (hd : decode cc pc = .ok (.ifCond .lt off, 3)) (ht : (pc : Int) + off = (tgt : Int)) (hp : pc + 3 = pc') (hx : x.toInt = X) (kt : X < 0 → AW l g own cc nL rt ini d bc bs tgt ls st S M Q) (kf : ¬ X < 0 → AW l g own cc nL rt ini d bc bs pc' ls st S M Q) : AW l g own cc nL rt ini d bc bs pc ls (.int x :: st) S M Q := by
  have hy : (0 : Int32).toInt = 0 := rfl
  exact AW.if_lt pc' tgt hd ht hp (fun q => kt (by subst hx; rw [← hy]; first | exact z0_lt.mp q | exact fun z => q (z0_lt.mpr z))) (fun q => kf (by subst hx; rw [← hy]; first | exact z0_lt.mp q | exact fun z => q (z0_lt.mpr z)))
theorem AW.zicmp_ge (pc' tgt : Nat) {x y : Int32} {X Y off : Int} (hd : decode cc pc = .ok (.if_icmp .ge off, 3)) (ht : (pc : Int) + off = (tgt : Int)) (hp : pc + 3 = pc') (hx : x.toInt = X) (hy : y.toInt = Y) (kt : Y ≤ X → AW l g own cc nL rt ini d bc bs tgt ls st S M Q) (kf : ¬ Y ≤ X → AW l g own cc nL rt ini d bc bs pc' ls st S M Q) : AW l g own cc nL rt ini d bc bs pc ls (.int y :: .int x :: st) S M Q := AW.icmp_ge pc' tgt hd ht hp (fun q => kt (by subst hx; subst hy; first | exact z0_le.mp q | exact fun z => q (z0_le.mpr z))) (fun q => kf (by subst hx; subst hy; first | exact z0_le.mp q | exact fun z => q (z0_le.mpr z)))
theorem AW.zif_ge (pc' tgt : Nat) {x : Int32} {X off : Int} (hd : decode cc pc = .ok (.ifCond .ge off, 3)) (ht : (pc : Int) + off = (tgt : Int)) (hp : pc + 3 = pc') (hx : x.toInt = X) (kt : 0 ≤ X → AW l g own cc nL rt ini d bc bs tgt ls st S M Q) (kf : ¬ 0 ≤ X → AW l g own cc nL rt ini d bc bs pc' ls st S M Q) : AW l g own cc nL rt ini d bc bs pc ls (.int x :: st) S M Q := by
  have hy : (0 : Int32).toInt = 0 := rfl
  exact AW.if_ge pc' tgt hd ht hp (fun q => kt (by subst hx; rw [← hy]; first | exact z0_le.mp q | exact fun z => q (z0_le.mpr z))) (fun q => kf (by subst hx; rw [← hy]; first | exact z0_le.mp q | exact fun z => q (z0_le.mpr z)))
theorem AW.zicmp_gt (pc' tgt : Nat) {x y : Int32} {X Y off : Int} (hd : decode cc pc = .ok (.if_icmp .gt off, 3)) (ht : (pc : Int) + off = (tgt : Int)) (hp : pc + 3 = pc') (hx : x.toInt = X) (hy : y.toInt = Y) (kt : Y < X → AW l g own cc nL rt ini d bc bs tgt ls st S M Q) (kf : ¬ Y < X → AW l g own cc nL rt ini d bc bs pc' ls st S M Q) : AW l g own cc nL rt ini d bc bs pc ls (.int y :: .int x :: st) S M Q := AW.icmp_gt pc' tgt hd ht hp (fun q => kt (by subst hx; subst hy; first | exact z0_lt.mp q | exact fun z => q (z0_lt.mpr z))) (fun q => kf (by subst hx; subst hy; first | exact z0_lt.mp q | exact fun z => q (z0_lt.mpr z)))
theorem AW.zif_gt (pc' tgt : Nat) {x : Int32} {X off : Int} (hd : decode cc pc = .ok (.ifCond .gt off, 3)) (ht : (pc : Int) + off = (tgt : Int)) (hp : pc + 3 = pc') (hx : x.toInt = X) (kt : 0 < X → AW l g own cc nL rt ini d bc bs tgt ls st S M Q) (kf : ¬ 0 < X → AW l g own cc nL rt ini d bc bs pc' ls st S M Q) : AW l g own cc nL rt ini d bc bs pc ls (.int x :: st) S M Q := by
  have hy : (0 : Int32).toInt = 0 := rfl
  exact AW.if_gt pc' tgt hd ht hp (fun q => kt (by subst hx; rw [← hy]; first | exact z0_lt.mp q | exact fun z => q (z0_lt.mpr z))) (fun q => kf (by subst hx; rw [← hy]; first | exact z0_lt.mp q | exact fun z => q (z0_lt.mpr z)))
theorem AW.zicmp_le (pc' tgt : Nat) {x y : Int32} {X Y off : Int} (hd : decode cc pc = .ok (.if_icmp .le off, 3)) (ht : (pc : Int) + off = (tgt : Int)) (hp : pc + 3 = pc') (hx : x.toInt = X) (hy : y.toInt = Y) (kt : X ≤ Y → AW l g own cc nL rt ini d bc bs tgt ls st S M Q) (kf : ¬ X ≤ Y → AW l g own cc nL rt ini d bc bs pc' ls st S M Q) : AW l g own cc nL rt ini d bc bs pc ls (.int y :: .int x :: st) S M Q := AW.icmp_le pc' tgt hd ht hp (fun q => kt (by subst hx; subst hy; first | exact z0_le.mp q | exact fun z => q (z0_le.mpr z))) (fun q => kf (by subst hx; subst hy; first | exact z0_le.mp q | exact fun z => q (z0_le.mpr z)))
theorem AW.zif_le (pc' tgt : Nat) {x : Int32} {X off : Int} (hd : decode cc pc = .ok (.ifCond .le off, 3)) (ht : (pc : Int) + off = (tgt : Int)) (hp : pc + 3 = pc') (hx : x.toInt = X) (kt : X ≤ 0 → AW l g own cc nL rt ini d bc bs tgt ls st S M Q) (kf : ¬ X ≤ 0 → AW l g own cc nL rt ini d bc bs pc' ls st S M Q) : AW l g own cc nL rt ini d bc bs pc ls (.int x :: st) S M Q := by
  have hy : (0 : Int32).toInt = 0 := rfl
  exact AW.if_le pc' tgt hd ht hp (fun q => kt (by subst hx; rw [← hy]; first | exact z0_le.mp q | exact fun z => q (z0_le.mpr z))) (fun q => kf (by subst hx; rw [← hy]; first | exact z0_le.mp q | exact fun z => q (z0_le.mpr z)))
end AWZ
end
section
def zK (k : Nat) : Nat × Nat := (cond (Nat.blt k 68) (cond (Nat.blt k 34) (cond (Nat.blt k 17) (cond (Nat.blt k 8) (cond (Nat.blt k 4) (cond (Nat.blt k 2) (cond (Nat.blt k 1) (9, 0) (6, 0)) (cond (Nat.blt k 3) (11, 120) (4, 0))) (cond (Nat.blt k 6) (cond (Nat.blt k 5) (16, 6) (11, 16)) (cond (Nat.blt k 7) (11, 16) (11, 16)))) (cond (Nat.blt k 12) (cond (Nat.blt k 10) (cond (Nat.blt k 9) (11, 16) (11, 16)) (cond (Nat.blt k 11) (11, 16) (16, 6))) (cond (Nat.blt k 14) (cond (Nat.blt k 13) (11, 16) (11, 16)) (cond (Nat.blt k 15) (11, 16) (cond (Nat.blt k 16) (11, 16) (11, 16)))))) (cond (Nat.blt k 25) (cond (Nat.blt k 21) (cond (Nat.blt k 19) (cond (Nat.blt k 18) (11, 16) (11, 16)) (cond (Nat.blt k 20) (14, 2) (2, 0))) (cond (Nat.blt k 23) (cond (Nat.blt k 22) (11, 8) (11, 8)) (cond (Nat.blt k 24) (11, 8) (16, 8)))) (cond (Nat.blt k 29) (cond (Nat.blt k 27) (cond (Nat.blt k 26) (11, 4) (11, 4)) (cond (Nat.blt k 28) (11, 4) (11, 4))) (cond (Nat.blt k 31) (cond (Nat.blt k 30) (11, 4) (11, 4)) (cond (Nat.blt k 32) (11, 4) (cond (Nat.blt k 33) (11, 4) (2, 0))))))) (cond (Nat.blt k 51) (cond (Nat.blt k 42) (cond (Nat.blt k 38) (cond (Nat.blt k 36) (cond (Nat.blt k 35) (11, 8) (11, 8)) (cond (Nat.blt k 37) (11, 8) (16, 8))) (cond (Nat.blt k 40) (cond (Nat.blt k 39) (11, 4) (11, 4)) (cond (Nat.blt k 41) (11, 4) (11, 4)))) (cond (Nat.blt k 46) (cond (Nat.blt k 44) (cond (Nat.blt k 43) (11, 4) (11, 4)) (cond (Nat.blt k 45) (11, 4) (11, 4))) (cond (Nat.blt k 48) (cond (Nat.blt k 47) (2, 0) (11, 8)) (cond (Nat.blt k 49) (11, 8) (cond (Nat.blt k 50) (11, 8) (16, 8)))))) (cond (Nat.blt k 59) (cond (Nat.blt k 55) (cond (Nat.blt k 53) (cond (Nat.blt k 52) (11, 4) (11, 4)) (cond (Nat.blt k 54) (11, 4) (11, 4))) (cond (Nat.blt k 57) (cond (Nat.blt k 56) (11, 4) (11, 4)) (cond (Nat.blt k 58) (11, 4) (11, 4)))) (cond (Nat.blt k 63) (cond (Nat.blt k 61) (cond (Nat.blt k 60) (8, 0) (16, 3)) (cond (Nat.blt k 62) (11, 12) (11, 12))) (cond (Nat.blt k 65) (cond (Nat.blt k 64) (11, 12) (3, 0)) (cond (Nat.blt k 66) (11, 12) (cond (Nat.blt k 67) (11, 12) (11, 12)))))))) (cond (Nat.blt k 102) (cond (Nat.blt k 85) (cond (Nat.blt k 76) (cond (Nat.blt k 72) (cond (Nat.blt k 70) (cond (Nat.blt k 69) (11, 12) (11, 12)) (cond (Nat.blt k 71) (0, 0) (16, 4))) (cond (Nat.blt k 74) (cond (Nat.blt k 73) (11, 48) (11, 48)) (cond (Nat.blt k 75) (11, 48) (11, 48)))) (cond (Nat.blt k 80) (cond (Nat.blt k 78) (cond (Nat.blt k 77) (13, 3) (1, 0)) (cond (Nat.blt k 79) (11, 48) (1, 0))) (cond (Nat.blt k 82) (cond (Nat.blt k 81) (11, 48) (1, 0)) (cond (Nat.blt k 83) (11, 48) (cond (Nat.blt k 84) (7, 0) (11, 6)))))) (cond (Nat.blt k 93) (cond (Nat.blt k 89) (cond (Nat.blt k 87) (cond (Nat.blt k 86) (11, 6) (11, 6)) (cond (Nat.blt k 88) (12, 64) (11, 128))) (cond (Nat.blt k 91) (cond (Nat.blt k 90) (11, 16) (15, 4)) (cond (Nat.blt k 92) (5, 0) (11, 48)))) (cond (Nat.blt k 97) (cond (Nat.blt k 95) (cond (Nat.blt k 94) (5, 0) (11, 48)) (cond (Nat.blt k 96) (5, 0) (11, 48))) (cond (Nat.blt k 99) (cond (Nat.blt k 98) (5, 0) (11, 48)) (cond (Nat.blt k 100) (10, 0) (cond (Nat.blt k 101) (11, 120) (12, 6))))))) (cond (Nat.blt k 119) (cond (Nat.blt k 110) (cond (Nat.blt k 106) (cond (Nat.blt k 104) (cond (Nat.blt k 103) (12, 6) (12, 6)) (cond (Nat.blt k 105) (11, 2) (11, 16))) (cond (Nat.blt k 108) (cond (Nat.blt k 107) (11, 16) (11, 16)) (cond (Nat.blt k 109) (12, 2048) (11, 8)))) (cond (Nat.blt k 114) (cond (Nat.blt k 112) (cond (Nat.blt k 111) (11, 8) (11, 8)) (cond (Nat.blt k 113) (12, 1024) (11, 12))) (cond (Nat.blt k 116) (cond (Nat.blt k 115) (11, 12) (11, 12)) (cond (Nat.blt k 117) (11, 12) (cond (Nat.blt k 118) (11, 12) (11, 13)))))) (cond (Nat.blt k 128) (cond (Nat.blt k 123) (cond (Nat.blt k 121) (cond (Nat.blt k 120) (11, 12) (11, 12)) (cond (Nat.blt k 122) (11, 48) (11, 48))) (cond (Nat.blt k 125) (cond (Nat.blt k 124) (11, 48) (11, 48)) (cond (Nat.blt k 126) (11, 3) (cond (Nat.blt k 127) (11, 144) (11, 6))))) (cond (Nat.blt k 132) (cond (Nat.blt k 130) (cond (Nat.blt k 129) (11, 6) (11, 6)) (cond (Nat.blt k 131) (12, 64) (12, 512))) (cond (Nat.blt k 134) (cond (Nat.blt k 133) (12, 512) (11, 4)) (cond (Nat.blt k 135) (11, 4) (cond (Nat.blt k 136) (11, 192) (11, 48)))))))))
def zRl (m0 m1 md k : Nat) : List (Option Nat) := (cond (Nat.blt k 68) (cond (Nat.blt k 34) (cond (Nat.blt k 17) (cond (Nat.blt k 8) (cond (Nat.blt k 4) (cond (Nat.blt k 2) (cond (Nat.blt k 1) [some 1, some 3, some 19, some md, some 59, some 64, some 70, some 76, some 83, some 87, some 88, some 89, some 90] [some 2]) (cond (Nat.blt k 3) [] [some 1, some 4, some 11, some 18])) (cond (Nat.blt k 6) (cond (Nat.blt k 5) [some 5, some 6, some 7, some 8, some 9, some 10] []) (cond (Nat.blt k 7) [] []))) (cond (Nat.blt k 12) (cond (Nat.blt k 10) (cond (Nat.blt k 9) [] []) (cond (Nat.blt k 11) [] [some 12, some 13, some 14, some 15, some 16, some 17])) (cond (Nat.blt k 14) (cond (Nat.blt k 13) [] []) (cond (Nat.blt k 15) [] (cond (Nat.blt k 16) [] []))))) (cond (Nat.blt k 25) (cond (Nat.blt k 21) (cond (Nat.blt k 19) (cond (Nat.blt k 18) [] []) (cond (Nat.blt k 20) [some m0, some m1] [some 21, some 22, some 23, some 24])) (cond (Nat.blt k 23) (cond (Nat.blt k 22) [] []) (cond (Nat.blt k 24) [] [some 25, some 26, some 27, some 28, some 29, some 30, some 31, some 32]))) (cond (Nat.blt k 29) (cond (Nat.blt k 27) (cond (Nat.blt k 26) [] []) (cond (Nat.blt k 28) [] [])) (cond (Nat.blt k 31) (cond (Nat.blt k 30) [] []) (cond (Nat.blt k 32) [] (cond (Nat.blt k 33) [] [some 34, some 35, some 36, some 37])))))) (cond (Nat.blt k 51) (cond (Nat.blt k 42) (cond (Nat.blt k 38) (cond (Nat.blt k 36) (cond (Nat.blt k 35) [] []) (cond (Nat.blt k 37) [] [some 38, some 39, some 40, some 41, some 42, some 43, some 44, some 45])) (cond (Nat.blt k 40) (cond (Nat.blt k 39) [] []) (cond (Nat.blt k 41) [] []))) (cond (Nat.blt k 46) (cond (Nat.blt k 44) (cond (Nat.blt k 43) [] []) (cond (Nat.blt k 45) [] [])) (cond (Nat.blt k 48) (cond (Nat.blt k 47) [some 47, some 48, some 49, some 50] []) (cond (Nat.blt k 49) [] (cond (Nat.blt k 50) [] [some 51, some 52, some 53, some 54, some 55, some 56, some 57, some 58]))))) (cond (Nat.blt k 59) (cond (Nat.blt k 55) (cond (Nat.blt k 53) (cond (Nat.blt k 52) [] []) (cond (Nat.blt k 54) [] [])) (cond (Nat.blt k 57) (cond (Nat.blt k 56) [] []) (cond (Nat.blt k 58) [] []))) (cond (Nat.blt k 63) (cond (Nat.blt k 61) (cond (Nat.blt k 60) [some 60] [some 61, some 62, some 63]) (cond (Nat.blt k 62) [] [])) (cond (Nat.blt k 65) (cond (Nat.blt k 64) [] [some 65, some 66, some 67, some 68, some 69]) (cond (Nat.blt k 66) [] (cond (Nat.blt k 67) [] []))))))) (cond (Nat.blt k 102) (cond (Nat.blt k 85) (cond (Nat.blt k 76) (cond (Nat.blt k 72) (cond (Nat.blt k 70) (cond (Nat.blt k 69) [] []) (cond (Nat.blt k 71) [some 71] [some 72, some 73, some 74, some 75])) (cond (Nat.blt k 74) (cond (Nat.blt k 73) [] []) (cond (Nat.blt k 75) [] []))) (cond (Nat.blt k 80) (cond (Nat.blt k 78) (cond (Nat.blt k 77) [some 77, some 79, some 81] [some 78]) (cond (Nat.blt k 79) [] [some 80])) (cond (Nat.blt k 82) (cond (Nat.blt k 81) [] [some 82]) (cond (Nat.blt k 83) [] (cond (Nat.blt k 84) [some 84, some 85, some 86] []))))) (cond (Nat.blt k 93) (cond (Nat.blt k 89) (cond (Nat.blt k 87) (cond (Nat.blt k 86) [] []) (cond (Nat.blt k 88) [] [])) (cond (Nat.blt k 91) (cond (Nat.blt k 90) [] [some 91, some 93, some 95, some 97]) (cond (Nat.blt k 92) [some 92] []))) (cond (Nat.blt k 97) (cond (Nat.blt k 95) (cond (Nat.blt k 94) [some 94] []) (cond (Nat.blt k 96) [some 96] [])) (cond (Nat.blt k 99) (cond (Nat.blt k 98) [some 98] []) (cond (Nat.blt k 100) [some 100, none, none, none, some 101, some 102, some 103, some 104, some 105, some 106, some 107, some 108, some 109, some 110, some 111, some 112, none, some 113, some 114, some 115, some 116, some 117, some 118, some 119, some 120, none, some 121, some 122, some 123, some 124, some 125, some 126, none, none, none, some 127, some 128, some 129, some 130, none, some 131, some 132, some 133, some 134, some 135, some 136] (cond (Nat.blt k 101) [] [])))))) (cond (Nat.blt k 119) (cond (Nat.blt k 110) (cond (Nat.blt k 106) (cond (Nat.blt k 104) (cond (Nat.blt k 103) [] []) (cond (Nat.blt k 105) [] [])) (cond (Nat.blt k 108) (cond (Nat.blt k 107) [] []) (cond (Nat.blt k 109) [] []))) (cond (Nat.blt k 114) (cond (Nat.blt k 112) (cond (Nat.blt k 111) [] []) (cond (Nat.blt k 113) [] [])) (cond (Nat.blt k 116) (cond (Nat.blt k 115) [] []) (cond (Nat.blt k 117) [] (cond (Nat.blt k 118) [] []))))) (cond (Nat.blt k 128) (cond (Nat.blt k 123) (cond (Nat.blt k 121) (cond (Nat.blt k 120) [] []) (cond (Nat.blt k 122) [] [])) (cond (Nat.blt k 125) (cond (Nat.blt k 124) [] []) (cond (Nat.blt k 126) [] (cond (Nat.blt k 127) [] [])))) (cond (Nat.blt k 132) (cond (Nat.blt k 130) (cond (Nat.blt k 129) [] []) (cond (Nat.blt k 131) [] [])) (cond (Nat.blt k 134) (cond (Nat.blt k 133) [] []) (cond (Nat.blt k 135) [] (cond (Nat.blt k 136) [] []))))))))
def zR (m0 m1 md k j : Nat) : Option Nat := (zRl m0 m1 md k)[j]?.getD none
/-- the shape behind the constructors; m0, m1, md: where the machines 0, 1 and the draft lie -/
def ZS (m0 m1 md : Nat) : zS := (137, zK, zR m0 m1 md)
theorem zI {S : zS} {k t : Nat} (h1 : Nat.blt k S.1 = true) (h2 : (S.2.1 k).1 = t) : z_is S k t := ⟨h1, h2⟩
theorem zA {S : zS} {k t n : Nat} (h1 : Nat.blt k S.1 = true) (h2 : S.2.1 k = (t, n)) : z_ar S k t n := ⟨h1, h2⟩
/-- a machine lies at 20, 33 or 46 -/
def zMb (b : Nat) : Prop := b = 20 ∨ b = 33 ∨ b = 46
section ZMB
variable {m0 m1 md b : Nat}
theorem zMb_is (h : zMb b) : z_is (ZS m0 m1 md) b 2 := by rcases h with rfl | rfl | rfl <;> exact ⟨rfl, rfl⟩
theorem zMb_r0 (h : zMb b) : (ZS m0 m1 md).2.2 b 0 = some (b + 1) := by rcases h with rfl | rfl | rfl <;> rfl
theorem zMb_r1 (h : zMb b) : (ZS m0 m1 md).2.2 b 1 = some (b + 2) := by rcases h with rfl | rfl | rfl <;> rfl
theorem zMb_r2 (h : zMb b) : (ZS m0 m1 md).2.2 b 2 = some (b + 3) := by rcases h with rfl | rfl | rfl <;> rfl
theorem zMb_r3 (h : zMb b) : (ZS m0 m1 md).2.2 b 3 = some (b + 4) := by rcases h with rfl | rfl | rfl <;> rfl
theorem zMb_a1 (h : zMb b) : z_ar (ZS m0 m1 md) (b + 1) 11 8 := by rcases h with rfl | rfl | rfl <;> exact ⟨rfl, rfl⟩
theorem zMb_a2 (h : zMb b) : z_ar (ZS m0 m1 md) (b + 2) 11 8 := by rcases h with rfl | rfl | rfl <;> exact ⟨rfl, rfl⟩
theorem zMb_a3 (h : zMb b) : z_ar (ZS m0 m1 md) (b + 3) 11 8 := by rcases h with rfl | rfl | rfl <;> exact ⟨rfl, rfl⟩
theorem zMb_a4 (h : zMb b) : z_ar (ZS m0 m1 md) (b + 4) 16 8 := by rcases h with rfl | rfl | rfl <;> exact ⟨rfl, rfl⟩
theorem zMb_rr (h : zMb b) {r : Nat} (hr : r < 8) : (ZS m0 m1 md).2.2 (b + 4) r = some (b + 5 + r) := by
  rcases h with rfl | rfl | rfl <;> (rcases (show r = 0 ∨ r = 1 ∨ r = 2 ∨ r = 3 ∨ r = 4 ∨ r = 5 ∨ r = 6 ∨ r = 7 by omega) with rfl | rfl | rfl | rfl | rfl | rfl | rfl | rfl <;> rfl)
theorem zMb_ar (h : zMb b) {r : Nat} (hr : r < 8) : z_ar (ZS m0 m1 md) (b + 5 + r) 11 4 := by
  rcases h with rfl | rfl | rfl <;> (rcases (show r = 0 ∨ r = 1 ∨ r = 2 ∨ r = 3 ∨ r = 4 ∨ r = 5 ∨ r = 6 ∨ r = 7 by omega) with rfl | rfl | rfl | rfl | rfl | rfl | rfl | rfl <;> exact ⟨rfl, rfl⟩)
/-- keepers at 77, 79, 81; sheets at 91, 93, 95, 97 -/
theorem zKp_r {k : Nat} (h : k < 3) : (ZS m0 m1 md).2.2 76 k = some (77 + 2 * k) := by rcases (show k = 0 ∨ k = 1 ∨ k = 2 by omega) with rfl | rfl | rfl <;> rfl
theorem zKp_is {k : Nat} (h : k < 3) : z_is (ZS m0 m1 md) (77 + 2 * k) 1 := by rcases (show k = 0 ∨ k = 1 ∨ k = 2 by omega) with rfl | rfl | rfl <;> exact ⟨rfl, rfl⟩
theorem zKp_r0 {k : Nat} (h : k < 3) : (ZS m0 m1 md).2.2 (77 + 2 * k) 0 = some (78 + 2 * k) := by rcases (show k = 0 ∨ k = 1 ∨ k = 2 by omega) with rfl | rfl | rfl <;> rfl
theorem zKp_a {k : Nat} (h : k < 3) : z_ar (ZS m0 m1 md) (78 + 2 * k) 11 48 := by rcases (show k = 0 ∨ k = 1 ∨ k = 2 by omega) with rfl | rfl | rfl <;> exact ⟨rfl, rfl⟩
theorem zSh_r {k : Nat} (h : k < 4) : (ZS m0 m1 md).2.2 90 k = some (91 + 2 * k) := by rcases (show k = 0 ∨ k = 1 ∨ k = 2 ∨ k = 3 by omega) with rfl | rfl | rfl | rfl <;> rfl
theorem zSh_is {k : Nat} (h : k < 4) : z_is (ZS m0 m1 md) (91 + 2 * k) 5 := by rcases (show k = 0 ∨ k = 1 ∨ k = 2 ∨ k = 3 by omega) with rfl | rfl | rfl | rfl <;> exact ⟨rfl, rfl⟩
theorem zSh_r0 {k : Nat} (h : k < 4) : (ZS m0 m1 md).2.2 (91 + 2 * k) 0 = some (92 + 2 * k) := by rcases (show k = 0 ∨ k = 1 ∨ k = 2 ∨ k = 3 by omega) with rfl | rfl | rfl | rfl <;> rfl
theorem zSh_a {k : Nat} (h : k < 4) : z_ar (ZS m0 m1 md) (92 + 2 * k) 11 48 := by rcases (show k = 0 ∨ k = 1 ∨ k = 2 ∨ k = 3 by omega) with rfl | rfl | rfl | rfl <;> exact ⟨rfl, rfl⟩
/-- the columns of THE BOOK 72 .. 75, rows of THE WORLD 61 .. 63, the reader's rows -/
theorem zBk_r {k : Nat} (h : k < 4) : (ZS m0 m1 md).2.2 71 k = some (72 + k) := by rcases (show k = 0 ∨ k = 1 ∨ k = 2 ∨ k = 3 by omega) with rfl | rfl | rfl | rfl <;> rfl
theorem zBk_a {k : Nat} (h : k < 4) : z_ar (ZS m0 m1 md) (72 + k) 11 48 := by rcases (show k = 0 ∨ k = 1 ∨ k = 2 ∨ k = 3 by omega) with rfl | rfl | rfl | rfl <;> exact ⟨rfl, rfl⟩
theorem zWo_r {k : Nat} (h : k < 3) : (ZS m0 m1 md).2.2 60 k = some (61 + k) := by rcases (show k = 0 ∨ k = 1 ∨ k = 2 by omega) with rfl | rfl | rfl <;> rfl
theorem zWo_a {k : Nat} (h : k < 3) : z_ar (ZS m0 m1 md) (61 + k) 11 12 := by rcases (show k = 0 ∨ k = 1 ∨ k = 2 by omega) with rfl | rfl | rfl <;> exact ⟨rfl, rfl⟩
theorem zAc_r {k : Nat} (h : k < 6) : (ZS m0 m1 md).2.2 4 k = some (5 + k) := by rcases (show k = 0 ∨ k = 1 ∨ k = 2 ∨ k = 3 ∨ k = 4 ∨ k = 5 by omega) with rfl | rfl | rfl | rfl | rfl | rfl <;> rfl
theorem zAc_a {k : Nat} (h : k < 6) : z_ar (ZS m0 m1 md) (5 + k) 11 16 := by rcases (show k = 0 ∨ k = 1 ∨ k = 2 ∨ k = 3 ∨ k = 4 ∨ k = 5 by omega) with rfl | rfl | rfl | rfl | rfl | rfl <;> exact ⟨rfl, rfl⟩
theorem zAl_r {k : Nat} (h : k < 6) : (ZS m0 m1 md).2.2 11 k = some (12 + k) := by rcases (show k = 0 ∨ k = 1 ∨ k = 2 ∨ k = 3 ∨ k = 4 ∨ k = 5 by omega) with rfl | rfl | rfl | rfl | rfl | rfl <;> rfl
theorem zAl_a {k : Nat} (h : k < 6) : z_ar (ZS m0 m1 md) (12 + k) 11 16 := by rcases (show k = 0 ∨ k = 1 ∨ k = 2 ∨ k = 3 ∨ k = 4 ∨ k = 5 by omega) with rfl | rfl | rfl | rfl | rfl | rfl <;> exact ⟨rfl, rfl⟩
end ZMB
end
section
theorem z_nI {v : Int32} {n : Nat} (h0 : 0 ≤ v.toInt) (h1 : v.toInt ≤ n) : ∃ k : Nat, k ≤ n ∧ v = nI k ∧ v.toInt = k := by
  refine ⟨v.toInt.toNat, by omega, ?_, by omega⟩
  apply Int32.toInt_inj.mp
  have hlt : v.toInt.toNat < 2 ^ 31 := by have := Int32.toInt_lt v; omega
  rw [nI_toInt hlt]
  omega
theorem z_ti {n : Nat} (h : n < 2 ^ 31) : (nI n).toInt = (n : Int) := nI_toInt h
theorem z_lt {a b : Int32} : a < b ↔ a.toInt < b.toInt := Int32.lt_iff_toInt_lt
theorem z_le {a b : Int32} : a ≤ b ↔ a.toInt ≤ b.toInt := Int32.le_iff_toInt_le
theorem z_eq {a b : Int32} : a = b ↔ a.toInt = b.toInt := Int32.toInt_inj.symm
theorem z_cmp_lt (x y : Int64) : lg_cmp x y < 0 ↔ x.toInt < y.toInt := by
  have := lg_cmp_ge x y
  rw [Int64.le_iff_toInt_le] at this
  constructor
  · intro h
    rcases Int.lt_or_le x.toInt y.toInt with q | q
    · exact q
    · exact absurd h (Int32.not_lt.mpr (this.mpr q))
  · intro h
    rcases Int32.lt_or_le (lg_cmp x y) 0 with q | q
    · exact q
    · exact absurd (this.mp q) (by omega)
theorem z_cmp_gt (x y : Int64) : 0 < lg_cmp x y ↔ y.toInt < x.toInt := by
  unfold lg_cmp
  by_cases h : y.toInt < x.toInt
  · rw [if_pos (Int64.lt_iff_toInt_lt.mpr h)]; exact ⟨fun _ => h, fun _ => by decide⟩
  · rw [if_neg (fun q => h (Int64.lt_iff_toInt_lt.mp q))]
    constructor
    · intro q
      split at q <;> exact absurd q (by decide)
    · intro q; exact absurd q h
theorem z_lN {n : Nat} (h : n < 2 ^ 31) : (lN n).toInt = (n : Int) := lN_toInt h
theorem z_cmp_lt0 {x y : Int64} : (lg_cmp x y).toInt < 0 ↔ x.toInt < y.toInt := by
  rw [← z_cmp_lt, z_lt]; exact Iff.rfl
theorem z_cmp_gt0 {x y : Int64} : 0 < (lg_cmp x y).toInt ↔ y.toInt < x.toInt := by
  rw [← z_cmp_gt, z_lt]; exact Iff.rfl
section BASE
variable {l : Launch} {g : zG} {d : Nat} {S : zS} {M : zM}
theorem C_in {v low high : Int64} {x lo hi : Int} {Q : Int32 → zS → zM → Prop} (hv : v.toInt = x) (hl : low.toInt = lo) (hh : high.toInt = hi) (h1 : lo ≤ x ∧ x ≤ hi → Q (nI 1) S M) (h0 : ¬ (lo ≤ x ∧ x ≤ hi) → Q (nI 0) S M) : AMet l g yX10_in cX10_in 6 (some .boolean) d 0 0 [.long v, .long low, .long high] S M (z_Qi Q) := by
  refine AMet.of (ini := false) rfl (fun h => by first | rfl | cases h) (Nat.le_of_ble_eq_true rfl) ?_
  show AW l g RX10 cX10_in 6 (some .boolean) false _ _ _ 0 [some (.long v), none, some (.long low), none, some (.long high), none] [] _ _ _
  refine AW.lload_n 1 dX10_in_0 rfl rfl ?_
  refine AW.lload_n 2 dX10_in_1 rfl rfl ?_
  refine AW.lcmp 3 dX10_in_2 rfl ?_
  refine AW.zif_lt 6 17 dX10_in_3 (by decide) rfl rfl (fun b3 => ?_) (fun b3 => ?_)
  · skip
    refine AW.iconst 18 (nI 0) dX10_in_17 (by decide) rfl ?_
    refine AW.iret dX10_in_18 .boolean rfl rfl rfl ⟨_, rfl, ?_⟩
    (try rw [z_cmp_lt0] at b3)
    (try rw [z_cmp_gt0] at b10)
    first | exact h1 (by omega) | exact h0 (by omega)
  · skip
    refine AW.lload_n 7 dX10_in_6 rfl rfl ?_
    refine AW.lload 9 dX10_in_7 rfl rfl ?_
    refine AW.lcmp 10 dX10_in_9 rfl ?_
    refine AW.zif_gt 13 17 dX10_in_10 (by decide) rfl rfl (fun b10 => ?_) (fun b10 => ?_)
    · skip
      refine AW.iconst 18 (nI 0) dX10_in_17 (by decide) rfl ?_
      refine AW.iret dX10_in_18 .boolean rfl rfl rfl ⟨_, rfl, ?_⟩
      (try rw [z_cmp_lt0] at b3)
      (try rw [z_cmp_gt0] at b10)
      first | exact h1 (by omega) | exact h0 (by omega)
    · skip
      refine AW.iconst 14 (nI 1) dX10_in_13 (by decide) rfl ?_
      refine AW.goto 18 dX10_in_14 (by decide) ?_
      refine AW.iret dX10_in_18 .boolean rfl rfl rfl ⟨_, rfl, ?_⟩
      (try rw [z_cmp_lt0] at b3)
      (try rw [z_cmp_gt0] at b10)
      first | exact h1 (by omega) | exact h0 (by omega)
theorem C_beyond {v last : Int32} {V L : Int} {Q : Int32 → zS → zM → Prop} (hv : v.toInt = V) (hL : last.toInt = L) (h1 : (V < 0 ∨ L < V) → Q (nI 1) S M) (h0 : ¬ (V < 0 ∨ L < V) → Q (nI 0) S M) : AMet l g yX9_beyond cX9_beyond 2 (some .boolean) d 0 0 [.int v, .int last] S M (z_Qi Q) := by
  refine AMet.of (ini := false) rfl (fun h => by first | rfl | cases h) (Nat.le_of_ble_eq_true rfl) ?_
  show AW l g RX9 cX9_beyond 2 (some .boolean) false _ _ _ 0 [some (.int v), some (.int last)] [] _ _ _
  refine AW.iload_n 1 dX9_beyond_0 rfl rfl ?_
  refine AW.zif_lt 4 9 dX9_beyond_1 (by decide) rfl rfl (fun b1 => ?_) (fun b1 => ?_)
  · skip
    refine AW.iconst 10 (nI 1) dX9_beyond_9 (by decide) rfl ?_
    refine AW.goto 14 dX9_beyond_10 (by decide) ?_
    refine AW.iret dX9_beyond_14 .boolean rfl rfl rfl ⟨_, rfl, ?_⟩
    first | exact h1 (by omega) | exact h0 (by omega)
  · skip
    refine AW.iload_n 5 dX9_beyond_4 rfl rfl ?_
    refine AW.iload_n 6 dX9_beyond_5 rfl rfl ?_
    refine AW.zicmp_le 9 13 dX9_beyond_6 (by decide) rfl rfl rfl (fun b6 => ?_) (fun b6 => ?_)
    · skip
      refine AW.iconst 14 (nI 0) dX9_beyond_13 (by decide) rfl ?_
      refine AW.iret dX9_beyond_14 .boolean rfl rfl rfl ⟨_, rfl, ?_⟩
      first | exact h1 (by omega) | exact h0 (by omega)
    · skip
      refine AW.iconst 10 (nI 1) dX9_beyond_9 (by decide) rfl ?_
      refine AW.goto 14 dX9_beyond_10 (by decide) ?_
      refine AW.iret dX9_beyond_14 .boolean rfl rfl rfl ⟨_, rfl, ?_⟩
      first | exact h1 (by omega) | exact h0 (by omega)
theorem AW.max {own : String} {cc : ByteArray} {nL : Nat} {rt : Option FieldType} {ini : Bool} {bc bs pc : Nat} {ls : List (Option Value)} {st : List Value} {Q : Option Value → zS → zM → Prop} (pc' : Nat) {ix : Nat} {x y : Int32} (hd : decode cc pc = .ok (.invokestatic ix, 3)) (hw : Cond.methodLink own ix Lib.Math.max.name ∈ z_U) (hcat : (st.map fun v => v.category).sum ≤ 8) (hp : pc + 3 = pc') (kk : AW l g own cc nL rt ini (d + 1) bc bs pc' ls (.int (if x < y then y else x) :: st) S M Q) : AW l g own cc nL rt ini (d + 1) bc bs pc ls (.int y :: .int x :: st) S M Q := by
  subst hp
  intro p e R s m args below meth c H locs cells slots mc ms hx hb hr hml hown hlk hin hA h1 h2 h3 h4 h5 h6 h7 h8 h9 hP hS la hl
  exact va_mmax hx hb (hml.trans hl.2.1.symm) hown (hA.word _ hw) (hA.word _ (by decide +kernel)) (hA.word _ (by decide +kernel)) (hA.word _ (by decide +kernel)) (by omega) (by rw [zc_cats]; omega) (by omega) (by omega) hd (kk p e R s m args below meth c H locs cells slots mc ms hx hb hr hml hown hlk hin hA h1 h2 h3 h4 h5 h6 h7 h8 h9 hP hS la hl)
theorem z_row_row (k : Nat) (f f' : Nat → Int32) : z_row (z_row M k f) k f' = z_row M k f' := bx_uu M k f f'
theorem z_st_row (k i : Nat) (f : Nat → Int32) (v : Int32) : z_st (z_row M k f) k i v = z_row M k (upd f i v) := by
  unfold z_st z_row; rw [va_up_self, bx_uu]
theorem z_row_self (k : Nat) : z_row M k (M k) = M := by
  funext a; unfold z_row va_up; split
  · rename_i h; rw [h]
  · rfl
theorem z_row_at (k : Nat) (f : Nat → Int32) : z_row M k f k = f := va_up_self _ _ _
theorem z_row_ne {k a : Nat} (f : Nat → Int32) (h : a ≠ k) : z_row M k f a = M a := va_up_ne _ _ h
theorem z_st_eq (k i : Nat) (v : Int32) : z_st M k i v = z_row M k (upd (M k) i v) := rfl
/-- Arrays.fill of a row of n ints -/
def z_fill (f : Nat → Int32) (n : Nat) (v : Int32) : Nat → Int32 := fun j => if j < n then v else f j
theorem z_fill_0 (f : Nat → Int32) (v : Int32) : z_fill f 0 v = f := by funext j; simp [z_fill]
theorem z_fill_s (f : Nat → Int32) (i : Nat) (v : Int32) : upd (z_fill f i v) i v = z_fill f (i + 1) v := by
  funext j
  unfold upd z_fill
  by_cases h : j = i
  · subst h; simp
  · by_cases h2 : j < i
    · simp [h, h2, Nat.lt_succ_of_lt h2]
    · simp [h, h2, show ¬ j < i + 1 by omega]
theorem L_fill {k n : Nat} {v : Int32} (hc : z_ar S k 11 n) (hn : n < 2 ^ 31) {Q : zS → zM → Prop} (hQ : Q S (z_row M k (z_fill (M k) n v))) : ∀ (q i : Nat), i + q = n → AW l g RJ7 cJ7_fill_53178 4 none false d 0 0 5 [some (.ref k), some (.int v), some (.int (nI i)), some (.int (nI n))] [] S (z_row M k (z_fill (M k) i v)) (z_Qv Q) := by
  intro q
  induction q with
  | zero =>
    intro i hi
    have hi : i = n := by omega
    subst hi
    refine AW.iload_n 6 dJ7_fill_53178_5 rfl rfl ?_
    refine AW.iload_n 7 dJ7_fill_53178_6 rfl rfl ?_
    refine AW.icmpN_ge 10 20 dJ7_fill_53178_7 (by decide) rfl (by omega) (by omega) (fun b7 => ?_) (fun b7 => absurd b7 (by omega))
    refine AW.vret dJ7_fill_53178_20 rfl rfl ⟨rfl, ?_⟩
    exact hQ
  | succ q ih =>
    intro i hi
    refine AW.iload_n 6 dJ7_fill_53178_5 rfl rfl ?_
    refine AW.iload_n 7 dJ7_fill_53178_6 rfl rfl ?_
    refine AW.icmpN_ge 10 20 dJ7_fill_53178_7 (by decide) rfl (by omega) (by omega) (fun b7 => absurd b7 (by omega)) (fun b7 => ?_)
    refine AW.aload_n 11 dJ7_fill_53178_10 rfl rfl ?_
    refine AW.iload_n 12 dJ7_fill_53178_11 rfl rfl ?_
    refine AW.iload_n 13 dJ7_fill_53178_12 rfl rfl ?_
    refine AW.iast 14 dJ7_fill_53178_13 hc rfl (by omega) hn rfl ?_
    rw [z_st_row, z_fill_s]
    refine AW.iinc2 17 _ dJ7_fill_53178_14 (z_inc1 _) (by decide) rfl rfl ?_
    refine AW.goto 5 dJ7_fill_53178_17 (by decide) ?_
    exact ih (i + 1) (by omega)
theorem C_fill {k n : Nat} {v : Int32} (hc : z_ar S k 11 n) (hn : n < 2 ^ 31) {Q : zS → zM → Prop} (hQ : Q S (z_row M k (z_fill (M k) n v))) : AMet l g yJ7_fill_53178 cJ7_fill_53178 4 none d 0 0 [.ref k, .int v] S M (z_Qv Q) := by
  refine AMet.of (ini := false) rfl (fun h => by first | rfl | cases h) (Nat.le_of_ble_eq_true rfl) ?_
  show AW l g RJ7 cJ7_fill_53178 4 none false _ _ _ 0 [some (.ref k), some (.int v), none, none] [] _ _ _
  have L := L_fill (l := l) (g := g) (d := d) (M := M) (v := v) hc hn hQ n 0 (by omega)
  rw [z_fill_0, z_row_self] at L
  refine AW.iconst 1 (nI 0) dJ7_fill_53178_0 (by decide) rfl ?_
  refine AW.istn2 2 dJ7_fill_53178_1 (by decide) rfl rfl ?_
  refine AW.aload_n 3 dJ7_fill_53178_2 rfl rfl ?_
  refine AW.alen 4 dJ7_fill_53178_3 hc (by decide) (by decide) rfl ?_
  refine AW.istn3 5 dJ7_fill_53178_4 (by decide) rfl rfl ?_
  exact L
end BASE
end
section
theorem z_add64 (a b : Int32) : (a.toInt64 + b.toInt64).toInt = a.toInt + b.toInt := by
  rw [Int64.toInt_add, Int32.toInt_toInt64, Int32.toInt_toInt64]
  have h1 := Int32.toInt_lt a
  have h2 := Int32.toInt_lt b
  have h3 := Int32.le_toInt a
  have h4 := Int32.le_toInt b
  apply Int.bmod_eq_of_le <;> omega
theorem z_sub_toInt (a b : Int32) (h1 : -2147483648 ≤ a.toInt - b.toInt) (h2 : a.toInt - b.toInt < 2147483648) : (a - b).toInt = a.toInt - b.toInt := by
  rw [Int32.toInt_sub]
  apply Int.bmod_eq_of_le <;> omega
theorem z_add_toInt (a b : Int32) (h1 : -2147483648 ≤ a.toInt + b.toInt) (h2 : a.toInt + b.toInt < 2147483648) : (a + b).toInt = a.toInt + b.toInt := by
  rw [Int32.toInt_add]
  apply Int.bmod_eq_of_le <;> omega
/-- places a .. b - 1 of a row become v -/
def z_rng (f : Nat → Int32) (a b : Nat) (v : Int32) : Nat → Int32 := fun j => if a ≤ j ∧ j < b then v else f j
theorem z_rng_0 (f : Nat → Int32) (a : Nat) (v : Int32) : z_rng f a a v = f := by
  funext j; unfold z_rng; rw [if_neg (by omega)]
theorem z_rng_s (f : Nat → Int32) (a b : Nat) (v : Int32) (h : a ≤ b) : upd (z_rng f a b v) b v = z_rng f a (b + 1) v := by
  funext j
  unfold upd z_rng
  by_cases h1 : j = b
  · subst h1; rw [if_pos rfl, if_pos ⟨h, Nat.lt_succ_self _⟩]
  · rw [if_neg h1]
    by_cases h2 : a ≤ j ∧ j < b
    · rw [if_pos h2, if_pos ⟨h2.1, by omega⟩]
    · rw [if_neg h2, if_neg (by omega)]
def g_finds (M : zM) (s : Nat) (lane i n : Int32) : Int32 := if (M 133 s).toInt < 0 then -11 else if ¬ (M 133 s).toInt = lane.toInt then -12 else if i.toInt < 0 ∨ (M 134 s).toInt < i.toInt + n.toInt then -13 else nI 0
def g_sheet (M : zM) (s lane n : Int32) : Int32 × zM := if ¬ (0 ≤ s.toInt ∧ s.toInt ≤ 3) then (-1, M) else if ¬ (0 ≤ lane.toInt ∧ lane.toInt ≤ 2) then (-1, M) else if 48 < n.toInt then (-1, M) else if n.toInt < 0 then (-14, M) else
  (n, z_row (z_st (z_st M 133 s.toNatClampNeg lane) 134 s.toNatClampNeg n) 135 (z_rng (M 135) (48 * s.toNatClampNeg) (48 * s.toNatClampNeg + 48) (nI 0)))
def g_drop (M : zM) (s : Int32) : Int32 × zM := if ¬ (0 ≤ s.toInt ∧ s.toInt ≤ 3) then (-1, M) else if (M 133 s.toNatClampNeg).toInt < 0 then (-11, M) else (M 134 s.toNatClampNeg, z_st M 133 s.toNatClampNeg (-1))
theorem z_cmp_le0 {x y : Int64} : (lg_cmp x y).toInt ≤ 0 ↔ x.toInt ≤ y.toInt := by
  have := @z_cmp_gt0 x y
  constructor <;> intro h <;> omega
section MSHEET
variable {l : Launch} {g : zG} {d m0 m1 md : Nat} {M : zM}
theorem C_X10_isSheet {S : zS} {s : Int32} {Q : Int32 → zS → zM → Prop} (h1 : 0 ≤ s.toInt ∧ s.toInt ≤ 3 → Q (nI 1) S M) (h0 : ¬ (0 ≤ s.toInt ∧ s.toInt ≤ 3) → Q (nI 0) S M) : AMet l g yX10_isSheet cX10_isSheet 1 (some .boolean) (d + 1) 0 0 [.int s] S M (z_Qi Q) := by
  refine AMet.of (ini := false) rfl (fun h => by first | rfl | cases h) (Nat.le_of_ble_eq_true rfl) ?_
  show AW l g RX10 cX10_isSheet 1 (some .boolean) false _ _ _ 0 [some (.int s)] [] _ _ _
  refine AW.iload_n 1 dX10_isSheet_0 rfl rfl ?_
  refine AW.i2l 2 dX10_isSheet_1 rfl ?_
  refine AW.lconst 3 (lN 0) dX10_isSheet_2 rfl rfl ?_
  refine AW.ldc2 6 (lN 3) dX10_isSheet_3 qX10_207 rfl ?_
  refine AW.cSi3 9 dX10_isSheet_6 kX10_131 (Nat.le_of_ble_eq_true rfl) rfl (C_in (Int32.toInt_toInt64 _) (z_lN (by decide)) (z_lN (by decide)) (fun b6 => ?_) (fun b6 => ?_))
  · skip
    refine AW.iret dX10_isSheet_9 .boolean rfl rfl rfl ⟨_, rfl, ?_⟩
    first | exact h1 (by omega) | exact h0 (by omega)
  · skip
    refine AW.iret dX10_isSheet_9 .boolean rfl rfl rfl ⟨_, rfl, ?_⟩
    first | exact h1 (by omega) | exact h0 (by omega)
theorem C_X10_isLane {S : zS} {s : Int32} {Q : Int32 → zS → zM → Prop} (h1 : 0 ≤ s.toInt ∧ s.toInt ≤ 2 → Q (nI 1) S M) (h0 : ¬ (0 ≤ s.toInt ∧ s.toInt ≤ 2) → Q (nI 0) S M) : AMet l g yX10_isLane cX10_isLane 1 (some .boolean) (d + 1) 0 0 [.int s] S M (z_Qi Q) := by
  refine AMet.of (ini := false) rfl (fun h => by first | rfl | cases h) (Nat.le_of_ble_eq_true rfl) ?_
  show AW l g RX10 cX10_isLane 1 (some .boolean) false _ _ _ 0 [some (.int s)] [] _ _ _
  refine AW.iload_n 1 dX10_isLane_0 rfl rfl ?_
  refine AW.i2l 2 dX10_isLane_1 rfl ?_
  refine AW.lconst 3 (lN 0) dX10_isLane_2 rfl rfl ?_
  refine AW.ldc2 6 (lN 2) dX10_isLane_3 qX10_180 rfl ?_
  refine AW.cSi3 9 dX10_isLane_6 kX10_131 (Nat.le_of_ble_eq_true rfl) rfl (C_in (Int32.toInt_toInt64 _) (z_lN (by decide)) (z_lN (by decide)) (fun b6 => ?_) (fun b6 => ?_))
  · skip
    refine AW.iret dX10_isLane_9 .boolean rfl rfl rfl ⟨_, rfl, ?_⟩
    first | exact h1 (by omega) | exact h0 (by omega)
  · skip
    refine AW.iret dX10_isLane_9 .boolean rfl rfl rfl ⟨_, rfl, ?_⟩
    first | exact h1 (by omega) | exact h0 (by omega)
theorem C_X10_isMachine {S : zS} {s : Int32} {Q : Int32 → zS → zM → Prop} (h1 : 0 ≤ s.toInt ∧ s.toInt ≤ 1 → Q (nI 1) S M) (h0 : ¬ (0 ≤ s.toInt ∧ s.toInt ≤ 1) → Q (nI 0) S M) : AMet l g yX10_isMachine cX10_isMachine 1 (some .boolean) (d + 1) 0 0 [.int s] S M (z_Qi Q) := by
  refine AMet.of (ini := false) rfl (fun h => by first | rfl | cases h) (Nat.le_of_ble_eq_true rfl) ?_
  show AW l g RX10 cX10_isMachine 1 (some .boolean) false _ _ _ 0 [some (.int s)] [] _ _ _
  refine AW.iload_n 1 dX10_isMachine_0 rfl rfl ?_
  refine AW.i2l 2 dX10_isMachine_1 rfl ?_
  refine AW.lconst 3 (lN 0) dX10_isMachine_2 rfl rfl ?_
  refine AW.lconst 4 (lN 1) dX10_isMachine_3 rfl rfl ?_
  refine AW.cSi3 7 dX10_isMachine_4 kX10_131 (Nat.le_of_ble_eq_true rfl) rfl (C_in (Int32.toInt_toInt64 _) (z_lN (by decide)) (z_lN (by decide)) (fun b4 => ?_) (fun b4 => ?_))
  · skip
    refine AW.iret dX10_isMachine_7 .boolean rfl rfl rfl ⟨_, rfl, ?_⟩
    first | exact h1 (by omega) | exact h0 (by omega)
  · skip
    refine AW.iret dX10_isMachine_7 .boolean rfl rfl rfl ⟨_, rfl, ?_⟩
    first | exact h1 (by omega) | exact h0 (by omega)
theorem C_X10_finds {s : Nat} (hs : s < 4) {lane i n : Int32} {Q : Int32 → zS → zM → Prop} (hQ : Q (g_finds M s lane i n) (ZS m0 m1 md) M) : AMet l g yX10_finds cX10_finds 5 (some .int) d 0 0 [.ref 99, .int (nI s), .int lane, .int i, .int n] (ZS m0 m1 md) M (z_Qi Q) := by
  refine AMet.of (ini := false) rfl (fun h => by first | rfl | cases h) (Nat.le_of_ble_eq_true rfl) ?_
  show AW l g RX10 cX10_finds 5 (some .int) false _ _ _ 0 [some (.ref 99), some (.int (nI s)), some (.int lane), some (.int i), some (.int n)] [] _ _ _
  refine AW.aload_n 1 dX10_finds_0 rfl rfl ?_
  refine AW.getR 4 dX10_finds_1 fX10_117 rfl (zI rfl rfl) rfl rfl ?_
  refine AW.iload_n 5 dX10_finds_4 rfl rfl ?_
  refine AW.iald 6 dX10_finds_5 (zA rfl rfl) rfl (by omega) (by decide) rfl ?_
  refine AW.zif_ge 9 12 dX10_finds_6 (by decide) rfl rfl (fun b6 => ?_) (fun b6 => ?_)
  · skip
    refine AW.aload_n 13 dX10_finds_12 rfl rfl ?_
    refine AW.getR 16 dX10_finds_13 fX10_117 rfl (zI rfl rfl) rfl rfl ?_
    refine AW.iload_n 17 dX10_finds_16 rfl rfl ?_
    refine AW.iald 18 dX10_finds_17 (zA rfl rfl) rfl (by omega) (by decide) rfl ?_
    refine AW.iload_n 19 dX10_finds_18 rfl rfl ?_
    refine AW.zicmp_eq 22 25 dX10_finds_19 (by decide) rfl rfl rfl (fun b19 => ?_) (fun b19 => ?_)
    · skip
      refine AW.iload_n 26 dX10_finds_25 rfl rfl ?_
      refine AW.zif_lt 29 46 dX10_finds_26 (by decide) rfl rfl (fun b26 => ?_) (fun b26 => ?_)
      · skip
        refine AW.bipush 48 (-13) dX10_finds_46 (by decide) rfl ?_
        refine AW.goto 52 dX10_finds_48 (by decide) ?_
        refine AW.iret dX10_finds_52 .int rfl rfl rfl ⟨_, rfl, ?_⟩
        (try rw [z_cmp_le0, z_add64, Int32.toInt_toInt64] at b43)
        unfold g_finds at hQ
        repeat' split at hQ
        all_goals first | exact hQ | (exfalso; omega)
      · skip
        refine AW.iload_n 30 dX10_finds_29 rfl rfl ?_
        refine AW.i2l 31 dX10_finds_30 rfl ?_
        refine AW.iload 33 dX10_finds_31 rfl rfl ?_
        refine AW.i2l 34 dX10_finds_33 rfl ?_
        refine AW.ladd 35 dX10_finds_34 rfl ?_
        refine AW.aload_n 36 dX10_finds_35 rfl rfl ?_
        refine AW.getR 39 dX10_finds_36 fX10_120 rfl (zI rfl rfl) rfl rfl ?_
        refine AW.iload_n 40 dX10_finds_39 rfl rfl ?_
        refine AW.iald 41 dX10_finds_40 (zA rfl rfl) rfl (by omega) (by decide) rfl ?_
        refine AW.i2l 42 dX10_finds_41 rfl ?_
        refine AW.lcmp 43 dX10_finds_42 rfl ?_
        refine AW.zif_le 46 51 dX10_finds_43 (by decide) rfl rfl (fun b43 => ?_) (fun b43 => ?_)
        · skip
          refine AW.iconst 52 (nI 0) dX10_finds_51 (by decide) rfl ?_
          refine AW.iret dX10_finds_52 .int rfl rfl rfl ⟨_, rfl, ?_⟩
          (try rw [z_cmp_le0, z_add64, Int32.toInt_toInt64] at b43)
          unfold g_finds at hQ
          repeat' split at hQ
          all_goals first | exact hQ | (exfalso; omega)
        · skip
          refine AW.bipush 48 (-13) dX10_finds_46 (by decide) rfl ?_
          refine AW.goto 52 dX10_finds_48 (by decide) ?_
          refine AW.iret dX10_finds_52 .int rfl rfl rfl ⟨_, rfl, ?_⟩
          (try rw [z_cmp_le0, z_add64, Int32.toInt_toInt64] at b43)
          unfold g_finds at hQ
          repeat' split at hQ
          all_goals first | exact hQ | (exfalso; omega)
    · skip
      refine AW.bipush 24 (-12) dX10_finds_22 (by decide) rfl ?_
      refine AW.iret dX10_finds_24 .int rfl rfl rfl ⟨_, rfl, ?_⟩
      (try rw [z_cmp_le0, z_add64, Int32.toInt_toInt64] at b43)
      unfold g_finds at hQ
      repeat' split at hQ
      all_goals first | exact hQ | (exfalso; omega)
  · skip
    refine AW.bipush 11 (-11) dX10_finds_9 (by decide) rfl ?_
    refine AW.iret dX10_finds_11 .int rfl rfl rfl ⟨_, rfl, ?_⟩
    (try rw [z_cmp_le0, z_add64, Int32.toInt_toInt64] at b43)
    unfold g_finds at hQ
    repeat' split at hQ
    all_goals first | exact hQ | (exfalso; omega)
theorem C_X10_drop {s : Int32} {Q : Int32 → zS → zM → Prop} (hQ : Q (g_drop M s).1 (ZS m0 m1 md) (g_drop M s).2) : AMet l g yX10_drop cX10_drop 2 (some .int) (d + 2) 0 0 [.ref 99, .int s] (ZS m0 m1 md) M (z_Qi Q) := by
  unfold g_drop at hQ
  refine AMet.of (ini := false) rfl (fun h => by first | rfl | cases h) (Nat.le_of_ble_eq_true rfl) ?_
  show AW l g RX10 cX10_drop 2 (some .int) false _ _ _ 0 [some (.ref 99), some (.int s)] [] _ _ _
  refine AW.iload_n 1 dX10_drop_0 rfl rfl ?_
  refine AW.cSi1 4 dX10_drop_1 kX10_189 (Nat.le_of_ble_eq_true rfl) rfl (C_X10_isSheet (fun b1 => ?_) (fun b1 => ?_))
  · skip
    obtain ⟨k, hk, rfl, hk2⟩ := z_nI b1.1 b1.2
    rw [nI_clamp (by omega)] at hQ
    refine AW.if_ne 7 9 dX10_drop_4 (by decide) rfl (fun _ => ?_) (fun h => absurd h (by decide))
    refine AW.aload_n 10 dX10_drop_9 rfl rfl ?_
    refine AW.getR 13 dX10_drop_10 fX10_117 rfl (zI rfl rfl) rfl rfl ?_
    refine AW.iload_n 14 dX10_drop_13 rfl rfl ?_
    refine AW.iald 15 dX10_drop_14 (zA rfl rfl) rfl (by omega) (by decide) rfl ?_
    refine AW.zif_ge 18 21 dX10_drop_15 (by decide) rfl rfl (fun b15 => ?_) (fun b15 => ?_)
    · skip
      refine AW.aload_n 22 dX10_drop_21 rfl rfl ?_
      refine AW.getR 25 dX10_drop_22 fX10_117 rfl (zI rfl rfl) rfl rfl ?_
      refine AW.iload_n 26 dX10_drop_25 rfl rfl ?_
      refine AW.iconst 27 (-1) dX10_drop_26 (by decide) rfl ?_
      refine AW.iast 28 dX10_drop_27 (zA rfl rfl) rfl (by omega) (by decide) rfl ?_
      refine AW.aload_n 29 dX10_drop_28 rfl rfl ?_
      refine AW.getR 32 dX10_drop_29 fX10_120 rfl (zI rfl rfl) rfl rfl ?_
      refine AW.iload_n 33 dX10_drop_32 rfl rfl ?_
      refine AW.iald 34 dX10_drop_33 (zA rfl rfl) rfl (by omega) (by decide) rfl ?_
      refine AW.iret dX10_drop_34 .int rfl rfl rfl ⟨_, rfl, ?_⟩
      repeat' split at hQ
      all_goals first | exact hQ | (exfalso; omega)
    · skip
      refine AW.bipush 20 (-11) dX10_drop_18 (by decide) rfl ?_
      refine AW.iret dX10_drop_20 .int rfl rfl rfl ⟨_, rfl, ?_⟩
      repeat' split at hQ
      all_goals first | exact hQ | (exfalso; omega)
  · skip
    refine AW.if_ne 7 9 dX10_drop_4 (by decide) rfl (fun h => absurd h (by decide)) (fun _ => ?_)
    refine AW.iconst 8 (-1) dX10_drop_7 (by decide) rfl ?_
    refine AW.iret dX10_drop_8 .int rfl rfl rfl ⟨_, rfl, ?_⟩
    repeat' split at hQ
    all_goals first | exact hQ | (exfalso; omega)
end MSHEET
end
