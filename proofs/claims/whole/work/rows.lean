section
-- ===== PART A: goes FIRST, ahead of the names: the tables' words, and 'selects' of the private methods out of them =====
/-- a private method of a class that the tables say can be made, by its rows of tables_1 -/
def lw_okq (q : MethodName × Nat) : Prop := (q.1.cls ≠ "java/lang/invoke/MethodHandle" ∧ q.1.cls ≠ "java/lang/invoke/VarHandle") ∧ Cond.instantiable q.1.cls q.2 ∈ tables_1 ∧ Cond.privateMethod q.1 ∈ tables_1 ∧ Cond.instanceMethod q.1 ∈ tables_1
theorem lw_p0 : lw_okq (⟨"LychWeights$Reader", "step", "()V"⟩, 9) := ⟨⟨by decide +kernel, by decide +kernel⟩, List.mem_of_getElem? (i := 34) (by decide +kernel), List.mem_of_getElem? (i := 281) (by decide +kernel), List.mem_of_getElem? (i := 282) (by decide +kernel)⟩
theorem lw_p1 : lw_okq (⟨"LychWeights$Reader", "stepNumber", "()V"⟩, 9) := ⟨⟨by decide +kernel, by decide +kernel⟩, List.mem_of_getElem? (i := 34) (by decide +kernel), List.mem_of_getElem? (i := 289) (by decide +kernel), List.mem_of_getElem? (i := 290) (by decide +kernel)⟩
theorem lw_p2 : lw_okq (⟨"LychWeights$Reader", "readDeed", "(LLychWeights$Parish;)V"⟩, 9) := ⟨⟨by decide +kernel, by decide +kernel⟩, List.mem_of_getElem? (i := 34) (by decide +kernel), List.mem_of_getElem? (i := 296) (by decide +kernel), List.mem_of_getElem? (i := 297) (by decide +kernel)⟩
theorem lw_p3 : lw_okq (⟨"LychWeights$Reader", "open", "(Z)V"⟩, 9) := ⟨⟨by decide +kernel, by decide +kernel⟩, List.mem_of_getElem? (i := 34) (by decide +kernel), List.mem_of_getElem? (i := 300) (by decide +kernel), List.mem_of_getElem? (i := 301) (by decide +kernel)⟩
theorem lw_p4 : lw_okq (⟨"LychWeights$Reader", "number", "(II)I"⟩, 9) := ⟨⟨by decide +kernel, by decide +kernel⟩, List.mem_of_getElem? (i := 34) (by decide +kernel), List.mem_of_getElem? (i := 304) (by decide +kernel), List.mem_of_getElem? (i := 305) (by decide +kernel)⟩
theorem lw_p5 : lw_okq (⟨"LychWeights$Reader", "close", "(LLychWeights$Parish;)V"⟩, 9) := ⟨⟨by decide +kernel, by decide +kernel⟩, List.mem_of_getElem? (i := 34) (by decide +kernel), List.mem_of_getElem? (i := 309) (by decide +kernel), List.mem_of_getElem? (i := 310) (by decide +kernel)⟩
theorem lw_p6 : lw_okq (⟨"LychWeights$Reader", "readDead", "(LLychWeights$Parish;)V"⟩, 9) := ⟨⟨by decide +kernel, by decide +kernel⟩, List.mem_of_getElem? (i := 34) (by decide +kernel), List.mem_of_getElem? (i := 318) (by decide +kernel), List.mem_of_getElem? (i := 319) (by decide +kernel)⟩
theorem lw_p7 : lw_okq (⟨"LychWeights$Reader", "readDone", "(LLychWeights$Parish;)I"⟩, 9) := ⟨⟨by decide +kernel, by decide +kernel⟩, List.mem_of_getElem? (i := 34) (by decide +kernel), List.mem_of_getElem? (i := 322) (by decide +kernel), List.mem_of_getElem? (i := 323) (by decide +kernel)⟩
theorem lw_p8 : lw_okq (⟨"LychWeights$Reader", "mayBeDone", "(LLychWeights$Parish;I)Z"⟩, 9) := ⟨⟨by decide +kernel, by decide +kernel⟩, List.mem_of_getElem? (i := 34) (by decide +kernel), List.mem_of_getElem? (i := 326) (by decide +kernel), List.mem_of_getElem? (i := 327) (by decide +kernel)⟩
theorem lw_p9 : lw_okq (⟨"LychWeights$Reader", "readBearer", "(LLychWeights$Parish;)V"⟩, 9) := ⟨⟨by decide +kernel, by decide +kernel⟩, List.mem_of_getElem? (i := 34) (by decide +kernel), List.mem_of_getElem? (i := 344) (by decide +kernel), List.mem_of_getElem? (i := 345) (by decide +kernel)⟩
theorem lw_p10 : lw_okq (⟨"LychWeights$Reader", "readPin", "(LLychWeights$Parish;)V"⟩, 9) := ⟨⟨by decide +kernel, by decide +kernel⟩, List.mem_of_getElem? (i := 34) (by decide +kernel), List.mem_of_getElem? (i := 352) (by decide +kernel), List.mem_of_getElem? (i := 353) (by decide +kernel)⟩
theorem lw_p11 : lw_okq (⟨"LychWeights$Reader", "readRust", "(LLychWeights$Parish;)V"⟩, 9) := ⟨⟨by decide +kernel, by decide +kernel⟩, List.mem_of_getElem? (i := 34) (by decide +kernel), List.mem_of_getElem? (i := 356) (by decide +kernel), List.mem_of_getElem? (i := 357) (by decide +kernel)⟩
theorem lw_p12 : lw_okq (⟨"LychWeights", "whoDid", "(I)I"⟩, 14) := ⟨⟨by decide +kernel, by decide +kernel⟩, List.mem_of_getElem? (i := 12) (by decide +kernel), List.mem_of_getElem? (i := 371) (by decide +kernel), List.mem_of_getElem? (i := 372) (by decide +kernel)⟩
theorem lw_p13 : lw_okq (⟨"LychWeights", "loadOf", "(I)I"⟩, 14) := ⟨⟨by decide +kernel, by decide +kernel⟩, List.mem_of_getElem? (i := 12) (by decide +kernel), List.mem_of_getElem? (i := 390) (by decide +kernel), List.mem_of_getElem? (i := 391) (by decide +kernel)⟩
theorem lw_p14 : lw_okq (⟨"LychWeights", "burdenOf", "(I)I"⟩, 14) := ⟨⟨by decide +kernel, by decide +kernel⟩, List.mem_of_getElem? (i := 12) (by decide +kernel), List.mem_of_getElem? (i := 394) (by decide +kernel), List.mem_of_getElem? (i := 395) (by decide +kernel)⟩
theorem lw_p15 : lw_okq (⟨"LychWeights", "readingOf", "(I)I"⟩, 14) := ⟨⟨by decide +kernel, by decide +kernel⟩, List.mem_of_getElem? (i := 12) (by decide +kernel), List.mem_of_getElem? (i := 402) (by decide +kernel), List.mem_of_getElem? (i := 403) (by decide +kernel)⟩
def lw_privs_1 : List (MethodName × Nat) := [(⟨"LychWeights$Reader", "step", "()V"⟩, 9), (⟨"LychWeights$Reader", "stepNumber", "()V"⟩, 9), (⟨"LychWeights$Reader", "readDeed", "(LLychWeights$Parish;)V"⟩, 9), (⟨"LychWeights$Reader", "open", "(Z)V"⟩, 9), (⟨"LychWeights$Reader", "number", "(II)I"⟩, 9), (⟨"LychWeights$Reader", "close", "(LLychWeights$Parish;)V"⟩, 9), (⟨"LychWeights$Reader", "readDead", "(LLychWeights$Parish;)V"⟩, 9), (⟨"LychWeights$Reader", "readDone", "(LLychWeights$Parish;)I"⟩, 9), (⟨"LychWeights$Reader", "mayBeDone", "(LLychWeights$Parish;I)Z"⟩, 9), (⟨"LychWeights$Reader", "readBearer", "(LLychWeights$Parish;)V"⟩, 9), (⟨"LychWeights$Reader", "readPin", "(LLychWeights$Parish;)V"⟩, 9), (⟨"LychWeights$Reader", "readRust", "(LLychWeights$Parish;)V"⟩, 9), (⟨"LychWeights", "whoDid", "(I)I"⟩, 14), (⟨"LychWeights", "loadOf", "(I)I"⟩, 14), (⟨"LychWeights", "burdenOf", "(I)I"⟩, 14), (⟨"LychWeights", "readingOf", "(I)I"⟩, 14)]
theorem lw_r1 : ∀ q ∈ lw_privs_1, lw_okq q := List.forall_mem_cons.mpr ⟨lw_p0, List.forall_mem_cons.mpr ⟨lw_p1, List.forall_mem_cons.mpr ⟨lw_p2, List.forall_mem_cons.mpr ⟨lw_p3, List.forall_mem_cons.mpr ⟨lw_p4, List.forall_mem_cons.mpr ⟨lw_p5, List.forall_mem_cons.mpr ⟨lw_p6, List.forall_mem_cons.mpr ⟨lw_p7, List.forall_mem_cons.mpr ⟨lw_p8, List.forall_mem_cons.mpr ⟨lw_p9, List.forall_mem_cons.mpr ⟨lw_p10, List.forall_mem_cons.mpr ⟨lw_p11, List.forall_mem_cons.mpr ⟨lw_p12, List.forall_mem_cons.mpr ⟨lw_p13, List.forall_mem_cons.mpr ⟨lw_p14, List.forall_mem_cons.mpr ⟨lw_p15, fun _ h => absurd h List.not_mem_nil⟩⟩⟩⟩⟩⟩⟩⟩⟩⟩⟩⟩⟩⟩⟩⟩
theorem lw_p16 : lw_okq (⟨"LychWeights", "needleBy", "(II)I"⟩, 14) := ⟨⟨by decide +kernel, by decide +kernel⟩, List.mem_of_getElem? (i := 12) (by decide +kernel), List.mem_of_getElem? (i := 406) (by decide +kernel), List.mem_of_getElem? (i := 407) (by decide +kernel)⟩
theorem lw_p17 : lw_okq (⟨"LychWeights", "errorOf", "(I)I"⟩, 14) := ⟨⟨by decide +kernel, by decide +kernel⟩, List.mem_of_getElem? (i := 12) (by decide +kernel), List.mem_of_getElem? (i := 413) (by decide +kernel), List.mem_of_getElem? (i := 414) (by decide +kernel)⟩
theorem lw_p18 : lw_okq (⟨"LychWeights", "whoIsChalked", "()I"⟩, 14) := ⟨⟨by decide +kernel, by decide +kernel⟩, List.mem_of_getElem? (i := 12) (by decide +kernel), List.mem_of_getElem? (i := 434) (by decide +kernel), List.mem_of_getElem? (i := 435) (by decide +kernel)⟩
theorem lw_p19 : lw_okq (⟨"LychWeights$Shelf", "has", "(I)Z"⟩, 1) := ⟨⟨by decide +kernel, by decide +kernel⟩, List.mem_of_getElem? (i := 187) (by decide +kernel), List.mem_of_getElem? (i := 450) (by decide +kernel), List.mem_of_getElem? (i := 451) (by decide +kernel)⟩
theorem lw_p20 : lw_okq (⟨"LychWeights", "leastError", "(IIII)I"⟩, 14) := ⟨⟨by decide +kernel, by decide +kernel⟩, List.mem_of_getElem? (i := 12) (by decide +kernel), List.mem_of_getElem? (i := 504) (by decide +kernel), List.mem_of_getElem? (i := 505) (by decide +kernel)⟩
theorem lw_p21 : lw_okq (⟨"LychWeights", "leastErrorFrom", "(IIIII)I"⟩, 14) := ⟨⟨by decide +kernel, by decide +kernel⟩, List.mem_of_getElem? (i := 12) (by decide +kernel), List.mem_of_getElem? (i := 509) (by decide +kernel), List.mem_of_getElem? (i := 510) (by decide +kernel)⟩
theorem lw_p22 : lw_okq (⟨"LychWeights", "inOrder", "(II)I"⟩, 14) := ⟨⟨by decide +kernel, by decide +kernel⟩, List.mem_of_getElem? (i := 12) (by decide +kernel), List.mem_of_getElem? (i := 516) (by decide +kernel), List.mem_of_getElem? (i := 517) (by decide +kernel)⟩
theorem lw_p23 : lw_okq (⟨"LychWeights", "bestNext", "(IIII)I"⟩, 14) := ⟨⟨by decide +kernel, by decide +kernel⟩, List.mem_of_getElem? (i := 12) (by decide +kernel), List.mem_of_getElem? (i := 520) (by decide +kernel), List.mem_of_getElem? (i := 521) (by decide +kernel)⟩
theorem lw_p24 : lw_okq (⟨"LychWeights", "setsWith", "(I)I"⟩, 14) := ⟨⟨by decide +kernel, by decide +kernel⟩, List.mem_of_getElem? (i := 12) (by decide +kernel), List.mem_of_getElem? (i := 536) (by decide +kernel), List.mem_of_getElem? (i := 537) (by decide +kernel)⟩
theorem lw_p25 : lw_okq (⟨"LychWeights", "explainsAll", "(I)Z"⟩, 14) := ⟨⟨by decide +kernel, by decide +kernel⟩, List.mem_of_getElem? (i := 12) (by decide +kernel), List.mem_of_getElem? (i := 540) (by decide +kernel), List.mem_of_getElem? (i := 541) (by decide +kernel)⟩
theorem lw_p26 : lw_okq (⟨"LychWeights", "deedsInAllSets", "()I"⟩, 14) := ⟨⟨by decide +kernel, by decide +kernel⟩, List.mem_of_getElem? (i := 12) (by decide +kernel), List.mem_of_getElem? (i := 544) (by decide +kernel), List.mem_of_getElem? (i := 545) (by decide +kernel)⟩
theorem lw_p27 : lw_okq (⟨"LychWeights", "deedsInSomeSets", "()I"⟩, 14) := ⟨⟨by decide +kernel, by decide +kernel⟩, List.mem_of_getElem? (i := 12) (by decide +kernel), List.mem_of_getElem? (i := 548) (by decide +kernel), List.mem_of_getElem? (i := 549) (by decide +kernel)⟩
theorem lw_p28 : lw_okq (⟨"LychWeights", "bestWay", "(I)I"⟩, 14) := ⟨⟨by decide +kernel, by decide +kernel⟩, List.mem_of_getElem? (i := 12) (by decide +kernel), List.mem_of_getElem? (i := 564) (by decide +kernel), List.mem_of_getElem? (i := 565) (by decide +kernel)⟩
theorem lw_p29 : lw_okq (⟨"LychWeights", "betterWay", "(II)I"⟩, 14) := ⟨⟨by decide +kernel, by decide +kernel⟩, List.mem_of_getElem? (i := 12) (by decide +kernel), List.mem_of_getElem? (i := 568) (by decide +kernel), List.mem_of_getElem? (i := 569) (by decide +kernel)⟩
theorem lw_p30 : lw_okq (⟨"LychWeights", "isBetter", "(II)Z"⟩, 14) := ⟨⟨by decide +kernel, by decide +kernel⟩, List.mem_of_getElem? (i := 12) (by decide +kernel), List.mem_of_getElem? (i := 575) (by decide +kernel), List.mem_of_getElem? (i := 576) (by decide +kernel)⟩
theorem lw_p31 : lw_okq (⟨"LychWeights", "unevenness", "(I)I"⟩, 14) := ⟨⟨by decide +kernel, by decide +kernel⟩, List.mem_of_getElem? (i := 12) (by decide +kernel), List.mem_of_getElem? (i := 579) (by decide +kernel), List.mem_of_getElem? (i := 580) (by decide +kernel)⟩
def lw_privs_2 : List (MethodName × Nat) := [(⟨"LychWeights", "needleBy", "(II)I"⟩, 14), (⟨"LychWeights", "errorOf", "(I)I"⟩, 14), (⟨"LychWeights", "whoIsChalked", "()I"⟩, 14), (⟨"LychWeights$Shelf", "has", "(I)Z"⟩, 1), (⟨"LychWeights", "leastError", "(IIII)I"⟩, 14), (⟨"LychWeights", "leastErrorFrom", "(IIIII)I"⟩, 14), (⟨"LychWeights", "inOrder", "(II)I"⟩, 14), (⟨"LychWeights", "bestNext", "(IIII)I"⟩, 14), (⟨"LychWeights", "setsWith", "(I)I"⟩, 14), (⟨"LychWeights", "explainsAll", "(I)Z"⟩, 14), (⟨"LychWeights", "deedsInAllSets", "()I"⟩, 14), (⟨"LychWeights", "deedsInSomeSets", "()I"⟩, 14), (⟨"LychWeights", "bestWay", "(I)I"⟩, 14), (⟨"LychWeights", "betterWay", "(II)I"⟩, 14), (⟨"LychWeights", "isBetter", "(II)Z"⟩, 14), (⟨"LychWeights", "unevenness", "(I)I"⟩, 14)]
theorem lw_r2 : ∀ q ∈ lw_privs_2, lw_okq q := List.forall_mem_cons.mpr ⟨lw_p16, List.forall_mem_cons.mpr ⟨lw_p17, List.forall_mem_cons.mpr ⟨lw_p18, List.forall_mem_cons.mpr ⟨lw_p19, List.forall_mem_cons.mpr ⟨lw_p20, List.forall_mem_cons.mpr ⟨lw_p21, List.forall_mem_cons.mpr ⟨lw_p22, List.forall_mem_cons.mpr ⟨lw_p23, List.forall_mem_cons.mpr ⟨lw_p24, List.forall_mem_cons.mpr ⟨lw_p25, List.forall_mem_cons.mpr ⟨lw_p26, List.forall_mem_cons.mpr ⟨lw_p27, List.forall_mem_cons.mpr ⟨lw_p28, List.forall_mem_cons.mpr ⟨lw_p29, List.forall_mem_cons.mpr ⟨lw_p30, List.forall_mem_cons.mpr ⟨lw_p31, fun _ h => absurd h List.not_mem_nil⟩⟩⟩⟩⟩⟩⟩⟩⟩⟩⟩⟩⟩⟩⟩⟩
theorem lw_p32 : lw_okq (⟨"LychWeights", "partLeaning", "(II)I"⟩, 14) := ⟨⟨by decide +kernel, by decide +kernel⟩, List.mem_of_getElem? (i := 12) (by decide +kernel), List.mem_of_getElem? (i := 593) (by decide +kernel), List.mem_of_getElem? (i := 594) (by decide +kernel)⟩
theorem lw_p33 : lw_okq (⟨"LychWeights", "rateAsDeed", "(I)I"⟩, 14) := ⟨⟨by decide +kernel, by decide +kernel⟩, List.mem_of_getElem? (i := 12) (by decide +kernel), List.mem_of_getElem? (i := 607) (by decide +kernel), List.mem_of_getElem? (i := 608) (by decide +kernel)⟩
theorem lw_p34 : lw_okq (⟨"LychWeights", "rateAsDebt", "(I)I"⟩, 14) := ⟨⟨by decide +kernel, by decide +kernel⟩, List.mem_of_getElem? (i := 12) (by decide +kernel), List.mem_of_getElem? (i := 611) (by decide +kernel), List.mem_of_getElem? (i := 612) (by decide +kernel)⟩
theorem lw_p35 : lw_okq (⟨"LychWeights", "rateAsLie", "(I)I"⟩, 14) := ⟨⟨by decide +kernel, by decide +kernel⟩, List.mem_of_getElem? (i := 12) (by decide +kernel), List.mem_of_getElem? (i := 616) (by decide +kernel), List.mem_of_getElem? (i := 617) (by decide +kernel)⟩
theorem lw_p36 : lw_okq (⟨"LychWeights", "rateAsOath", "(I)I"⟩, 14) := ⟨⟨by decide +kernel, by decide +kernel⟩, List.mem_of_getElem? (i := 12) (by decide +kernel), List.mem_of_getElem? (i := 621) (by decide +kernel), List.mem_of_getElem? (i := 622) (by decide +kernel)⟩
theorem lw_p37 : lw_okq (⟨"LychWeights", "rateAsKiss", "(I)I"⟩, 14) := ⟨⟨by decide +kernel, by decide +kernel⟩, List.mem_of_getElem? (i := 12) (by decide +kernel), List.mem_of_getElem? (i := 626) (by decide +kernel), List.mem_of_getElem? (i := 627) (by decide +kernel)⟩
theorem lw_p38 : lw_okq (⟨"LychWeights", "rateAsTheft", "(I)I"⟩, 14) := ⟨⟨by decide +kernel, by decide +kernel⟩, List.mem_of_getElem? (i := 12) (by decide +kernel), List.mem_of_getElem? (i := 631) (by decide +kernel), List.mem_of_getElem? (i := 632) (by decide +kernel)⟩
theorem lw_p39 : lw_okq (⟨"LychWeightsModel", "next", "()V"⟩, 37) := ⟨⟨by decide +kernel, by decide +kernel⟩, List.mem_of_getElem? (i := 654) (by decide +kernel), List.mem_of_getElem? (i := 788) (by decide +kernel), List.mem_of_getElem? (i := 789) (by decide +kernel)⟩
theorem lw_p40 : lw_okq (⟨"LychWeightsModel", "letterAt", "(I)I"⟩, 37) := ⟨⟨by decide +kernel, by decide +kernel⟩, List.mem_of_getElem? (i := 654) (by decide +kernel), List.mem_of_getElem? (i := 792) (by decide +kernel), List.mem_of_getElem? (i := 793) (by decide +kernel)⟩
theorem lw_p41 : lw_okq (⟨"LychWeightsModel", "readItem", "()V"⟩, 37) := ⟨⟨by decide +kernel, by decide +kernel⟩, List.mem_of_getElem? (i := 654) (by decide +kernel), List.mem_of_getElem? (i := 799) (by decide +kernel), List.mem_of_getElem? (i := 800) (by decide +kernel)⟩
theorem lw_p42 : lw_okq (⟨"LychWeightsModel", "mayBegin", "(I)Z"⟩, 37) := ⟨⟨by decide +kernel, by decide +kernel⟩, List.mem_of_getElem? (i := 654) (by decide +kernel), List.mem_of_getElem? (i := 803) (by decide +kernel), List.mem_of_getElem? (i := 804) (by decide +kernel)⟩
theorem lw_p43 : lw_okq (⟨"LychWeightsModel", "readBody", "(I)V"⟩, 37) := ⟨⟨by decide +kernel, by decide +kernel⟩, List.mem_of_getElem? (i := 654) (by decide +kernel), List.mem_of_getElem? (i := 807) (by decide +kernel), List.mem_of_getElem? (i := 808) (by decide +kernel)⟩
theorem lw_p44 : lw_okq (⟨"LychWeightsModel", "takesNumber", "(II)I"⟩, 37) := ⟨⟨by decide +kernel, by decide +kernel⟩, List.mem_of_getElem? (i := 654) (by decide +kernel), List.mem_of_getElem? (i := 811) (by decide +kernel), List.mem_of_getElem? (i := 812) (by decide +kernel)⟩
theorem lw_p45 : lw_okq (⟨"LychWeightsModel", "readDead", "()V"⟩, 37) := ⟨⟨by decide +kernel, by decide +kernel⟩, List.mem_of_getElem? (i := 654) (by decide +kernel), List.mem_of_getElem? (i := 815) (by decide +kernel), List.mem_of_getElem? (i := 816) (by decide +kernel)⟩
theorem lw_p46 : lw_okq (⟨"LychWeightsModel", "settles", "()V"⟩, 37) := ⟨⟨by decide +kernel, by decide +kernel⟩, List.mem_of_getElem? (i := 654) (by decide +kernel), List.mem_of_getElem? (i := 822) (by decide +kernel), List.mem_of_getElem? (i := 823) (by decide +kernel)⟩
theorem lw_p47 : lw_okq (⟨"LychWeightsModel", "isDeed", "(I)Z"⟩, 37) := ⟨⟨by decide +kernel, by decide +kernel⟩, List.mem_of_getElem? (i := 654) (by decide +kernel), List.mem_of_getElem? (i := 830) (by decide +kernel), List.mem_of_getElem? (i := 831) (by decide +kernel)⟩
def lw_privs_3 : List (MethodName × Nat) := [(⟨"LychWeights", "partLeaning", "(II)I"⟩, 14), (⟨"LychWeights", "rateAsDeed", "(I)I"⟩, 14), (⟨"LychWeights", "rateAsDebt", "(I)I"⟩, 14), (⟨"LychWeights", "rateAsLie", "(I)I"⟩, 14), (⟨"LychWeights", "rateAsOath", "(I)I"⟩, 14), (⟨"LychWeights", "rateAsKiss", "(I)I"⟩, 14), (⟨"LychWeights", "rateAsTheft", "(I)I"⟩, 14), (⟨"LychWeightsModel", "next", "()V"⟩, 37), (⟨"LychWeightsModel", "letterAt", "(I)I"⟩, 37), (⟨"LychWeightsModel", "readItem", "()V"⟩, 37), (⟨"LychWeightsModel", "mayBegin", "(I)Z"⟩, 37), (⟨"LychWeightsModel", "readBody", "(I)V"⟩, 37), (⟨"LychWeightsModel", "takesNumber", "(II)I"⟩, 37), (⟨"LychWeightsModel", "readDead", "()V"⟩, 37), (⟨"LychWeightsModel", "settles", "()V"⟩, 37), (⟨"LychWeightsModel", "isDeed", "(I)Z"⟩, 37)]
theorem lw_r3 : ∀ q ∈ lw_privs_3, lw_okq q := List.forall_mem_cons.mpr ⟨lw_p32, List.forall_mem_cons.mpr ⟨lw_p33, List.forall_mem_cons.mpr ⟨lw_p34, List.forall_mem_cons.mpr ⟨lw_p35, List.forall_mem_cons.mpr ⟨lw_p36, List.forall_mem_cons.mpr ⟨lw_p37, List.forall_mem_cons.mpr ⟨lw_p38, List.forall_mem_cons.mpr ⟨lw_p39, List.forall_mem_cons.mpr ⟨lw_p40, List.forall_mem_cons.mpr ⟨lw_p41, List.forall_mem_cons.mpr ⟨lw_p42, List.forall_mem_cons.mpr ⟨lw_p43, List.forall_mem_cons.mpr ⟨lw_p44, List.forall_mem_cons.mpr ⟨lw_p45, List.forall_mem_cons.mpr ⟨lw_p46, List.forall_mem_cons.mpr ⟨lw_p47, fun _ h => absurd h List.not_mem_nil⟩⟩⟩⟩⟩⟩⟩⟩⟩⟩⟩⟩⟩⟩⟩⟩
theorem lw_p48 : lw_okq (⟨"LychWeightsModel", "whoDid", "(I)I"⟩, 37) := ⟨⟨by decide +kernel, by decide +kernel⟩, List.mem_of_getElem? (i := 654) (by decide +kernel), List.mem_of_getElem? (i := 835) (by decide +kernel), List.mem_of_getElem? (i := 836) (by decide +kernel)⟩
theorem lw_p49 : lw_okq (⟨"LychWeightsModel", "isDead", "(I)Z"⟩, 37) := ⟨⟨by decide +kernel, by decide +kernel⟩, List.mem_of_getElem? (i := 654) (by decide +kernel), List.mem_of_getElem? (i := 843) (by decide +kernel), List.mem_of_getElem? (i := 844) (by decide +kernel)⟩
theorem lw_p50 : lw_okq (⟨"LychWeightsModel", "asItIs", "()V"⟩, 37) := ⟨⟨by decide +kernel, by decide +kernel⟩, List.mem_of_getElem? (i := 654) (by decide +kernel), List.mem_of_getElem? (i := 847) (by decide +kernel), List.mem_of_getElem? (i := 848) (by decide +kernel)⟩
theorem lw_p51 : lw_okq (⟨"LychWeightsModel", "weightOf", "(I)I"⟩, 37) := ⟨⟨by decide +kernel, by decide +kernel⟩, List.mem_of_getElem? (i := 654) (by decide +kernel), List.mem_of_getElem? (i := 854) (by decide +kernel), List.mem_of_getElem? (i := 855) (by decide +kernel)⟩
theorem lw_p52 : lw_okq (⟨"LychWeightsModel", "loadOf", "(I)I"⟩, 37) := ⟨⟨by decide +kernel, by decide +kernel⟩, List.mem_of_getElem? (i := 654) (by decide +kernel), List.mem_of_getElem? (i := 858) (by decide +kernel), List.mem_of_getElem? (i := 859) (by decide +kernel)⟩
theorem lw_p53 : lw_okq (⟨"LychWeightsModel", "truly", "(I)I"⟩, 37) := ⟨⟨by decide +kernel, by decide +kernel⟩, List.mem_of_getElem? (i := 654) (by decide +kernel), List.mem_of_getElem? (i := 862) (by decide +kernel), List.mem_of_getElem? (i := 863) (by decide +kernel)⟩
theorem lw_p54 : lw_okq (⟨"LychWeightsModel", "readsOf", "(I)I"⟩, 37) := ⟨⟨by decide +kernel, by decide +kernel⟩, List.mem_of_getElem? (i := 654) (by decide +kernel), List.mem_of_getElem? (i := 866) (by decide +kernel), List.mem_of_getElem? (i := 867) (by decide +kernel)⟩
theorem lw_p55 : lw_okq (⟨"LychWeightsModel", "laid", "(I)I"⟩, 37) := ⟨⟨by decide +kernel, by decide +kernel⟩, List.mem_of_getElem? (i := 654) (by decide +kernel), List.mem_of_getElem? (i := 870) (by decide +kernel), List.mem_of_getElem? (i := 871) (by decide +kernel)⟩
theorem lw_p56 : lw_okq (⟨"LychWeightsModel", "moves", "(I)V"⟩, 37) := ⟨⟨by decide +kernel, by decide +kernel⟩, List.mem_of_getElem? (i := 654) (by decide +kernel), List.mem_of_getElem? (i := 874) (by decide +kernel), List.mem_of_getElem? (i := 875) (by decide +kernel)⟩
theorem lw_p57 : lw_okq (⟨"LychWeightsModel", "chalked", "()I"⟩, 37) := ⟨⟨by decide +kernel, by decide +kernel⟩, List.mem_of_getElem? (i := 654) (by decide +kernel), List.mem_of_getElem? (i := 886) (by decide +kernel), List.mem_of_getElem? (i := 887) (by decide +kernel)⟩
theorem lw_p58 : lw_okq (⟨"LychWeightsModel", "remembers", "()V"⟩, 37) := ⟨⟨by decide +kernel, by decide +kernel⟩, List.mem_of_getElem? (i := 654) (by decide +kernel), List.mem_of_getElem? (i := 894) (by decide +kernel), List.mem_of_getElem? (i := 895) (by decide +kernel)⟩
theorem lw_p59 : lw_okq (⟨"LychWeightsModel", "isOrder", "(III)Z"⟩, 37) := ⟨⟨by decide +kernel, by decide +kernel⟩, List.mem_of_getElem? (i := 654) (by decide +kernel), List.mem_of_getElem? (i := 932) (by decide +kernel), List.mem_of_getElem? (i := 933) (by decide +kernel)⟩
theorem lw_p60 : lw_okq (⟨"LychWeightsModel", "differsBy", "(I)I"⟩, 37) := ⟨⟨by decide +kernel, by decide +kernel⟩, List.mem_of_getElem? (i := 654) (by decide +kernel), List.mem_of_getElem? (i := 936) (by decide +kernel), List.mem_of_getElem? (i := 937) (by decide +kernel)⟩
theorem lw_p61 : lw_okq (⟨"LychWeightsModel", "canBe", "(II)I"⟩, 37) := ⟨⟨by decide +kernel, by decide +kernel⟩, List.mem_of_getElem? (i := 654) (by decide +kernel), List.mem_of_getElem? (i := 955) (by decide +kernel), List.mem_of_getElem? (i := 956) (by decide +kernel)⟩
theorem lw_p62 : lw_okq (⟨"LychWeightsModel", "isSo", "(I)Z"⟩, 37) := ⟨⟨by decide +kernel, by decide +kernel⟩, List.mem_of_getElem? (i := 654) (by decide +kernel), List.mem_of_getElem? (i := 959) (by decide +kernel), List.mem_of_getElem? (i := 960) (by decide +kernel)⟩
theorem lw_p63 : lw_okq (⟨"LychWeightsModel", "strengthOf", "(I)I"⟩, 37) := ⟨⟨by decide +kernel, by decide +kernel⟩, List.mem_of_getElem? (i := 654) (by decide +kernel), List.mem_of_getElem? (i := 975) (by decide +kernel), List.mem_of_getElem? (i := 976) (by decide +kernel)⟩
def lw_privs_4 : List (MethodName × Nat) := [(⟨"LychWeightsModel", "whoDid", "(I)I"⟩, 37), (⟨"LychWeightsModel", "isDead", "(I)Z"⟩, 37), (⟨"LychWeightsModel", "asItIs", "()V"⟩, 37), (⟨"LychWeightsModel", "weightOf", "(I)I"⟩, 37), (⟨"LychWeightsModel", "loadOf", "(I)I"⟩, 37), (⟨"LychWeightsModel", "truly", "(I)I"⟩, 37), (⟨"LychWeightsModel", "readsOf", "(I)I"⟩, 37), (⟨"LychWeightsModel", "laid", "(I)I"⟩, 37), (⟨"LychWeightsModel", "moves", "(I)V"⟩, 37), (⟨"LychWeightsModel", "chalked", "()I"⟩, 37), (⟨"LychWeightsModel", "remembers", "()V"⟩, 37), (⟨"LychWeightsModel", "isOrder", "(III)Z"⟩, 37), (⟨"LychWeightsModel", "differsBy", "(I)I"⟩, 37), (⟨"LychWeightsModel", "canBe", "(II)I"⟩, 37), (⟨"LychWeightsModel", "isSo", "(I)Z"⟩, 37), (⟨"LychWeightsModel", "strengthOf", "(I)I"⟩, 37)]
theorem lw_r4 : ∀ q ∈ lw_privs_4, lw_okq q := List.forall_mem_cons.mpr ⟨lw_p48, List.forall_mem_cons.mpr ⟨lw_p49, List.forall_mem_cons.mpr ⟨lw_p50, List.forall_mem_cons.mpr ⟨lw_p51, List.forall_mem_cons.mpr ⟨lw_p52, List.forall_mem_cons.mpr ⟨lw_p53, List.forall_mem_cons.mpr ⟨lw_p54, List.forall_mem_cons.mpr ⟨lw_p55, List.forall_mem_cons.mpr ⟨lw_p56, List.forall_mem_cons.mpr ⟨lw_p57, List.forall_mem_cons.mpr ⟨lw_p58, List.forall_mem_cons.mpr ⟨lw_p59, List.forall_mem_cons.mpr ⟨lw_p60, List.forall_mem_cons.mpr ⟨lw_p61, List.forall_mem_cons.mpr ⟨lw_p62, List.forall_mem_cons.mpr ⟨lw_p63, fun _ h => absurd h List.not_mem_nil⟩⟩⟩⟩⟩⟩⟩⟩⟩⟩⟩⟩⟩⟩⟩⟩
def lw_privs : List (MethodName × Nat) := lw_privs_1 ++ (lw_privs_2 ++ (lw_privs_3 ++ (lw_privs_4)))
def lw_tbl : List Cond := k2_sels lw_privs ++ tables_1
theorem lw_privs_ok : ∀ q ∈ lw_privs, lw_okq q := by
  show ∀ q ∈ lw_privs_1 ++ (lw_privs_2 ++ (lw_privs_3 ++ (lw_privs_4))), lw_okq q
  exact List.forall_mem_append.mpr ⟨lw_r1, List.forall_mem_append.mpr ⟨lw_r2, List.forall_mem_append.mpr ⟨lw_r3, lw_r4⟩⟩⟩
end
section
/-! names, fields, codes (out of the printed names) -/
def RX0 : String := "LychWeights$History"
def TX0 : u_T := fun k => match k with
  | 0 => ("LychWeights$History", "known", "I", false)
  | 1 => ("LychWeights$History", "next", "I", false)
  | _ => ("LychWeights$History", "ring", "LLychWeights$Shelf;", true)
def tyX0 : Nat → FieldType := fun k => match k with
  | 0 => .int
  | 1 => .int
  | _ => .object "LychWeights$Shelf"
abbrev wsX00 : List Cond := u_ws RX0 TX0 3
theorem nmX0 : ∀ a, a < 3 → ∀ b, b < 3 → a ≠ b → (TX0 a).2.1 ≠ (TX0 b).2.1 := by decide +kernel
theorem tyX0_ok : ∀ k, k < 3 → parseFieldDescriptor (TX0 k).2.2.1 = some (tyX0 k) := by decide +kernel
abbrev cX0_init : ByteArray := prog_2_method_1_code
def yX0_init : MethodName := ⟨RX0, "<init>", "()V"⟩
abbrev cX0_remember : ByteArray := prog_2_method_2_code
def yX0_remember : MethodName := ⟨RX0, "remember", "(LLychWeights$Scene;)V"⟩
abbrev cX0_recall : ByteArray := prog_2_method_3_code
def yX0_recall : MethodName := ⟨RX0, "recall", "(LLychWeights$Scene;)V"⟩
abbrev cX0_loseAll : ByteArray := prog_2_method_4_code
def yX0_loseAll : MethodName := ⟨RX0, "loseAll", "()V"⟩
def RX1 : String := "LychWeights$Parish"
def TX1 : u_T := fun k => match k with
  | 0 => ("LychWeights$Parish", "items", "I", false)
  | 1 => ("LychWeights$Parish", "deeds", "I", false)
  | 2 => ("LychWeights$Parish", "dead", "I", false)
  | 3 => ("LychWeights$Parish", "bearers", "I", false)
  | 4 => ("LychWeights$Parish", "pin", "I", false)
  | 5 => ("LychWeights$Parish", "rust", "I", false)
  | 6 => ("LychWeights$Parish", "weights", "LLychWeights$Row;", true)
  | 7 => ("LychWeights$Parish", "boxes", "LLychWeights$Row;", true)
  | 8 => ("LychWeights$Parish", "flowers", "LLychWeights$Row;", true)
  | 9 => ("LychWeights$Parish", "sins", "LLychWeights$Row;", true)
  | _ => ("LychWeights$Parish", "strengths", "LLychWeights$Row;", true)
def tyX1 : Nat → FieldType := fun k => match k with
  | 0 => .int
  | 1 => .int
  | 2 => .int
  | 3 => .int
  | 4 => .int
  | 5 => .int
  | 6 => .object "LychWeights$Row"
  | 7 => .object "LychWeights$Row"
  | 8 => .object "LychWeights$Row"
  | 9 => .object "LychWeights$Row"
  | _ => .object "LychWeights$Row"
abbrev wsX10 : List Cond := u_ws RX1 TX1 11
theorem nmX1 : ∀ a, a < 11 → ∀ b, b < 11 → a ≠ b → (TX1 a).2.1 ≠ (TX1 b).2.1 := by decide +kernel
theorem tyX1_ok : ∀ k, k < 11 → parseFieldDescriptor (TX1 k).2.2.1 = some (tyX1 k) := by decide +kernel
abbrev cX1_init : ByteArray := prog_3_method_1_code
def yX1_init : MethodName := ⟨RX1, "<init>", "()V"⟩
abbrev cX1_begin : ByteArray := prog_3_method_2_code
def yX1_begin : MethodName := ⟨RX1, "begin", "()V"⟩
abbrev cX1_hasDeed : ByteArray := prog_3_method_3_code
def yX1_hasDeed : MethodName := ⟨RX1, "hasDeed", "(I)Z"⟩
abbrev cX1_hasDead : ByteArray := prog_3_method_4_code
def yX1_hasDead : MethodName := ⟨RX1, "hasDead", "(I)Z"⟩
abbrev cX1_hasBearer : ByteArray := prog_3_method_5_code
def yX1_hasBearer : MethodName := ⟨RX1, "hasBearer", "(I)Z"⟩
abbrev cX1_addDeed : ByteArray := prog_3_method_6_code
def yX1_addDeed : MethodName := ⟨RX1, "addDeed", "(I)V"⟩
abbrev cX1_addDead : ByteArray := prog_3_method_7_code
def yX1_addDead : MethodName := ⟨RX1, "addDead", "(III)V"⟩
abbrev cX1_addBearer : ByteArray := prog_3_method_8_code
def yX1_addBearer : MethodName := ⟨RX1, "addBearer", "(I)V"⟩
def RX2 : String := "LychWeights$Reader"
def TX2 : u_T := fun k => match k with
  | 0 => ("LychWeights$Reader", "letters", "LLychWeights$Row;", true)
  | 1 => ("LychWeights$Reader", "length", "I", false)
  | 2 => ("LychWeights$Reader", "start", "I", false)
  | 3 => ("LychWeights$Reader", "behind", "I", false)
  | 4 => ("LychWeights$Reader", "token", "I", false)
  | 5 => ("LychWeights$Reader", "value", "I", false)
  | 6 => ("LychWeights$Reader", "wrong", "Z", false)
  | 7 => ("LychWeights$Reader", "pinTold", "Z", false)
  | _ => ("LychWeights$Reader", "rustTold", "Z", false)
def tyX2 : Nat → FieldType := fun k => match k with
  | 0 => .object "LychWeights$Row"
  | 1 => .int
  | 2 => .int
  | 3 => .int
  | 4 => .int
  | 5 => .int
  | 6 => .boolean
  | 7 => .boolean
  | _ => .boolean
abbrev wsX20 : List Cond := u_ws RX2 TX2 9
theorem nmX2 : ∀ a, a < 9 → ∀ b, b < 9 → a ≠ b → (TX2 a).2.1 ≠ (TX2 b).2.1 := by decide +kernel
theorem tyX2_ok : ∀ k, k < 9 → parseFieldDescriptor (TX2 k).2.2.1 = some (tyX2 k) := by decide +kernel
abbrev cX2_init : ByteArray := prog_4_method_1_code
def yX2_init : MethodName := ⟨RX2, "<init>", "(LLychWeights$Row;)V"⟩
abbrev cX2_read : ByteArray := prog_4_method_2_code
def yX2_read : MethodName := ⟨RX2, "read", "(ILLychWeights$Parish;)I"⟩
abbrev cX2_readDeed : ByteArray := prog_4_method_3_code
def yX2_readDeed : MethodName := ⟨RX2, "readDeed", "(LLychWeights$Parish;)V"⟩
abbrev cX2_readDead : ByteArray := prog_4_method_4_code
def yX2_readDead : MethodName := ⟨RX2, "readDead", "(LLychWeights$Parish;)V"⟩
abbrev cX2_readDone : ByteArray := prog_4_method_5_code
def yX2_readDone : MethodName := ⟨RX2, "readDone", "(LLychWeights$Parish;)I"⟩
abbrev cX2_mayBeDone : ByteArray := prog_4_method_6_code
def yX2_mayBeDone : MethodName := ⟨RX2, "mayBeDone", "(LLychWeights$Parish;I)Z"⟩
abbrev cX2_readBearer : ByteArray := prog_4_method_7_code
def yX2_readBearer : MethodName := ⟨RX2, "readBearer", "(LLychWeights$Parish;)V"⟩
abbrev cX2_readPin : ByteArray := prog_4_method_8_code
def yX2_readPin : MethodName := ⟨RX2, "readPin", "(LLychWeights$Parish;)V"⟩
abbrev cX2_readRust : ByteArray := prog_4_method_9_code
def yX2_readRust : MethodName := ⟨RX2, "readRust", "(LLychWeights$Parish;)V"⟩
abbrev cX2_open : ByteArray := prog_4_method_10_code
def yX2_open : MethodName := ⟨RX2, "open", "(Z)V"⟩
abbrev cX2_number : ByteArray := prog_4_method_11_code
def yX2_number : MethodName := ⟨RX2, "number", "(II)I"⟩
abbrev cX2_close : ByteArray := prog_4_method_12_code
def yX2_close : MethodName := ⟨RX2, "close", "(LLychWeights$Parish;)V"⟩
abbrev cX2_step : ByteArray := prog_4_method_13_code
def yX2_step : MethodName := ⟨RX2, "step", "()V"⟩
abbrev cX2_stepNumber : ByteArray := prog_4_method_14_code
def yX2_stepNumber : MethodName := ⟨RX2, "stepNumber", "()V"⟩
abbrev cX2_isDigit : ByteArray := prog_4_method_15_code
def yX2_isDigit : MethodName := ⟨RX2, "isDigit", "(I)Z"⟩
abbrev cX2_isSign : ByteArray := prog_4_method_16_code
def yX2_isSign : MethodName := ⟨RX2, "isSign", "(I)Z"⟩
def RX3 : String := "LychWeights$Row"
def TX3 : u_T := fun k => match k with
  | _ => ("LychWeights$Row", "cells", "[I", true)
def tyX3 : Nat → FieldType := fun k => match k with
  | _ => .array .int
abbrev wsX30 : List Cond := u_ws RX3 TX3 1
theorem nmX3 : ∀ a, a < 1 → ∀ b, b < 1 → a ≠ b → (TX3 a).2.1 ≠ (TX3 b).2.1 := by decide +kernel
theorem tyX3_ok : ∀ k, k < 1 → parseFieldDescriptor (TX3 k).2.2.1 = some (tyX3 k) := by decide +kernel
abbrev cX3_init : ByteArray := prog_5_method_1_code
def yX3_init : MethodName := ⟨RX3, "<init>", "(I)V"⟩
abbrev cX3_at : ByteArray := prog_5_method_2_code
def yX3_at : MethodName := ⟨RX3, "at", "(I)I"⟩
abbrev cX3_put : ByteArray := prog_5_method_3_code
def yX3_put : MethodName := ⟨RX3, "put", "(II)V"⟩
abbrev cX3_sumOf : ByteArray := prog_5_method_4_code
def yX3_sumOf : MethodName := ⟨RX3, "sumOf", "(I)I"⟩
abbrev cX3_fill : ByteArray := prog_5_method_5_code
def yX3_fill : MethodName := ⟨RX3, "fill", "(I)V"⟩
abbrev cX3_copyFrom : ByteArray := prog_5_method_6_code
def yX3_copyFrom : MethodName := ⟨RX3, "copyFrom", "(LLychWeights$Row;)V"⟩
def RX4 : String := "LychWeights$Scene"
def TX4 : u_T := fun k => match k with
  | 0 => ("LychWeights$Scene", "needle", "I", false)
  | 1 => ("LychWeights$Scene", "thumb", "I", false)
  | 2 => ("LychWeights$Scene", "rust", "I", false)
  | 3 => ("LychWeights$Scene", "flowers", "LLychWeights$Row;", true)
  | 4 => ("LychWeights$Scene", "sins", "LLychWeights$Row;", true)
  | _ => ("LychWeights$Scene", "chalk", "LLychWeights$Row;", true)
def tyX4 : Nat → FieldType := fun k => match k with
  | 0 => .int
  | 1 => .int
  | 2 => .int
  | 3 => .object "LychWeights$Row"
  | 4 => .object "LychWeights$Row"
  | _ => .object "LychWeights$Row"
abbrev wsX40 : List Cond := u_ws RX4 TX4 6
theorem nmX4 : ∀ a, a < 6 → ∀ b, b < 6 → a ≠ b → (TX4 a).2.1 ≠ (TX4 b).2.1 := by decide +kernel
theorem tyX4_ok : ∀ k, k < 6 → parseFieldDescriptor (TX4 k).2.2.1 = some (tyX4 k) := by decide +kernel
abbrev cX4_init : ByteArray := prog_6_method_1_code
def yX4_init : MethodName := ⟨RX4, "<init>", "()V"⟩
abbrev cX4_begin : ByteArray := prog_6_method_2_code
def yX4_begin : MethodName := ⟨RX4, "begin", "(LLychWeights$Parish;)V"⟩
abbrev cX4_copyFrom : ByteArray := prog_6_method_3_code
def yX4_copyFrom : MethodName := ⟨RX4, "copyFrom", "(LLychWeights$Scene;)V"⟩
abbrev cX4_isChalked : ByteArray := prog_6_method_4_code
def yX4_isChalked : MethodName := ⟨RX4, "isChalked", "(I)Z"⟩
def RX5 : String := "LychWeights$Shelf"
def TX5 : u_T := fun k => match k with
  | _ => ("LychWeights$Shelf", "scenes", "[LLychWeights$Scene;", true)
def tyX5 : Nat → FieldType := fun k => match k with
  | _ => .array (.object "LychWeights$Scene")
abbrev wsX50 : List Cond := u_ws RX5 TX5 1
theorem nmX5 : ∀ a, a < 1 → ∀ b, b < 1 → a ≠ b → (TX5 a).2.1 ≠ (TX5 b).2.1 := by decide +kernel
theorem tyX5_ok : ∀ k, k < 1 → parseFieldDescriptor (TX5 k).2.2.1 = some (tyX5 k) := by decide +kernel
abbrev cX5_init : ByteArray := prog_7_method_1_code
def yX5_init : MethodName := ⟨RX5, "<init>", "(I)V"⟩
abbrev cX5_has : ByteArray := prog_7_method_2_code
def yX5_has : MethodName := ⟨RX5, "has", "(I)Z"⟩
abbrev cX5_put : ByteArray := prog_7_method_3_code
def yX5_put : MethodName := ⟨RX5, "put", "(ILLychWeights$Scene;)V"⟩
abbrev cX5_copyTo : ByteArray := prog_7_method_4_code
def yX5_copyTo : MethodName := ⟨RX5, "copyTo", "(ILLychWeights$Scene;)V"⟩
def RX6 : String := "LychWeights"
def TX6 : u_T := fun k => match k with
  | 0 => ("LychWeights", "letters", "LLychWeights$Row;", true)
  | 1 => ("LychWeights", "letterCount", "I", false)
  | 2 => ("LychWeights", "reader", "LLychWeights$Reader;", true)
  | 3 => ("LychWeights", "parish", "LLychWeights$Parish;", false)
  | 4 => ("LychWeights", "draft", "LLychWeights$Parish;", false)
  | 5 => ("LychWeights", "scene", "LLychWeights$Scene;", true)
  | 6 => ("LychWeights", "history", "LLychWeights$History;", true)
  | 7 => ("LychWeights", "burdens", "LLychWeights$Row;", true)
  | 8 => ("LychWeights", "images", "LLychWeights$Shelf;", true)
  | 9 => ("LychWeights", "keptImages", "I", false)
  | 10 => ("LychWeights", "toldBoxes", "LLychWeights$Row;", true)
  | 11 => ("LychWeights", "toldReadings", "LLychWeights$Row;", true)
  | 12 => ("LychWeights", "toldCount", "I", false)
  | _ => ("LychWeights", "traceSum", "J", false)
def tyX6 : Nat → FieldType := fun k => match k with
  | 0 => .object "LychWeights$Row"
  | 1 => .int
  | 2 => .object "LychWeights$Reader"
  | 3 => .object "LychWeights$Parish"
  | 4 => .object "LychWeights$Parish"
  | 5 => .object "LychWeights$Scene"
  | 6 => .object "LychWeights$History"
  | 7 => .object "LychWeights$Row"
  | 8 => .object "LychWeights$Shelf"
  | 9 => .int
  | 10 => .object "LychWeights$Row"
  | 11 => .object "LychWeights$Row"
  | 12 => .int
  | _ => .long
abbrev wsX60 : List Cond := u_ws RX6 TX6 14
theorem nmX6 : ∀ a, a < 14 → ∀ b, b < 14 → a ≠ b → (TX6 a).2.1 ≠ (TX6 b).2.1 := by decide +kernel
theorem tyX6_ok : ∀ k, k < 14 → parseFieldDescriptor (TX6 k).2.2.1 = some (tyX6 k) := by decide +kernel
abbrev cX6_init : ByteArray := prog_1_method_1_code
def yX6_init : MethodName := ⟨RX6, "<init>", "()V"⟩
abbrev cX6_type : ByteArray := prog_1_method_2_code
def yX6_type : MethodName := ⟨RX6, "type", "(I)I"⟩
abbrev cX6_clear : ByteArray := prog_1_method_3_code
def yX6_clear : MethodName := ⟨RX6, "clear", "()I"⟩
abbrev cX6_gate : ByteArray := prog_1_method_4_code
def yX6_gate : MethodName := ⟨RX6, "gate", "()I"⟩
abbrev cX6_deed : ByteArray := prog_1_method_5_code
def yX6_deed : MethodName := ⟨RX6, "deed", "(II)I"⟩
abbrev cX6_dead : ByteArray := prog_1_method_6_code
def yX6_dead : MethodName := ⟨RX6, "dead", "(II)I"⟩
abbrev cX6_bearer : ByteArray := prog_1_method_7_code
def yX6_bearer : MethodName := ⟨RX6, "bearer", "(I)I"⟩
abbrev cX6_now : ByteArray := prog_1_method_8_code
def yX6_now : MethodName := ⟨RX6, "now", "(I)I"⟩
abbrev cX6_lays : ByteArray := prog_1_method_9_code
def yX6_lays : MethodName := ⟨RX6, "lays", "(I)I"⟩
abbrev cX6_thumbs : ByteArray := prog_1_method_10_code
def yX6_thumbs : MethodName := ⟨RX6, "thumbs", "(I)I"⟩
abbrev cX6_adorns : ByteArray := prog_1_method_11_code
def yX6_adorns : MethodName := ⟨RX6, "adorns", "(II)I"⟩
abbrev cX6_sins : ByteArray := prog_1_method_12_code
def yX6_sins : MethodName := ⟨RX6, "sins", "(II)I"⟩
abbrev cX6_oils : ByteArray := prog_1_method_13_code
def yX6_oils : MethodName := ⟨RX6, "oils", "(I)I"⟩
abbrev cX6_year : ByteArray := prog_1_method_14_code
def yX6_year : MethodName := ⟨RX6, "year", "()I"⟩
abbrev cX6_undo : ByteArray := prog_1_method_15_code
def yX6_undo : MethodName := ⟨RX6, "undo", "()I"⟩
abbrev cX6_order : ByteArray := prog_1_method_16_code
def yX6_order : MethodName := ⟨RX6, "order", "(I)I"⟩
abbrev cX6_tells : ByteArray := prog_1_method_17_code
def yX6_tells : MethodName := ⟨RX6, "tells", "(II)I"⟩
abbrev cX6_forget : ByteArray := prog_1_method_18_code
def yX6_forget : MethodName := ⟨RX6, "forget", "()I"⟩
abbrev cX6_can : ByteArray := prog_1_method_19_code
def yX6_can : MethodName := ⟨RX6, "can", "(I)I"⟩
abbrev cX6_ask : ByteArray := prog_1_method_20_code
def yX6_ask : MethodName := ⟨RX6, "ask", "()I"⟩
abbrev cX6_life : ByteArray := prog_1_method_21_code
def yX6_life : MethodName := ⟨RX6, "life", "(II)I"⟩
abbrev cX6_carry : ByteArray := prog_1_method_22_code
def yX6_carry : MethodName := ⟨RX6, "carry", "(II)I"⟩
abbrev cX6_odds : ByteArray := prog_1_method_23_code
def yX6_odds : MethodName := ⟨RX6, "odds", "(III)I"⟩
abbrev cX6_rate : ByteArray := prog_1_method_24_code
def yX6_rate : MethodName := ⟨RX6, "rate", "(II)I"⟩
abbrev cX6_keep : ByteArray := prog_1_method_25_code
def yX6_keep : MethodName := ⟨RX6, "keep", "(I)I"⟩
abbrev cX6_back : ByteArray := prog_1_method_26_code
def yX6_back : MethodName := ⟨RX6, "back", "(I)I"⟩
abbrev cX6_count : ByteArray := prog_1_method_27_code
def yX6_count : MethodName := ⟨RX6, "count", "(I)I"⟩
abbrev cX6_trace : ByteArray := prog_1_method_28_code
def yX6_trace : MethodName := ⟨RX6, "trace", "()J"⟩
abbrev cX6_isWithin : ByteArray := prog_1_method_29_code
def yX6_isWithin : MethodName := ⟨RX6, "isWithin", "(III)Z"⟩
abbrev cX6_bit : ByteArray := prog_1_method_30_code
def yX6_bit : MethodName := ⟨RX6, "bit", "(I)I"⟩
abbrev cX6_isIn : ByteArray := prog_1_method_31_code
def yX6_isIn : MethodName := ⟨RX6, "isIn", "(II)Z"⟩
abbrev cX6_allOf : ByteArray := prog_1_method_32_code
def yX6_allOf : MethodName := ⟨RX6, "allOf", "(I)I"⟩
abbrev cX6_power : ByteArray := prog_1_method_33_code
def yX6_power : MethodName := ⟨RX6, "power", "(II)I"⟩
abbrev cX6_commonDivisor : ByteArray := prog_1_method_34_code
def yX6_commonDivisor : MethodName := ⟨RX6, "commonDivisor", "(II)I"⟩
abbrev cX6_needleBy : ByteArray := prog_1_method_35_code
def yX6_needleBy : MethodName := ⟨RX6, "needleBy", "(II)I"⟩
abbrev cX6_burdenOf : ByteArray := prog_1_method_36_code
def yX6_burdenOf : MethodName := ⟨RX6, "burdenOf", "(I)I"⟩
abbrev cX6_loadBy : ByteArray := prog_1_method_37_code
def yX6_loadBy : MethodName := ⟨RX6, "loadBy", "(II)I"⟩
abbrev cX6_loadOf : ByteArray := prog_1_method_38_code
def yX6_loadOf : MethodName := ⟨RX6, "loadOf", "(I)I"⟩
abbrev cX6_readingOf : ByteArray := prog_1_method_39_code
def yX6_readingOf : MethodName := ⟨RX6, "readingOf", "(I)I"⟩
abbrev cX6_errorOf : ByteArray := prog_1_method_40_code
def yX6_errorOf : MethodName := ⟨RX6, "errorOf", "(I)I"⟩
abbrev cX6_whoIsChalked : ByteArray := prog_1_method_41_code
def yX6_whoIsChalked : MethodName := ⟨RX6, "whoIsChalked", "()I"⟩
abbrev cX6_whoDid : ByteArray := prog_1_method_42_code
def yX6_whoDid : MethodName := ⟨RX6, "whoDid", "(I)I"⟩
abbrev cX6_leastError : ByteArray := prog_1_method_43_code
def yX6_leastError : MethodName := ⟨RX6, "leastError", "(IIII)I"⟩
abbrev cX6_leastErrorFrom : ByteArray := prog_1_method_44_code
def yX6_leastErrorFrom : MethodName := ⟨RX6, "leastErrorFrom", "(IIIII)I"⟩
abbrev cX6_inOrder : ByteArray := prog_1_method_45_code
def yX6_inOrder : MethodName := ⟨RX6, "inOrder", "(II)I"⟩
abbrev cX6_bestNext : ByteArray := prog_1_method_46_code
def yX6_bestNext : MethodName := ⟨RX6, "bestNext", "(IIII)I"⟩
abbrev cX6_explainsAll : ByteArray := prog_1_method_47_code
def yX6_explainsAll : MethodName := ⟨RX6, "explainsAll", "(I)Z"⟩
abbrev cX6_setsWith : ByteArray := prog_1_method_48_code
def yX6_setsWith : MethodName := ⟨RX6, "setsWith", "(I)I"⟩
abbrev cX6_deedsInAllSets : ByteArray := prog_1_method_49_code
def yX6_deedsInAllSets : MethodName := ⟨RX6, "deedsInAllSets", "()I"⟩
abbrev cX6_deedsInSomeSets : ByteArray := prog_1_method_50_code
def yX6_deedsInSomeSets : MethodName := ⟨RX6, "deedsInSomeSets", "()I"⟩
abbrev cX6_wayOf : ByteArray := prog_1_method_51_code
def yX6_wayOf : MethodName := ⟨RX6, "wayOf", "(II)I"⟩
abbrev cX6_fourOf : ByteArray := prog_1_method_52_code
def yX6_fourOf : MethodName := ⟨RX6, "fourOf", "(I)I"⟩
abbrev cX6_leftOf : ByteArray := prog_1_method_53_code
def yX6_leftOf : MethodName := ⟨RX6, "leftOf", "(I)I"⟩
abbrev cX6_unevenness : ByteArray := prog_1_method_54_code
def yX6_unevenness : MethodName := ⟨RX6, "unevenness", "(I)I"⟩
abbrev cX6_isBetter : ByteArray := prog_1_method_55_code
def yX6_isBetter : MethodName := ⟨RX6, "isBetter", "(II)Z"⟩
abbrev cX6_bestWay : ByteArray := prog_1_method_56_code
def yX6_bestWay : MethodName := ⟨RX6, "bestWay", "(I)I"⟩
abbrev cX6_betterWay : ByteArray := prog_1_method_57_code
def yX6_betterWay : MethodName := ⟨RX6, "betterWay", "(II)I"⟩
abbrev cX6_partLeaning : ByteArray := prog_1_method_58_code
def yX6_partLeaning : MethodName := ⟨RX6, "partLeaning", "(II)I"⟩
abbrev cX6_rateAsDeed : ByteArray := prog_1_method_59_code
def yX6_rateAsDeed : MethodName := ⟨RX6, "rateAsDeed", "(I)I"⟩
abbrev cX6_rateAsDebt : ByteArray := prog_1_method_60_code
def yX6_rateAsDebt : MethodName := ⟨RX6, "rateAsDebt", "(I)I"⟩
abbrev cX6_rateAsLie : ByteArray := prog_1_method_61_code
def yX6_rateAsLie : MethodName := ⟨RX6, "rateAsLie", "(I)I"⟩
abbrev cX6_rateAsOath : ByteArray := prog_1_method_62_code
def yX6_rateAsOath : MethodName := ⟨RX6, "rateAsOath", "(I)I"⟩
abbrev cX6_rateAsKiss : ByteArray := prog_1_method_63_code
def yX6_rateAsKiss : MethodName := ⟨RX6, "rateAsKiss", "(I)I"⟩
abbrev cX6_rateAsTheft : ByteArray := prog_1_method_64_code
def yX6_rateAsTheft : MethodName := ⟨RX6, "rateAsTheft", "(I)I"⟩
def RX7 : String := "LychWeightsModel"
def TX7 : u_T := fun k => match k with
  | 0 => ("LychWeightsModel", "deeds", "I", false)
  | 1 => ("LychWeightsModel", "weights", "[I", true)
  | 2 => ("LychWeightsModel", "dead", "I", false)
  | 3 => ("LychWeightsModel", "boxes", "[I", true)
  | 4 => ("LychWeightsModel", "bearers", "I", false)
  | 5 => ("LychWeightsModel", "strengths", "[I", true)
  | 6 => ("LychWeightsModel", "pin", "I", false)
  | 7 => ("LychWeightsModel", "rusty", "I", false)
  | 8 => ("LychWeightsModel", "st", "[I", true)
  | 9 => ("LychWeightsModel", "was", "[I", true)
  | 10 => ("LychWeightsModel", "known", "I", false)
  | 11 => ("LychWeightsModel", "images", "[I", true)
  | 12 => ("LychWeightsModel", "isKept", "[Z", true)
  | 13 => ("LychWeightsModel", "toldMany", "I", false)
  | 14 => ("LychWeightsModel", "told", "[I", true)
  | 15 => ("LychWeightsModel", "trace", "J", false)
  | 16 => ("LychWeightsModel", "text", "[I", true)
  | 17 => ("LychWeightsModel", "texted", "I", false)
  | 18 => ("LychWeightsModel", "cursor", "I", false)
  | 19 => ("LychWeightsModel", "start", "I", false)
  | 20 => ("LychWeightsModel", "token", "I", false)
  | 21 => ("LychWeightsModel", "number", "I", false)
  | 22 => ("LychWeightsModel", "isWrong", "Z", false)
  | 23 => ("LychWeightsModel", "items", "I", false)
  | 24 => ("LychWeightsModel", "saidDeeds", "I", false)
  | 25 => ("LychWeightsModel", "saidWeight", "[I", true)
  | 26 => ("LychWeightsModel", "saidDead", "I", false)
  | 27 => ("LychWeightsModel", "saidBox", "[I", true)
  | 28 => ("LychWeightsModel", "saidFlowers", "[I", true)
  | 29 => ("LychWeightsModel", "saidDid", "[I", true)
  | 30 => ("LychWeightsModel", "saidBearers", "I", false)
  | 31 => ("LychWeightsModel", "saidStrength", "[I", true)
  | 32 => ("LychWeightsModel", "saidPin", "I", false)
  | 33 => ("LychWeightsModel", "saidRust", "I", false)
  | 34 => ("LychWeightsModel", "now", "[I", true)
  | 35 => ("LychWeightsModel", "order", "[I", true)
  | _ => ("LychWeightsModel", "best", "[I", true)
def tyX7 : Nat → FieldType := fun k => match k with
  | 0 => .int
  | 1 => .array .int
  | 2 => .int
  | 3 => .array .int
  | 4 => .int
  | 5 => .array .int
  | 6 => .int
  | 7 => .int
  | 8 => .array .int
  | 9 => .array .int
  | 10 => .int
  | 11 => .array .int
  | 12 => .array .boolean
  | 13 => .int
  | 14 => .array .int
  | 15 => .long
  | 16 => .array .int
  | 17 => .int
  | 18 => .int
  | 19 => .int
  | 20 => .int
  | 21 => .int
  | 22 => .boolean
  | 23 => .int
  | 24 => .int
  | 25 => .array .int
  | 26 => .int
  | 27 => .array .int
  | 28 => .array .int
  | 29 => .array .int
  | 30 => .int
  | 31 => .array .int
  | 32 => .int
  | 33 => .int
  | 34 => .array .int
  | 35 => .array .int
  | _ => .array .int
abbrev wsX70 : List Cond := u_ws RX7 TX7 37
theorem nmX7 : ∀ a, a < 37 → ∀ b, b < 37 → a ≠ b → (TX7 a).2.1 ≠ (TX7 b).2.1 := by decide +kernel
theorem tyX7_ok : ∀ k, k < 37 → parseFieldDescriptor (TX7 k).2.2.1 = some (tyX7 k) := by decide +kernel
abbrev cX7_init : ByteArray := prog_9_method_1_code
def yX7_init : MethodName := ⟨RX7, "<init>", "()V"⟩
abbrev cX7_in : ByteArray := prog_9_method_3_code
def yX7_in : MethodName := ⟨RX7, "in", "(III)Z"⟩
abbrev cX7_has : ByteArray := prog_9_method_4_code
def yX7_has : MethodName := ⟨RX7, "has", "(II)Z"⟩
abbrev cX7_bits : ByteArray := prog_9_method_5_code
def yX7_bits : MethodName := ⟨RX7, "bits", "(I)I"⟩
abbrev cX7_size : ByteArray := prog_9_method_6_code
def yX7_size : MethodName := ⟨RX7, "size", "(I)I"⟩
abbrev cX7_isDeed : ByteArray := prog_9_method_7_code
def yX7_isDeed : MethodName := ⟨RX7, "isDeed", "(I)Z"⟩
abbrev cX7_isDead : ByteArray := prog_9_method_8_code
def yX7_isDead : MethodName := ⟨RX7, "isDead", "(I)Z"⟩
abbrev cX7_copy : ByteArray := prog_9_method_9_code
def yX7_copy : MethodName := ⟨RX7, "copy", "([II[II)V"⟩
abbrev cX7_type : ByteArray := prog_9_method_10_code
def yX7_type : MethodName := ⟨RX7, "type", "(I)I"⟩
abbrev cX7_clear : ByteArray := prog_9_method_11_code
def yX7_clear : MethodName := ⟨RX7, "clear", "()I"⟩
abbrev cX7_letterAt : ByteArray := prog_9_method_12_code
def yX7_letterAt : MethodName := ⟨RX7, "letterAt", "(I)I"⟩
abbrev cX7_isFigure : ByteArray := prog_9_method_13_code
def yX7_isFigure : MethodName := ⟨RX7, "isFigure", "(I)Z"⟩
abbrev cX7_next : ByteArray := prog_9_method_14_code
def yX7_next : MethodName := ⟨RX7, "next", "()V"⟩
abbrev cX7_takesNumber : ByteArray := prog_9_method_15_code
def yX7_takesNumber : MethodName := ⟨RX7, "takesNumber", "(II)I"⟩
abbrev cX7_readDead : ByteArray := prog_9_method_16_code
def yX7_readDead : MethodName := ⟨RX7, "readDead", "()V"⟩
abbrev cX7_mayBegin : ByteArray := prog_9_method_17_code
def yX7_mayBegin : MethodName := ⟨RX7, "mayBegin", "(I)Z"⟩
abbrev cX7_readBody : ByteArray := prog_9_method_18_code
def yX7_readBody : MethodName := ⟨RX7, "readBody", "(I)V"⟩
abbrev cX7_readItem : ByteArray := prog_9_method_19_code
def yX7_readItem : MethodName := ⟨RX7, "readItem", "()V"⟩
abbrev cX7_gate : ByteArray := prog_9_method_20_code
def yX7_gate : MethodName := ⟨RX7, "gate", "()I"⟩
abbrev cX7_settles : ByteArray := prog_9_method_21_code
def yX7_settles : MethodName := ⟨RX7, "settles", "()V"⟩
abbrev cX7_asItIs : ByteArray := prog_9_method_22_code
def yX7_asItIs : MethodName := ⟨RX7, "asItIs", "()V"⟩
abbrev cX7_weightOf : ByteArray := prog_9_method_23_code
def yX7_weightOf : MethodName := ⟨RX7, "weightOf", "(I)I"⟩
abbrev cX7_truly : ByteArray := prog_9_method_24_code
def yX7_truly : MethodName := ⟨RX7, "truly", "(I)I"⟩
abbrev cX7_loadOf : ByteArray := prog_9_method_25_code
def yX7_loadOf : MethodName := ⟨RX7, "loadOf", "(I)I"⟩
abbrev cX7_moves : ByteArray := prog_9_method_26_code
def yX7_moves : MethodName := ⟨RX7, "moves", "(I)V"⟩
abbrev cX7_laid : ByteArray := prog_9_method_27_code
def yX7_laid : MethodName := ⟨RX7, "laid", "(I)I"⟩
abbrev cX7_readsOf : ByteArray := prog_9_method_28_code
def yX7_readsOf : MethodName := ⟨RX7, "readsOf", "(I)I"⟩
abbrev cX7_chalked : ByteArray := prog_9_method_29_code
def yX7_chalked : MethodName := ⟨RX7, "chalked", "()I"⟩
abbrev cX7_whoDid : ByteArray := prog_9_method_30_code
def yX7_whoDid : MethodName := ⟨RX7, "whoDid", "(I)I"⟩
abbrev cX7_deed : ByteArray := prog_9_method_31_code
def yX7_deed : MethodName := ⟨RX7, "deed", "(II)I"⟩
abbrev cX7_dead : ByteArray := prog_9_method_32_code
def yX7_dead : MethodName := ⟨RX7, "dead", "(II)I"⟩
abbrev cX7_bearer : ByteArray := prog_9_method_33_code
def yX7_bearer : MethodName := ⟨RX7, "bearer", "(I)I"⟩
abbrev cX7_now : ByteArray := prog_9_method_34_code
def yX7_now : MethodName := ⟨RX7, "now", "(I)I"⟩
abbrev cX7_remembers : ByteArray := prog_9_method_35_code
def yX7_remembers : MethodName := ⟨RX7, "remembers", "()V"⟩
abbrev cX7_lays : ByteArray := prog_9_method_36_code
def yX7_lays : MethodName := ⟨RX7, "lays", "(I)I"⟩
abbrev cX7_thumbs : ByteArray := prog_9_method_37_code
def yX7_thumbs : MethodName := ⟨RX7, "thumbs", "(I)I"⟩
abbrev cX7_adorns : ByteArray := prog_9_method_38_code
def yX7_adorns : MethodName := ⟨RX7, "adorns", "(II)I"⟩
abbrev cX7_sins : ByteArray := prog_9_method_39_code
def yX7_sins : MethodName := ⟨RX7, "sins", "(II)I"⟩
abbrev cX7_oils : ByteArray := prog_9_method_40_code
def yX7_oils : MethodName := ⟨RX7, "oils", "(I)I"⟩
abbrev cX7_year : ByteArray := prog_9_method_41_code
def yX7_year : MethodName := ⟨RX7, "year", "()I"⟩
abbrev cX7_undo : ByteArray := prog_9_method_42_code
def yX7_undo : MethodName := ⟨RX7, "undo", "()I"⟩
abbrev cX7_isOrder : ByteArray := prog_9_method_43_code
def yX7_isOrder : MethodName := ⟨RX7, "isOrder", "(III)Z"⟩
abbrev cX7_sixes : ByteArray := prog_9_method_44_code
def yX7_sixes : MethodName := ⟨RX7, "sixes", "(I)I"⟩
abbrev cX7_differsBy : ByteArray := prog_9_method_45_code
def yX7_differsBy : MethodName := ⟨RX7, "differsBy", "(I)I"⟩
abbrev cX7_order : ByteArray := prog_9_method_46_code
def yX7_order : MethodName := ⟨RX7, "order", "(I)I"⟩
abbrev cX7_tells : ByteArray := prog_9_method_47_code
def yX7_tells : MethodName := ⟨RX7, "tells", "(II)I"⟩
abbrev cX7_forget : ByteArray := prog_9_method_48_code
def yX7_forget : MethodName := ⟨RX7, "forget", "()I"⟩
abbrev cX7_isSo : ByteArray := prog_9_method_49_code
def yX7_isSo : MethodName := ⟨RX7, "isSo", "(I)Z"⟩
abbrev cX7_canBe : ByteArray := prog_9_method_50_code
def yX7_canBe : MethodName := ⟨RX7, "canBe", "(II)I"⟩
abbrev cX7_can : ByteArray := prog_9_method_51_code
def yX7_can : MethodName := ⟨RX7, "can", "(I)I"⟩
abbrev cX7_ask : ByteArray := prog_9_method_52_code
def yX7_ask : MethodName := ⟨RX7, "ask", "()I"⟩
abbrev cX7_life : ByteArray := prog_9_method_53_code
def yX7_life : MethodName := ⟨RX7, "life", "(II)I"⟩
abbrev cX7_strengthOf : ByteArray := prog_9_method_54_code
def yX7_strengthOf : MethodName := ⟨RX7, "strengthOf", "(I)I"⟩
abbrev cX7_carry : ByteArray := prog_9_method_55_code
def yX7_carry : MethodName := ⟨RX7, "carry", "(II)I"⟩
abbrev cX7_lowest : ByteArray := prog_9_method_56_code
def yX7_lowest : MethodName := ⟨RX7, "lowest", "(III)I"⟩
abbrev cX7_odds : ByteArray := prog_9_method_57_code
def yX7_odds : MethodName := ⟨RX7, "odds", "(III)I"⟩
abbrev cX7_rate : ByteArray := prog_9_method_58_code
def yX7_rate : MethodName := ⟨RX7, "rate", "(II)I"⟩
abbrev cX7_keep : ByteArray := prog_9_method_59_code
def yX7_keep : MethodName := ⟨RX7, "keep", "(I)I"⟩
abbrev cX7_back : ByteArray := prog_9_method_60_code
def yX7_back : MethodName := ⟨RX7, "back", "(I)I"⟩
abbrev cX7_count : ByteArray := prog_9_method_61_code
def yX7_count : MethodName := ⟨RX7, "count", "(I)I"⟩
abbrev cX7_trace : ByteArray := prog_9_method_62_code
def yX7_trace : MethodName := ⟨RX7, "trace", "()J"⟩
def RJ6 : String := "java/lang/Integer"
def TJ6 : u_T := fun k => match k with
  | _ => ("", "", "", false)
def tyJ6 : Nat → FieldType := fun k => match k with
  | _ => .int
abbrev wsJ60 : List Cond := u_ws RJ6 TJ6 0
theorem nmJ6 : ∀ a, a < 0 → ∀ b, b < 0 → a ≠ b → (TJ6 a).2.1 ≠ (TJ6 b).2.1 := by decide +kernel
theorem tyJ6_ok : ∀ k, k < 0 → parseFieldDescriptor (TJ6 k).2.2.1 = some (tyJ6 k) := by decide +kernel
abbrev cJ6_bitCount_0f7a4 : ByteArray := prog_10_method_49_code
def yJ6_bitCount_0f7a4 : MethodName := ⟨RJ6, "bitCount", "(I)I"⟩
def RJ9 : String := "java/lang/Math"
def TJ9 : u_T := fun k => match k with
  | _ => ("", "", "", false)
def tyJ9 : Nat → FieldType := fun k => match k with
  | _ => .int
abbrev wsJ90 : List Cond := u_ws RJ9 TJ9 0
theorem nmJ9 : ∀ a, a < 0 → ∀ b, b < 0 → a ≠ b → (TJ9 a).2.1 ≠ (TJ9 b).2.1 := by decide +kernel
theorem tyJ9_ok : ∀ k, k < 0 → parseFieldDescriptor (TJ9 k).2.2.1 = some (tyJ9 k) := by decide +kernel
abbrev cJ9_abs_0f7a4 : ByteArray := prog_11_method_59_code
def yJ9_abs_0f7a4 : MethodName := ⟨RJ9, "abs", "(I)I"⟩
abbrev cJ9_max_7cf53 : ByteArray := prog_11_method_65_code
def yJ9_max_7cf53 : MethodName := ⟨RJ9, "max", "(II)I"⟩
abbrev cJ9_min_7cf53 : ByteArray := prog_11_method_69_code
def yJ9_min_7cf53 : MethodName := ⟨RJ9, "min", "(II)I"⟩
def RL : String := "LychWeightsLaw"
abbrev cL_law : ByteArray := code
def yL_law : MethodName := ⟨RL, "law", "([I)Z"⟩
abbrev vwCl : List vw_C := [(RX0, TX0, 3), (RX1, TX1, 11), (RX2, TX2, 9), (RX3, TX3, 1), (RX4, TX4, 6), (RX5, TX5, 1), (RX6, TX6, 14), (RX7, TX7, 37)]
abbrev MI : Type := MethodName × ByteArray × Nat × Option FieldType
def mX0_init : MI := (yX0_init, cX0_init, 1, none)
def mX0_remember : MI := (yX0_remember, cX0_remember, 2, none)
def mX0_recall : MI := (yX0_recall, cX0_recall, 2, none)
def mX0_loseAll : MI := (yX0_loseAll, cX0_loseAll, 1, none)
def mX1_init : MI := (yX1_init, cX1_init, 1, none)
def mX1_begin : MI := (yX1_begin, cX1_begin, 1, none)
def mX1_hasDeed : MI := (yX1_hasDeed, cX1_hasDeed, 2, some .boolean)
def mX1_hasDead : MI := (yX1_hasDead, cX1_hasDead, 2, some .boolean)
def mX1_hasBearer : MI := (yX1_hasBearer, cX1_hasBearer, 2, some .boolean)
def mX1_addDeed : MI := (yX1_addDeed, cX1_addDeed, 2, none)
def mX1_addDead : MI := (yX1_addDead, cX1_addDead, 4, none)
def mX1_addBearer : MI := (yX1_addBearer, cX1_addBearer, 2, none)
def mX2_init : MI := (yX2_init, cX2_init, 2, none)
def mX2_read : MI := (yX2_read, cX2_read, 4, some .int)
def mX2_readDeed : MI := (yX2_readDeed, cX2_readDeed, 3, none)
def mX2_readDead : MI := (yX2_readDead, cX2_readDead, 5, none)
def mX2_readDone : MI := (yX2_readDone, cX2_readDone, 4, some .int)
def mX2_mayBeDone : MI := (yX2_mayBeDone, cX2_mayBeDone, 3, some .boolean)
def mX2_readBearer : MI := (yX2_readBearer, cX2_readBearer, 3, none)
def mX2_readPin : MI := (yX2_readPin, cX2_readPin, 2, none)
def mX2_readRust : MI := (yX2_readRust, cX2_readRust, 2, none)
def mX2_open : MI := (yX2_open, cX2_open, 2, none)
def mX2_number : MI := (yX2_number, cX2_number, 4, some .int)
def mX2_close : MI := (yX2_close, cX2_close, 2, none)
def mX2_step : MI := (yX2_step, cX2_step, 1, none)
def mX2_stepNumber : MI := (yX2_stepNumber, cX2_stepNumber, 3, none)
def mX2_isDigit : MI := (yX2_isDigit, cX2_isDigit, 1, some .boolean)
def mX2_isSign : MI := (yX2_isSign, cX2_isSign, 1, some .boolean)
def mX3_init : MI := (yX3_init, cX3_init, 2, none)
def mX3_at : MI := (yX3_at, cX3_at, 2, some .int)
def mX3_put : MI := (yX3_put, cX3_put, 3, none)
def mX3_sumOf : MI := (yX3_sumOf, cX3_sumOf, 4, some .int)
def mX3_fill : MI := (yX3_fill, cX3_fill, 3, none)
def mX3_copyFrom : MI := (yX3_copyFrom, cX3_copyFrom, 3, none)
def mX4_init : MI := (yX4_init, cX4_init, 1, none)
def mX4_begin : MI := (yX4_begin, cX4_begin, 2, none)
def mX4_copyFrom : MI := (yX4_copyFrom, cX4_copyFrom, 2, none)
def mX4_isChalked : MI := (yX4_isChalked, cX4_isChalked, 2, some .boolean)
def mX5_init : MI := (yX5_init, cX5_init, 3, none)
def mX5_has : MI := (yX5_has, cX5_has, 2, some .boolean)
def mX5_put : MI := (yX5_put, cX5_put, 3, none)
def mX5_copyTo : MI := (yX5_copyTo, cX5_copyTo, 3, none)
def mX6_init : MI := (yX6_init, cX6_init, 1, none)
def mX6_type : MI := (yX6_type, cX6_type, 2, some .int)
def mX6_clear : MI := (yX6_clear, cX6_clear, 2, some .int)
def mX6_gate : MI := (yX6_gate, cX6_gate, 3, some .int)
def mX6_deed : MI := (yX6_deed, cX6_deed, 3, some .int)
def mX6_dead : MI := (yX6_dead, cX6_dead, 3, some .int)
def mX6_bearer : MI := (yX6_bearer, cX6_bearer, 2, some .int)
def mX6_now : MI := (yX6_now, cX6_now, 2, some .int)
def mX6_lays : MI := (yX6_lays, cX6_lays, 3, some .int)
def mX6_thumbs : MI := (yX6_thumbs, cX6_thumbs, 3, some .int)
def mX6_adorns : MI := (yX6_adorns, cX6_adorns, 4, some .int)
def mX6_sins : MI := (yX6_sins, cX6_sins, 4, some .int)
def mX6_oils : MI := (yX6_oils, cX6_oils, 3, some .int)
def mX6_year : MI := (yX6_year, cX6_year, 1, some .int)
def mX6_undo : MI := (yX6_undo, cX6_undo, 1, some .int)
def mX6_order : MI := (yX6_order, cX6_order, 3, some .int)
def mX6_tells : MI := (yX6_tells, cX6_tells, 3, some .int)
def mX6_forget : MI := (yX6_forget, cX6_forget, 2, some .int)
def mX6_can : MI := (yX6_can, cX6_can, 2, some .int)
def mX6_ask : MI := (yX6_ask, cX6_ask, 7, some .int)
def mX6_life : MI := (yX6_life, cX6_life, 8, some .int)
def mX6_carry : MI := (yX6_carry, cX6_carry, 4, some .int)
def mX6_odds : MI := (yX6_odds, cX6_odds, 7, some .int)
def mX6_rate : MI := (yX6_rate, cX6_rate, 3, some .int)
def mX6_keep : MI := (yX6_keep, cX6_keep, 2, some .int)
def mX6_back : MI := (yX6_back, cX6_back, 2, some .int)
def mX6_count : MI := (yX6_count, cX6_count, 2, some .int)
def mX6_trace : MI := (yX6_trace, cX6_trace, 1, some .long)
def mX6_isWithin : MI := (yX6_isWithin, cX6_isWithin, 3, some .boolean)
def mX6_bit : MI := (yX6_bit, cX6_bit, 1, some .int)
def mX6_isIn : MI := (yX6_isIn, cX6_isIn, 2, some .boolean)
def mX6_allOf : MI := (yX6_allOf, cX6_allOf, 1, some .int)
def mX6_power : MI := (yX6_power, cX6_power, 4, some .int)
def mX6_commonDivisor : MI := (yX6_commonDivisor, cX6_commonDivisor, 6, some .int)
def mX6_needleBy : MI := (yX6_needleBy, cX6_needleBy, 4, some .int)
def mX6_burdenOf : MI := (yX6_burdenOf, cX6_burdenOf, 2, some .int)
def mX6_loadBy : MI := (yX6_loadBy, cX6_loadBy, 2, some .int)
def mX6_loadOf : MI := (yX6_loadOf, cX6_loadOf, 2, some .int)
def mX6_readingOf : MI := (yX6_readingOf, cX6_readingOf, 2, some .int)
def mX6_errorOf : MI := (yX6_errorOf, cX6_errorOf, 2, some .int)
def mX6_whoIsChalked : MI := (yX6_whoIsChalked, cX6_whoIsChalked, 3, some .int)
def mX6_whoDid : MI := (yX6_whoDid, cX6_whoDid, 4, some .int)
def mX6_leastError : MI := (yX6_leastError, cX6_leastError, 7, some .int)
def mX6_leastErrorFrom : MI := (yX6_leastErrorFrom, cX6_leastErrorFrom, 9, some .int)
def mX6_inOrder : MI := (yX6_inOrder, cX6_inOrder, 8, some .int)
def mX6_bestNext : MI := (yX6_bestNext, cX6_bestNext, 9, some .int)
def mX6_explainsAll : MI := (yX6_explainsAll, cX6_explainsAll, 4, some .boolean)
def mX6_setsWith : MI := (yX6_setsWith, cX6_setsWith, 4, some .int)
def mX6_deedsInAllSets : MI := (yX6_deedsInAllSets, cX6_deedsInAllSets, 4, some .int)
def mX6_deedsInSomeSets : MI := (yX6_deedsInSomeSets, cX6_deedsInSomeSets, 3, some .int)
def mX6_wayOf : MI := (yX6_wayOf, cX6_wayOf, 2, some .int)
def mX6_fourOf : MI := (yX6_fourOf, cX6_fourOf, 1, some .int)
def mX6_leftOf : MI := (yX6_leftOf, cX6_leftOf, 1, some .int)
def mX6_unevenness : MI := (yX6_unevenness, cX6_unevenness, 4, some .int)
def mX6_isBetter : MI := (yX6_isBetter, cX6_isBetter, 5, some .boolean)
def mX6_bestWay : MI := (yX6_bestWay, cX6_bestWay, 4, some .int)
def mX6_betterWay : MI := (yX6_betterWay, cX6_betterWay, 6, some .int)
def mX6_partLeaning : MI := (yX6_partLeaning, cX6_partLeaning, 6, some .int)
def mX6_rateAsDeed : MI := (yX6_rateAsDeed, cX6_rateAsDeed, 2, some .int)
def mX6_rateAsDebt : MI := (yX6_rateAsDebt, cX6_rateAsDebt, 2, some .int)
def mX6_rateAsLie : MI := (yX6_rateAsLie, cX6_rateAsLie, 2, some .int)
def mX6_rateAsOath : MI := (yX6_rateAsOath, cX6_rateAsOath, 2, some .int)
def mX6_rateAsKiss : MI := (yX6_rateAsKiss, cX6_rateAsKiss, 2, some .int)
def mX6_rateAsTheft : MI := (yX6_rateAsTheft, cX6_rateAsTheft, 2, some .int)
def mX7_init : MI := (yX7_init, cX7_init, 1, none)
def mX7_in : MI := (yX7_in, cX7_in, 3, some .boolean)
def mX7_has : MI := (yX7_has, cX7_has, 2, some .boolean)
def mX7_bits : MI := (yX7_bits, cX7_bits, 3, some .int)
def mX7_size : MI := (yX7_size, cX7_size, 1, some .int)
def mX7_isDeed : MI := (yX7_isDeed, cX7_isDeed, 2, some .boolean)
def mX7_isDead : MI := (yX7_isDead, cX7_isDead, 2, some .boolean)
def mX7_copy : MI := (yX7_copy, cX7_copy, 5, none)
def mX7_type : MI := (yX7_type, cX7_type, 2, some .int)
def mX7_clear : MI := (yX7_clear, cX7_clear, 2, some .int)
def mX7_letterAt : MI := (yX7_letterAt, cX7_letterAt, 2, some .int)
def mX7_isFigure : MI := (yX7_isFigure, cX7_isFigure, 1, some .boolean)
def mX7_next : MI := (yX7_next, cX7_next, 2, none)
def mX7_takesNumber : MI := (yX7_takesNumber, cX7_takesNumber, 5, some .int)
def mX7_readDead : MI := (yX7_readDead, cX7_readDead, 3, none)
def mX7_mayBegin : MI := (yX7_mayBegin, cX7_mayBegin, 2, some .boolean)
def mX7_readBody : MI := (yX7_readBody, cX7_readBody, 2, none)
def mX7_readItem : MI := (yX7_readItem, cX7_readItem, 2, none)
def mX7_gate : MI := (yX7_gate, cX7_gate, 1, some .int)
def mX7_settles : MI := (yX7_settles, cX7_settles, 2, none)
def mX7_asItIs : MI := (yX7_asItIs, cX7_asItIs, 1, none)
def mX7_weightOf : MI := (yX7_weightOf, cX7_weightOf, 4, some .int)
def mX7_truly : MI := (yX7_truly, cX7_truly, 2, some .int)
def mX7_loadOf : MI := (yX7_loadOf, cX7_loadOf, 3, some .int)
def mX7_moves : MI := (yX7_moves, cX7_moves, 5, none)
def mX7_laid : MI := (yX7_laid, cX7_laid, 3, some .int)
def mX7_readsOf : MI := (yX7_readsOf, cX7_readsOf, 2, some .int)
def mX7_chalked : MI := (yX7_chalked, cX7_chalked, 3, some .int)
def mX7_whoDid : MI := (yX7_whoDid, cX7_whoDid, 4, some .int)
def mX7_deed : MI := (yX7_deed, cX7_deed, 3, some .int)
def mX7_dead : MI := (yX7_dead, cX7_dead, 3, some .int)
def mX7_bearer : MI := (yX7_bearer, cX7_bearer, 2, some .int)
def mX7_now : MI := (yX7_now, cX7_now, 2, some .int)
def mX7_remembers : MI := (yX7_remembers, cX7_remembers, 2, none)
def mX7_lays : MI := (yX7_lays, cX7_lays, 3, some .int)
def mX7_thumbs : MI := (yX7_thumbs, cX7_thumbs, 3, some .int)
def mX7_adorns : MI := (yX7_adorns, cX7_adorns, 4, some .int)
def mX7_sins : MI := (yX7_sins, cX7_sins, 3, some .int)
def mX7_oils : MI := (yX7_oils, cX7_oils, 3, some .int)
def mX7_year : MI := (yX7_year, cX7_year, 1, some .int)
def mX7_undo : MI := (yX7_undo, cX7_undo, 1, some .int)
def mX7_isOrder : MI := (yX7_isOrder, cX7_isOrder, 8, some .boolean)
def mX7_sixes : MI := (yX7_sixes, cX7_sixes, 3, some .int)
def mX7_differsBy : MI := (yX7_differsBy, cX7_differsBy, 5, some .int)
def mX7_order : MI := (yX7_order, cX7_order, 8, some .int)
def mX7_tells : MI := (yX7_tells, cX7_tells, 3, some .int)
def mX7_forget : MI := (yX7_forget, cX7_forget, 2, some .int)
def mX7_isSo : MI := (yX7_isSo, cX7_isSo, 5, some .boolean)
def mX7_canBe : MI := (yX7_canBe, cX7_canBe, 5, some .int)
def mX7_can : MI := (yX7_can, cX7_can, 7, some .int)
def mX7_ask : MI := (yX7_ask, cX7_ask, 8, some .int)
def mX7_life : MI := (yX7_life, cX7_life, 6, some .int)
def mX7_strengthOf : MI := (yX7_strengthOf, cX7_strengthOf, 4, some .int)
def mX7_carry : MI := (yX7_carry, cX7_carry, 11, some .int)
def mX7_lowest : MI := (yX7_lowest, cX7_lowest, 6, some .int)
def mX7_odds : MI := (yX7_odds, cX7_odds, 9, some .int)
def mX7_rate : MI := (yX7_rate, cX7_rate, 6, some .int)
def mX7_keep : MI := (yX7_keep, cX7_keep, 2, some .int)
def mX7_back : MI := (yX7_back, cX7_back, 2, some .int)
def mX7_count : MI := (yX7_count, cX7_count, 2, some .int)
def mX7_trace : MI := (yX7_trace, cX7_trace, 1, some .long)
def mJ6_bitCount_0f7a4 : MI := (yJ6_bitCount_0f7a4, cJ6_bitCount_0f7a4, 1, some .int)
def mJ9_abs_0f7a4 : MI := (yJ9_abs_0f7a4, cJ9_abs_0f7a4, 1, some .int)
def mJ9_max_7cf53 : MI := (yJ9_max_7cf53, cJ9_max_7cf53, 2, some .int)
def mJ9_min_7cf53 : MI := (yJ9_min_7cf53, cJ9_min_7cf53, 2, some .int)
def mL_law : MI := (yL_law, cL_law, 4, some .boolean)
end
section
theorem dX0_init_0 : decode mX0_init.2.1 0 = .ok (.aload_n 0, 1) := by decide +kernel
theorem dX0_init_1 : decode mX0_init.2.1 1 = .ok (.invokespecial 3, 3) := by decide +kernel
theorem dX0_init_4 : decode mX0_init.2.1 4 = .ok (.aload_n 0, 1) := by decide +kernel
theorem dX0_init_5 : decode mX0_init.2.1 5 = .ok (.new 9, 3) := by decide +kernel
theorem dX0_init_8 : decode mX0_init.2.1 8 = .ok (.dup, 1) := by decide +kernel
theorem dX0_init_9 : decode mX0_init.2.1 9 = .ok (.bipush 10, 2) := by decide +kernel
theorem dX0_init_11 : decode mX0_init.2.1 11 = .ok (.invokespecial 11, 3) := by decide +kernel
theorem dX0_init_14 : decode mX0_init.2.1 14 = .ok (.putfield 14, 3) := by decide +kernel
theorem dX0_init_17 : decode mX0_init.2.1 17 = .ok (.return_, 1) := by decide +kernel
theorem dX0_remember_0 : decode mX0_remember.2.1 0 = .ok (.aload_n 0, 1) := by decide +kernel
theorem dX0_remember_1 : decode mX0_remember.2.1 1 = .ok (.getfield 14, 3) := by decide +kernel
theorem dX0_remember_4 : decode mX0_remember.2.1 4 = .ok (.aload_n 0, 1) := by decide +kernel
theorem dX0_remember_5 : decode mX0_remember.2.1 5 = .ok (.getfield 20, 3) := by decide +kernel
theorem dX0_remember_8 : decode mX0_remember.2.1 8 = .ok (.aload_n 1, 1) := by decide +kernel
theorem dX0_remember_9 : decode mX0_remember.2.1 9 = .ok (.invokevirtual 24, 3) := by decide +kernel
theorem dX0_remember_12 : decode mX0_remember.2.1 12 = .ok (.aload_n 0, 1) := by decide +kernel
theorem dX0_remember_13 : decode mX0_remember.2.1 13 = .ok (.aload_n 0, 1) := by decide +kernel
theorem dX0_remember_14 : decode mX0_remember.2.1 14 = .ok (.getfield 20, 3) := by decide +kernel
theorem dX0_remember_17 : decode mX0_remember.2.1 17 = .ok (.iconst 1, 1) := by decide +kernel
theorem dX0_remember_18 : decode mX0_remember.2.1 18 = .ok (.iadd, 1) := by decide +kernel
theorem dX0_remember_19 : decode mX0_remember.2.1 19 = .ok (.bipush 10, 2) := by decide +kernel
theorem dX0_remember_21 : decode mX0_remember.2.1 21 = .ok (.if_icmp .ge 12, 3) := by decide +kernel
theorem dX0_remember_24 : decode mX0_remember.2.1 24 = .ok (.aload_n 0, 1) := by decide +kernel
theorem dX0_remember_25 : decode mX0_remember.2.1 25 = .ok (.getfield 20, 3) := by decide +kernel
theorem dX0_remember_28 : decode mX0_remember.2.1 28 = .ok (.iconst 1, 1) := by decide +kernel
theorem dX0_remember_29 : decode mX0_remember.2.1 29 = .ok (.iadd, 1) := by decide +kernel
theorem dX0_remember_30 : decode mX0_remember.2.1 30 = .ok (.goto 4, 3) := by decide +kernel
theorem dX0_remember_33 : decode mX0_remember.2.1 33 = .ok (.iconst 0, 1) := by decide +kernel
theorem dX0_remember_34 : decode mX0_remember.2.1 34 = .ok (.putfield 20, 3) := by decide +kernel
theorem dX0_remember_37 : decode mX0_remember.2.1 37 = .ok (.aload_n 0, 1) := by decide +kernel
theorem dX0_remember_38 : decode mX0_remember.2.1 38 = .ok (.aload_n 0, 1) := by decide +kernel
theorem dX0_remember_39 : decode mX0_remember.2.1 39 = .ok (.getfield 28, 3) := by decide +kernel
theorem dX0_remember_42 : decode mX0_remember.2.1 42 = .ok (.iconst 1, 1) := by decide +kernel
theorem dX0_remember_43 : decode mX0_remember.2.1 43 = .ok (.iadd, 1) := by decide +kernel
theorem dX0_remember_44 : decode mX0_remember.2.1 44 = .ok (.bipush 10, 2) := by decide +kernel
theorem dX0_remember_46 : decode mX0_remember.2.1 46 = .ok (.invokestatic 31, 3) := by decide +kernel
theorem dX0_remember_49 : decode mX0_remember.2.1 49 = .ok (.putfield 28, 3) := by decide +kernel
theorem dX0_remember_52 : decode mX0_remember.2.1 52 = .ok (.return_, 1) := by decide +kernel
theorem dX0_recall_0 : decode mX0_recall.2.1 0 = .ok (.aload_n 0, 1) := by decide +kernel
theorem dX0_recall_1 : decode mX0_recall.2.1 1 = .ok (.getfield 28, 3) := by decide +kernel
theorem dX0_recall_4 : decode mX0_recall.2.1 4 = .ok (.ifCond .le 47, 3) := by decide +kernel
theorem dX0_recall_7 : decode mX0_recall.2.1 7 = .ok (.aload_n 0, 1) := by decide +kernel
theorem dX0_recall_8 : decode mX0_recall.2.1 8 = .ok (.aload_n 0, 1) := by decide +kernel
theorem dX0_recall_9 : decode mX0_recall.2.1 9 = .ok (.getfield 20, 3) := by decide +kernel
theorem dX0_recall_12 : decode mX0_recall.2.1 12 = .ok (.ifCond .le 12, 3) := by decide +kernel
theorem dX0_recall_15 : decode mX0_recall.2.1 15 = .ok (.aload_n 0, 1) := by decide +kernel
theorem dX0_recall_16 : decode mX0_recall.2.1 16 = .ok (.getfield 20, 3) := by decide +kernel
theorem dX0_recall_19 : decode mX0_recall.2.1 19 = .ok (.iconst 1, 1) := by decide +kernel
theorem dX0_recall_20 : decode mX0_recall.2.1 20 = .ok (.isub, 1) := by decide +kernel
theorem dX0_recall_21 : decode mX0_recall.2.1 21 = .ok (.goto 5, 3) := by decide +kernel
theorem dX0_recall_24 : decode mX0_recall.2.1 24 = .ok (.bipush 9, 2) := by decide +kernel
theorem dX0_recall_26 : decode mX0_recall.2.1 26 = .ok (.putfield 20, 3) := by decide +kernel
theorem dX0_recall_29 : decode mX0_recall.2.1 29 = .ok (.aload_n 0, 1) := by decide +kernel
theorem dX0_recall_30 : decode mX0_recall.2.1 30 = .ok (.getfield 14, 3) := by decide +kernel
theorem dX0_recall_33 : decode mX0_recall.2.1 33 = .ok (.aload_n 0, 1) := by decide +kernel
theorem dX0_recall_34 : decode mX0_recall.2.1 34 = .ok (.getfield 20, 3) := by decide +kernel
theorem dX0_recall_37 : decode mX0_recall.2.1 37 = .ok (.aload_n 1, 1) := by decide +kernel
theorem dX0_recall_38 : decode mX0_recall.2.1 38 = .ok (.invokevirtual 37, 3) := by decide +kernel
theorem dX0_recall_41 : decode mX0_recall.2.1 41 = .ok (.aload_n 0, 1) := by decide +kernel
theorem dX0_recall_42 : decode mX0_recall.2.1 42 = .ok (.dup, 1) := by decide +kernel
theorem dX0_recall_43 : decode mX0_recall.2.1 43 = .ok (.getfield 28, 3) := by decide +kernel
theorem dX0_recall_46 : decode mX0_recall.2.1 46 = .ok (.iconst 1, 1) := by decide +kernel
theorem dX0_recall_47 : decode mX0_recall.2.1 47 = .ok (.isub, 1) := by decide +kernel
theorem dX0_recall_48 : decode mX0_recall.2.1 48 = .ok (.putfield 28, 3) := by decide +kernel
theorem dX0_recall_51 : decode mX0_recall.2.1 51 = .ok (.return_, 1) := by decide +kernel
theorem dX0_loseAll_0 : decode mX0_loseAll.2.1 0 = .ok (.aload_n 0, 1) := by decide +kernel
theorem dX0_loseAll_1 : decode mX0_loseAll.2.1 1 = .ok (.iconst 0, 1) := by decide +kernel
theorem dX0_loseAll_2 : decode mX0_loseAll.2.1 2 = .ok (.putfield 28, 3) := by decide +kernel
theorem dX0_loseAll_5 : decode mX0_loseAll.2.1 5 = .ok (.return_, 1) := by decide +kernel
theorem dX1_init_0 : decode mX1_init.2.1 0 = .ok (.aload_n 0, 1) := by decide +kernel
theorem dX1_init_1 : decode mX1_init.2.1 1 = .ok (.invokespecial 3, 3) := by decide +kernel
theorem dX1_init_4 : decode mX1_init.2.1 4 = .ok (.aload_n 0, 1) := by decide +kernel
theorem dX1_init_5 : decode mX1_init.2.1 5 = .ok (.new 9, 3) := by decide +kernel
theorem dX1_init_8 : decode mX1_init.2.1 8 = .ok (.dup, 1) := by decide +kernel
theorem dX1_init_9 : decode mX1_init.2.1 9 = .ok (.bipush 6, 2) := by decide +kernel
theorem dX1_init_11 : decode mX1_init.2.1 11 = .ok (.invokespecial 11, 3) := by decide +kernel
theorem dX1_init_14 : decode mX1_init.2.1 14 = .ok (.putfield 14, 3) := by decide +kernel
theorem dX1_init_17 : decode mX1_init.2.1 17 = .ok (.aload_n 0, 1) := by decide +kernel
theorem dX1_init_18 : decode mX1_init.2.1 18 = .ok (.new 9, 3) := by decide +kernel
theorem dX1_init_21 : decode mX1_init.2.1 21 = .ok (.dup, 1) := by decide +kernel
theorem dX1_init_22 : decode mX1_init.2.1 22 = .ok (.bipush 6, 2) := by decide +kernel
theorem dX1_init_24 : decode mX1_init.2.1 24 = .ok (.invokespecial 11, 3) := by decide +kernel
theorem dX1_init_27 : decode mX1_init.2.1 27 = .ok (.putfield 20, 3) := by decide +kernel
theorem dX1_init_30 : decode mX1_init.2.1 30 = .ok (.aload_n 0, 1) := by decide +kernel
theorem dX1_init_31 : decode mX1_init.2.1 31 = .ok (.new 9, 3) := by decide +kernel
theorem dX1_init_34 : decode mX1_init.2.1 34 = .ok (.dup, 1) := by decide +kernel
theorem dX1_init_35 : decode mX1_init.2.1 35 = .ok (.bipush 6, 2) := by decide +kernel
theorem dX1_init_37 : decode mX1_init.2.1 37 = .ok (.invokespecial 11, 3) := by decide +kernel
theorem dX1_init_40 : decode mX1_init.2.1 40 = .ok (.putfield 23, 3) := by decide +kernel
theorem dX1_init_43 : decode mX1_init.2.1 43 = .ok (.aload_n 0, 1) := by decide +kernel
theorem dX1_init_44 : decode mX1_init.2.1 44 = .ok (.new 9, 3) := by decide +kernel
theorem dX1_init_47 : decode mX1_init.2.1 47 = .ok (.dup, 1) := by decide +kernel
theorem dX1_init_48 : decode mX1_init.2.1 48 = .ok (.bipush 6, 2) := by decide +kernel
theorem dX1_init_50 : decode mX1_init.2.1 50 = .ok (.invokespecial 11, 3) := by decide +kernel
theorem dX1_init_53 : decode mX1_init.2.1 53 = .ok (.putfield 26, 3) := by decide +kernel
theorem dX1_init_56 : decode mX1_init.2.1 56 = .ok (.aload_n 0, 1) := by decide +kernel
theorem dX1_init_57 : decode mX1_init.2.1 57 = .ok (.new 9, 3) := by decide +kernel
theorem dX1_init_60 : decode mX1_init.2.1 60 = .ok (.dup, 1) := by decide +kernel
theorem dX1_init_61 : decode mX1_init.2.1 61 = .ok (.bipush 6, 2) := by decide +kernel
theorem dX1_init_63 : decode mX1_init.2.1 63 = .ok (.invokespecial 11, 3) := by decide +kernel
theorem dX1_init_66 : decode mX1_init.2.1 66 = .ok (.putfield 29, 3) := by decide +kernel
theorem dX1_init_69 : decode mX1_init.2.1 69 = .ok (.aload_n 0, 1) := by decide +kernel
theorem dX1_init_70 : decode mX1_init.2.1 70 = .ok (.invokevirtual 32, 3) := by decide +kernel
theorem dX1_init_73 : decode mX1_init.2.1 73 = .ok (.return_, 1) := by decide +kernel
theorem dX1_begin_0 : decode mX1_begin.2.1 0 = .ok (.aload_n 0, 1) := by decide +kernel
theorem dX1_begin_1 : decode mX1_begin.2.1 1 = .ok (.iconst 0, 1) := by decide +kernel
theorem dX1_begin_2 : decode mX1_begin.2.1 2 = .ok (.putfield 35, 3) := by decide +kernel
theorem dX1_begin_5 : decode mX1_begin.2.1 5 = .ok (.aload_n 0, 1) := by decide +kernel
theorem dX1_begin_6 : decode mX1_begin.2.1 6 = .ok (.iconst 0, 1) := by decide +kernel
theorem dX1_begin_7 : decode mX1_begin.2.1 7 = .ok (.putfield 39, 3) := by decide +kernel
theorem dX1_begin_10 : decode mX1_begin.2.1 10 = .ok (.aload_n 0, 1) := by decide +kernel
theorem dX1_begin_11 : decode mX1_begin.2.1 11 = .ok (.iconst 0, 1) := by decide +kernel
theorem dX1_begin_12 : decode mX1_begin.2.1 12 = .ok (.putfield 42, 3) := by decide +kernel
theorem dX1_begin_15 : decode mX1_begin.2.1 15 = .ok (.aload_n 0, 1) := by decide +kernel
theorem dX1_begin_16 : decode mX1_begin.2.1 16 = .ok (.iconst 0, 1) := by decide +kernel
theorem dX1_begin_17 : decode mX1_begin.2.1 17 = .ok (.putfield 45, 3) := by decide +kernel
theorem dX1_begin_20 : decode mX1_begin.2.1 20 = .ok (.aload_n 0, 1) := by decide +kernel
theorem dX1_begin_21 : decode mX1_begin.2.1 21 = .ok (.bipush 80, 2) := by decide +kernel
theorem dX1_begin_23 : decode mX1_begin.2.1 23 = .ok (.putfield 48, 3) := by decide +kernel
theorem dX1_begin_26 : decode mX1_begin.2.1 26 = .ok (.aload_n 0, 1) := by decide +kernel
theorem dX1_begin_27 : decode mX1_begin.2.1 27 = .ok (.iconst 2, 1) := by decide +kernel
theorem dX1_begin_28 : decode mX1_begin.2.1 28 = .ok (.putfield 51, 3) := by decide +kernel
theorem dX1_begin_31 : decode mX1_begin.2.1 31 = .ok (.return_, 1) := by decide +kernel
theorem dX1_hasDeed_0 : decode mX1_hasDeed.2.1 0 = .ok (.iload_n 1, 1) := by decide +kernel
theorem dX1_hasDeed_1 : decode mX1_hasDeed.2.1 1 = .ok (.ifCond .lt 15, 3) := by decide +kernel
theorem dX1_hasDeed_4 : decode mX1_hasDeed.2.1 4 = .ok (.iload_n 1, 1) := by decide +kernel
theorem dX1_hasDeed_5 : decode mX1_hasDeed.2.1 5 = .ok (.aload_n 0, 1) := by decide +kernel
theorem dX1_hasDeed_6 : decode mX1_hasDeed.2.1 6 = .ok (.getfield 39, 3) := by decide +kernel
theorem dX1_hasDeed_9 : decode mX1_hasDeed.2.1 9 = .ok (.if_icmp .ge 7, 3) := by decide +kernel
theorem dX1_hasDeed_12 : decode mX1_hasDeed.2.1 12 = .ok (.iconst 1, 1) := by decide +kernel
theorem dX1_hasDeed_13 : decode mX1_hasDeed.2.1 13 = .ok (.goto 4, 3) := by decide +kernel
theorem dX1_hasDeed_16 : decode mX1_hasDeed.2.1 16 = .ok (.iconst 0, 1) := by decide +kernel
theorem dX1_hasDeed_17 : decode mX1_hasDeed.2.1 17 = .ok (.ireturn, 1) := by decide +kernel
theorem dX1_hasDead_0 : decode mX1_hasDead.2.1 0 = .ok (.iload_n 1, 1) := by decide +kernel
theorem dX1_hasDead_1 : decode mX1_hasDead.2.1 1 = .ok (.ifCond .lt 15, 3) := by decide +kernel
theorem dX1_hasDead_4 : decode mX1_hasDead.2.1 4 = .ok (.iload_n 1, 1) := by decide +kernel
theorem dX1_hasDead_5 : decode mX1_hasDead.2.1 5 = .ok (.aload_n 0, 1) := by decide +kernel
theorem dX1_hasDead_6 : decode mX1_hasDead.2.1 6 = .ok (.getfield 42, 3) := by decide +kernel
theorem dX1_hasDead_9 : decode mX1_hasDead.2.1 9 = .ok (.if_icmp .ge 7, 3) := by decide +kernel
theorem dX1_hasDead_12 : decode mX1_hasDead.2.1 12 = .ok (.iconst 1, 1) := by decide +kernel
theorem dX1_hasDead_13 : decode mX1_hasDead.2.1 13 = .ok (.goto 4, 3) := by decide +kernel
theorem dX1_hasDead_16 : decode mX1_hasDead.2.1 16 = .ok (.iconst 0, 1) := by decide +kernel
theorem dX1_hasDead_17 : decode mX1_hasDead.2.1 17 = .ok (.ireturn, 1) := by decide +kernel
theorem dX1_hasBearer_0 : decode mX1_hasBearer.2.1 0 = .ok (.iload_n 1, 1) := by decide +kernel
theorem dX1_hasBearer_1 : decode mX1_hasBearer.2.1 1 = .ok (.ifCond .lt 15, 3) := by decide +kernel
theorem dX1_hasBearer_4 : decode mX1_hasBearer.2.1 4 = .ok (.iload_n 1, 1) := by decide +kernel
theorem dX1_hasBearer_5 : decode mX1_hasBearer.2.1 5 = .ok (.aload_n 0, 1) := by decide +kernel
theorem dX1_hasBearer_6 : decode mX1_hasBearer.2.1 6 = .ok (.getfield 45, 3) := by decide +kernel
theorem dX1_hasBearer_9 : decode mX1_hasBearer.2.1 9 = .ok (.if_icmp .ge 7, 3) := by decide +kernel
theorem dX1_hasBearer_12 : decode mX1_hasBearer.2.1 12 = .ok (.iconst 1, 1) := by decide +kernel
theorem dX1_hasBearer_13 : decode mX1_hasBearer.2.1 13 = .ok (.goto 4, 3) := by decide +kernel
theorem dX1_hasBearer_16 : decode mX1_hasBearer.2.1 16 = .ok (.iconst 0, 1) := by decide +kernel
theorem dX1_hasBearer_17 : decode mX1_hasBearer.2.1 17 = .ok (.ireturn, 1) := by decide +kernel
theorem dX1_addDeed_0 : decode mX1_addDeed.2.1 0 = .ok (.aload_n 0, 1) := by decide +kernel
theorem dX1_addDeed_1 : decode mX1_addDeed.2.1 1 = .ok (.getfield 14, 3) := by decide +kernel
theorem dX1_addDeed_4 : decode mX1_addDeed.2.1 4 = .ok (.aload_n 0, 1) := by decide +kernel
theorem dX1_addDeed_5 : decode mX1_addDeed.2.1 5 = .ok (.getfield 39, 3) := by decide +kernel
theorem dX1_addDeed_8 : decode mX1_addDeed.2.1 8 = .ok (.iload_n 1, 1) := by decide +kernel
theorem dX1_addDeed_9 : decode mX1_addDeed.2.1 9 = .ok (.invokevirtual 54, 3) := by decide +kernel
theorem dX1_addDeed_12 : decode mX1_addDeed.2.1 12 = .ok (.aload_n 0, 1) := by decide +kernel
theorem dX1_addDeed_13 : decode mX1_addDeed.2.1 13 = .ok (.dup, 1) := by decide +kernel
theorem dX1_addDeed_14 : decode mX1_addDeed.2.1 14 = .ok (.getfield 39, 3) := by decide +kernel
theorem dX1_addDeed_17 : decode mX1_addDeed.2.1 17 = .ok (.iconst 1, 1) := by decide +kernel
theorem dX1_addDeed_18 : decode mX1_addDeed.2.1 18 = .ok (.iadd, 1) := by decide +kernel
theorem dX1_addDeed_19 : decode mX1_addDeed.2.1 19 = .ok (.putfield 39, 3) := by decide +kernel
theorem dX1_addDeed_22 : decode mX1_addDeed.2.1 22 = .ok (.return_, 1) := by decide +kernel
theorem dX1_addDead_0 : decode mX1_addDead.2.1 0 = .ok (.aload_n 0, 1) := by decide +kernel
theorem dX1_addDead_1 : decode mX1_addDead.2.1 1 = .ok (.getfield 20, 3) := by decide +kernel
theorem dX1_addDead_4 : decode mX1_addDead.2.1 4 = .ok (.aload_n 0, 1) := by decide +kernel
theorem dX1_addDead_5 : decode mX1_addDead.2.1 5 = .ok (.getfield 42, 3) := by decide +kernel
theorem dX1_addDead_8 : decode mX1_addDead.2.1 8 = .ok (.iload_n 1, 1) := by decide +kernel
theorem dX1_addDead_9 : decode mX1_addDead.2.1 9 = .ok (.invokevirtual 54, 3) := by decide +kernel
theorem dX1_addDead_12 : decode mX1_addDead.2.1 12 = .ok (.aload_n 0, 1) := by decide +kernel
theorem dX1_addDead_13 : decode mX1_addDead.2.1 13 = .ok (.getfield 23, 3) := by decide +kernel
theorem dX1_addDead_16 : decode mX1_addDead.2.1 16 = .ok (.aload_n 0, 1) := by decide +kernel
theorem dX1_addDead_17 : decode mX1_addDead.2.1 17 = .ok (.getfield 42, 3) := by decide +kernel
theorem dX1_addDead_20 : decode mX1_addDead.2.1 20 = .ok (.iload_n 2, 1) := by decide +kernel
theorem dX1_addDead_21 : decode mX1_addDead.2.1 21 = .ok (.invokevirtual 54, 3) := by decide +kernel
theorem dX1_addDead_24 : decode mX1_addDead.2.1 24 = .ok (.aload_n 0, 1) := by decide +kernel
theorem dX1_addDead_25 : decode mX1_addDead.2.1 25 = .ok (.getfield 26, 3) := by decide +kernel
theorem dX1_addDead_28 : decode mX1_addDead.2.1 28 = .ok (.aload_n 0, 1) := by decide +kernel
theorem dX1_addDead_29 : decode mX1_addDead.2.1 29 = .ok (.getfield 42, 3) := by decide +kernel
theorem dX1_addDead_32 : decode mX1_addDead.2.1 32 = .ok (.iload_n 3, 1) := by decide +kernel
theorem dX1_addDead_33 : decode mX1_addDead.2.1 33 = .ok (.invokevirtual 54, 3) := by decide +kernel
theorem dX1_addDead_36 : decode mX1_addDead.2.1 36 = .ok (.aload_n 0, 1) := by decide +kernel
theorem dX1_addDead_37 : decode mX1_addDead.2.1 37 = .ok (.dup, 1) := by decide +kernel
theorem dX1_addDead_38 : decode mX1_addDead.2.1 38 = .ok (.getfield 42, 3) := by decide +kernel
theorem dX1_addDead_41 : decode mX1_addDead.2.1 41 = .ok (.iconst 1, 1) := by decide +kernel
theorem dX1_addDead_42 : decode mX1_addDead.2.1 42 = .ok (.iadd, 1) := by decide +kernel
theorem dX1_addDead_43 : decode mX1_addDead.2.1 43 = .ok (.putfield 42, 3) := by decide +kernel
theorem dX1_addDead_46 : decode mX1_addDead.2.1 46 = .ok (.return_, 1) := by decide +kernel
theorem dX1_addBearer_0 : decode mX1_addBearer.2.1 0 = .ok (.aload_n 0, 1) := by decide +kernel
theorem dX1_addBearer_1 : decode mX1_addBearer.2.1 1 = .ok (.getfield 29, 3) := by decide +kernel
theorem dX1_addBearer_4 : decode mX1_addBearer.2.1 4 = .ok (.aload_n 0, 1) := by decide +kernel
theorem dX1_addBearer_5 : decode mX1_addBearer.2.1 5 = .ok (.getfield 45, 3) := by decide +kernel
theorem dX1_addBearer_8 : decode mX1_addBearer.2.1 8 = .ok (.iload_n 1, 1) := by decide +kernel
theorem dX1_addBearer_9 : decode mX1_addBearer.2.1 9 = .ok (.invokevirtual 54, 3) := by decide +kernel
theorem dX1_addBearer_12 : decode mX1_addBearer.2.1 12 = .ok (.aload_n 0, 1) := by decide +kernel
theorem dX1_addBearer_13 : decode mX1_addBearer.2.1 13 = .ok (.dup, 1) := by decide +kernel
theorem dX1_addBearer_14 : decode mX1_addBearer.2.1 14 = .ok (.getfield 45, 3) := by decide +kernel
theorem dX1_addBearer_17 : decode mX1_addBearer.2.1 17 = .ok (.iconst 1, 1) := by decide +kernel
theorem dX1_addBearer_18 : decode mX1_addBearer.2.1 18 = .ok (.iadd, 1) := by decide +kernel
theorem dX1_addBearer_19 : decode mX1_addBearer.2.1 19 = .ok (.putfield 45, 3) := by decide +kernel
theorem dX1_addBearer_22 : decode mX1_addBearer.2.1 22 = .ok (.return_, 1) := by decide +kernel
theorem dX2_init_0 : decode mX2_init.2.1 0 = .ok (.aload_n 0, 1) := by decide +kernel
theorem dX2_init_1 : decode mX2_init.2.1 1 = .ok (.invokespecial 3, 3) := by decide +kernel
theorem dX2_init_4 : decode mX2_init.2.1 4 = .ok (.aload_n 0, 1) := by decide +kernel
theorem dX2_init_5 : decode mX2_init.2.1 5 = .ok (.aload_n 1, 1) := by decide +kernel
theorem dX2_init_6 : decode mX2_init.2.1 6 = .ok (.putfield 9, 3) := by decide +kernel
theorem dX2_init_9 : decode mX2_init.2.1 9 = .ok (.return_, 1) := by decide +kernel
theorem dX2_read_0 : decode mX2_read.2.1 0 = .ok (.aload_n 0, 1) := by decide +kernel
theorem dX2_read_1 : decode mX2_read.2.1 1 = .ok (.iload_n 1, 1) := by decide +kernel
theorem dX2_read_2 : decode mX2_read.2.1 2 = .ok (.putfield 15, 3) := by decide +kernel
theorem dX2_read_5 : decode mX2_read.2.1 5 = .ok (.aload_n 0, 1) := by decide +kernel
theorem dX2_read_6 : decode mX2_read.2.1 6 = .ok (.iconst 0, 1) := by decide +kernel
theorem dX2_read_7 : decode mX2_read.2.1 7 = .ok (.putfield 19, 3) := by decide +kernel
theorem dX2_read_10 : decode mX2_read.2.1 10 = .ok (.aload_n 0, 1) := by decide +kernel
theorem dX2_read_11 : decode mX2_read.2.1 11 = .ok (.iconst 0, 1) := by decide +kernel
theorem dX2_read_12 : decode mX2_read.2.1 12 = .ok (.putfield 22, 3) := by decide +kernel
theorem dX2_read_15 : decode mX2_read.2.1 15 = .ok (.aload_n 0, 1) := by decide +kernel
theorem dX2_read_16 : decode mX2_read.2.1 16 = .ok (.iconst 0, 1) := by decide +kernel
theorem dX2_read_17 : decode mX2_read.2.1 17 = .ok (.putfield 26, 3) := by decide +kernel
theorem dX2_read_20 : decode mX2_read.2.1 20 = .ok (.aload_n 0, 1) := by decide +kernel
theorem dX2_read_21 : decode mX2_read.2.1 21 = .ok (.iconst 0, 1) := by decide +kernel
theorem dX2_read_22 : decode mX2_read.2.1 22 = .ok (.putfield 29, 3) := by decide +kernel
theorem dX2_read_25 : decode mX2_read.2.1 25 = .ok (.aload_n 2, 1) := by decide +kernel
theorem dX2_read_26 : decode mX2_read.2.1 26 = .ok (.invokevirtual 32, 3) := by decide +kernel
theorem dX2_read_29 : decode mX2_read.2.1 29 = .ok (.aload_n 0, 1) := by decide +kernel
theorem dX2_read_30 : decode mX2_read.2.1 30 = .ok (.invokevirtual 37, 3) := by decide +kernel
theorem dX2_read_33 : decode mX2_read.2.1 33 = .ok (.iconst 0, 1) := by decide +kernel
theorem dX2_read_34 : decode mX2_read.2.1 34 = .ok (.istore_n 3, 1) := by decide +kernel
theorem dX2_read_35 : decode mX2_read.2.1 35 = .ok (.iload_n 3, 1) := by decide +kernel
theorem dX2_read_36 : decode mX2_read.2.1 36 = .ok (.sipush 150, 3) := by decide +kernel
theorem dX2_read_39 : decode mX2_read.2.1 39 = .ok (.if_icmp .ge 124, 3) := by decide +kernel
theorem dX2_read_42 : decode mX2_read.2.1 42 = .ok (.aload_n 0, 1) := by decide +kernel
theorem dX2_read_43 : decode mX2_read.2.1 43 = .ok (.getfield 22, 3) := by decide +kernel
theorem dX2_read_46 : decode mX2_read.2.1 46 = .ok (.ifCond .ne 117, 3) := by decide +kernel
theorem dX2_read_49 : decode mX2_read.2.1 49 = .ok (.aload_n 0, 1) := by decide +kernel
theorem dX2_read_50 : decode mX2_read.2.1 50 = .ok (.getfield 40, 3) := by decide +kernel
theorem dX2_read_53 : decode mX2_read.2.1 53 = .ok (.ifCond .eq 110, 3) := by decide +kernel
theorem dX2_read_56 : decode mX2_read.2.1 56 = .ok (.aload_n 0, 1) := by decide +kernel
theorem dX2_read_57 : decode mX2_read.2.1 57 = .ok (.getfield 40, 3) := by decide +kernel
theorem dX2_read_60 : decode mX2_read.2.1 60 = .ok (.lookupswitch 92 #[(98, 68), (100, 52), (108, 60), (112, 76), (114, 84)], 52) := by decide +kernel
theorem dX2_read_112 : decode mX2_read.2.1 112 = .ok (.aload_n 0, 1) := by decide +kernel
theorem dX2_read_113 : decode mX2_read.2.1 113 = .ok (.aload_n 2, 1) := by decide +kernel
theorem dX2_read_114 : decode mX2_read.2.1 114 = .ok (.invokevirtual 43, 3) := by decide +kernel
theorem dX2_read_117 : decode mX2_read.2.1 117 = .ok (.goto 40, 3) := by decide +kernel
theorem dX2_read_120 : decode mX2_read.2.1 120 = .ok (.aload_n 0, 1) := by decide +kernel
theorem dX2_read_121 : decode mX2_read.2.1 121 = .ok (.aload_n 2, 1) := by decide +kernel
theorem dX2_read_122 : decode mX2_read.2.1 122 = .ok (.invokevirtual 47, 3) := by decide +kernel
theorem dX2_read_125 : decode mX2_read.2.1 125 = .ok (.goto 32, 3) := by decide +kernel
theorem dX2_read_128 : decode mX2_read.2.1 128 = .ok (.aload_n 0, 1) := by decide +kernel
theorem dX2_read_129 : decode mX2_read.2.1 129 = .ok (.aload_n 2, 1) := by decide +kernel
theorem dX2_read_130 : decode mX2_read.2.1 130 = .ok (.invokevirtual 50, 3) := by decide +kernel
theorem dX2_read_133 : decode mX2_read.2.1 133 = .ok (.goto 24, 3) := by decide +kernel
theorem dX2_read_136 : decode mX2_read.2.1 136 = .ok (.aload_n 0, 1) := by decide +kernel
theorem dX2_read_137 : decode mX2_read.2.1 137 = .ok (.aload_n 2, 1) := by decide +kernel
theorem dX2_read_138 : decode mX2_read.2.1 138 = .ok (.invokevirtual 53, 3) := by decide +kernel
theorem dX2_read_141 : decode mX2_read.2.1 141 = .ok (.goto 16, 3) := by decide +kernel
theorem dX2_read_144 : decode mX2_read.2.1 144 = .ok (.aload_n 0, 1) := by decide +kernel
theorem dX2_read_145 : decode mX2_read.2.1 145 = .ok (.aload_n 2, 1) := by decide +kernel
theorem dX2_read_146 : decode mX2_read.2.1 146 = .ok (.invokevirtual 56, 3) := by decide +kernel
theorem dX2_read_149 : decode mX2_read.2.1 149 = .ok (.goto 8, 3) := by decide +kernel
theorem dX2_read_152 : decode mX2_read.2.1 152 = .ok (.aload_n 0, 1) := by decide +kernel
theorem dX2_read_153 : decode mX2_read.2.1 153 = .ok (.iconst 1, 1) := by decide +kernel
theorem dX2_read_154 : decode mX2_read.2.1 154 = .ok (.putfield 22, 3) := by decide +kernel
theorem dX2_read_157 : decode mX2_read.2.1 157 = .ok (.iinc 3 1, 3) := by decide +kernel
theorem dX2_read_160 : decode mX2_read.2.1 160 = .ok (.goto (-125), 3) := by decide +kernel
theorem dX2_read_163 : decode mX2_read.2.1 163 = .ok (.aload_n 0, 1) := by decide +kernel
theorem dX2_read_164 : decode mX2_read.2.1 164 = .ok (.getfield 22, 3) := by decide +kernel
theorem dX2_read_167 : decode mX2_read.2.1 167 = .ok (.ifCond .eq 10, 3) := by decide +kernel
theorem dX2_read_170 : decode mX2_read.2.1 170 = .ok (.aload_n 0, 1) := by decide +kernel
theorem dX2_read_171 : decode mX2_read.2.1 171 = .ok (.getfield 59, 3) := by decide +kernel
theorem dX2_read_174 : decode mX2_read.2.1 174 = .ok (.goto 4, 3) := by decide +kernel
theorem dX2_read_177 : decode mX2_read.2.1 177 = .ok (.iconst (-1), 1) := by decide +kernel
theorem dX2_read_178 : decode mX2_read.2.1 178 = .ok (.ireturn, 1) := by decide +kernel
theorem dX2_readDeed_0 : decode mX2_readDeed.2.1 0 = .ok (.aload_n 0, 1) := by decide +kernel
theorem dX2_readDeed_1 : decode mX2_readDeed.2.1 1 = .ok (.aload_n 1, 1) := by decide +kernel
theorem dX2_readDeed_2 : decode mX2_readDeed.2.1 2 = .ok (.getfield 62, 3) := by decide +kernel
theorem dX2_readDeed_5 : decode mX2_readDeed.2.1 5 = .ok (.bipush 6, 2) := by decide +kernel
theorem dX2_readDeed_7 : decode mX2_readDeed.2.1 7 = .ok (.if_icmp .ge 7, 3) := by decide +kernel
theorem dX2_readDeed_10 : decode mX2_readDeed.2.1 10 = .ok (.iconst 1, 1) := by decide +kernel
theorem dX2_readDeed_11 : decode mX2_readDeed.2.1 11 = .ok (.goto 4, 3) := by decide +kernel
theorem dX2_readDeed_14 : decode mX2_readDeed.2.1 14 = .ok (.iconst 0, 1) := by decide +kernel
theorem dX2_readDeed_15 : decode mX2_readDeed.2.1 15 = .ok (.invokevirtual 65, 3) := by decide +kernel
theorem dX2_readDeed_18 : decode mX2_readDeed.2.1 18 = .ok (.aload_n 0, 1) := by decide +kernel
theorem dX2_readDeed_19 : decode mX2_readDeed.2.1 19 = .ok (.iconst 0, 1) := by decide +kernel
theorem dX2_readDeed_20 : decode mX2_readDeed.2.1 20 = .ok (.bipush 40, 2) := by decide +kernel
theorem dX2_readDeed_22 : decode mX2_readDeed.2.1 22 = .ok (.invokevirtual 69, 3) := by decide +kernel
theorem dX2_readDeed_25 : decode mX2_readDeed.2.1 25 = .ok (.istore_n 2, 1) := by decide +kernel
theorem dX2_readDeed_26 : decode mX2_readDeed.2.1 26 = .ok (.aload_n 0, 1) := by decide +kernel
theorem dX2_readDeed_27 : decode mX2_readDeed.2.1 27 = .ok (.aload_n 1, 1) := by decide +kernel
theorem dX2_readDeed_28 : decode mX2_readDeed.2.1 28 = .ok (.invokevirtual 73, 3) := by decide +kernel
theorem dX2_readDeed_31 : decode mX2_readDeed.2.1 31 = .ok (.aload_n 0, 1) := by decide +kernel
theorem dX2_readDeed_32 : decode mX2_readDeed.2.1 32 = .ok (.getfield 22, 3) := by decide +kernel
theorem dX2_readDeed_35 : decode mX2_readDeed.2.1 35 = .ok (.ifCond .ne 11, 3) := by decide +kernel
theorem dX2_readDeed_38 : decode mX2_readDeed.2.1 38 = .ok (.aload_n 1, 1) := by decide +kernel
theorem dX2_readDeed_39 : decode mX2_readDeed.2.1 39 = .ok (.iload_n 2, 1) := by decide +kernel
theorem dX2_readDeed_40 : decode mX2_readDeed.2.1 40 = .ok (.bipush 20, 2) := by decide +kernel
theorem dX2_readDeed_42 : decode mX2_readDeed.2.1 42 = .ok (.isub, 1) := by decide +kernel
theorem dX2_readDeed_43 : decode mX2_readDeed.2.1 43 = .ok (.invokevirtual 76, 3) := by decide +kernel
theorem dX2_readDeed_46 : decode mX2_readDeed.2.1 46 = .ok (.return_, 1) := by decide +kernel
theorem dX2_readDead_0 : decode mX2_readDead.2.1 0 = .ok (.aload_n 0, 1) := by decide +kernel
theorem dX2_readDead_1 : decode mX2_readDead.2.1 1 = .ok (.aload_n 1, 1) := by decide +kernel
theorem dX2_readDead_2 : decode mX2_readDead.2.1 2 = .ok (.getfield 80, 3) := by decide +kernel
theorem dX2_readDead_5 : decode mX2_readDead.2.1 5 = .ok (.bipush 6, 2) := by decide +kernel
theorem dX2_readDead_7 : decode mX2_readDead.2.1 7 = .ok (.if_icmp .ge 7, 3) := by decide +kernel
theorem dX2_readDead_10 : decode mX2_readDead.2.1 10 = .ok (.iconst 1, 1) := by decide +kernel
theorem dX2_readDead_11 : decode mX2_readDead.2.1 11 = .ok (.goto 4, 3) := by decide +kernel
theorem dX2_readDead_14 : decode mX2_readDead.2.1 14 = .ok (.iconst 0, 1) := by decide +kernel
theorem dX2_readDead_15 : decode mX2_readDead.2.1 15 = .ok (.invokevirtual 65, 3) := by decide +kernel
theorem dX2_readDead_18 : decode mX2_readDead.2.1 18 = .ok (.aload_n 0, 1) := by decide +kernel
theorem dX2_readDead_19 : decode mX2_readDead.2.1 19 = .ok (.iconst 1, 1) := by decide +kernel
theorem dX2_readDead_20 : decode mX2_readDead.2.1 20 = .ok (.bipush 40, 2) := by decide +kernel
theorem dX2_readDead_22 : decode mX2_readDead.2.1 22 = .ok (.invokevirtual 69, 3) := by decide +kernel
theorem dX2_readDead_25 : decode mX2_readDead.2.1 25 = .ok (.istore_n 2, 1) := by decide +kernel
theorem dX2_readDead_26 : decode mX2_readDead.2.1 26 = .ok (.aload_n 0, 1) := by decide +kernel
theorem dX2_readDead_27 : decode mX2_readDead.2.1 27 = .ok (.iconst 0, 1) := by decide +kernel
theorem dX2_readDead_28 : decode mX2_readDead.2.1 28 = .ok (.bipush 9, 2) := by decide +kernel
theorem dX2_readDead_30 : decode mX2_readDead.2.1 30 = .ok (.invokevirtual 69, 3) := by decide +kernel
theorem dX2_readDead_33 : decode mX2_readDead.2.1 33 = .ok (.istore_n 3, 1) := by decide +kernel
theorem dX2_readDead_34 : decode mX2_readDead.2.1 34 = .ok (.aload_n 0, 1) := by decide +kernel
theorem dX2_readDead_35 : decode mX2_readDead.2.1 35 = .ok (.aload_n 1, 1) := by decide +kernel
theorem dX2_readDead_36 : decode mX2_readDead.2.1 36 = .ok (.invokevirtual 83, 3) := by decide +kernel
theorem dX2_readDead_39 : decode mX2_readDead.2.1 39 = .ok (.istore 4, 2) := by decide +kernel
theorem dX2_readDead_41 : decode mX2_readDead.2.1 41 = .ok (.aload_n 0, 1) := by decide +kernel
theorem dX2_readDead_42 : decode mX2_readDead.2.1 42 = .ok (.aload_n 1, 1) := by decide +kernel
theorem dX2_readDead_43 : decode mX2_readDead.2.1 43 = .ok (.invokevirtual 73, 3) := by decide +kernel
theorem dX2_readDead_46 : decode mX2_readDead.2.1 46 = .ok (.aload_n 0, 1) := by decide +kernel
theorem dX2_readDead_47 : decode mX2_readDead.2.1 47 = .ok (.getfield 22, 3) := by decide +kernel
theorem dX2_readDead_50 : decode mX2_readDead.2.1 50 = .ok (.ifCond .ne 11, 3) := by decide +kernel
theorem dX2_readDead_53 : decode mX2_readDead.2.1 53 = .ok (.aload_n 1, 1) := by decide +kernel
theorem dX2_readDead_54 : decode mX2_readDead.2.1 54 = .ok (.iload_n 2, 1) := by decide +kernel
theorem dX2_readDead_55 : decode mX2_readDead.2.1 55 = .ok (.iload_n 3, 1) := by decide +kernel
theorem dX2_readDead_56 : decode mX2_readDead.2.1 56 = .ok (.iload 4, 2) := by decide +kernel
theorem dX2_readDead_58 : decode mX2_readDead.2.1 58 = .ok (.invokevirtual 87, 3) := by decide +kernel
theorem dX2_readDead_61 : decode mX2_readDead.2.1 61 = .ok (.return_, 1) := by decide +kernel
theorem dX2_readDone_0 : decode mX2_readDone.2.1 0 = .ok (.iconst 0, 1) := by decide +kernel
theorem dX2_readDone_1 : decode mX2_readDone.2.1 1 = .ok (.istore_n 2, 1) := by decide +kernel
theorem dX2_readDone_2 : decode mX2_readDone.2.1 2 = .ok (.iconst 0, 1) := by decide +kernel
theorem dX2_readDone_3 : decode mX2_readDone.2.1 3 = .ok (.istore_n 3, 1) := by decide +kernel
theorem dX2_readDone_4 : decode mX2_readDone.2.1 4 = .ok (.iload_n 3, 1) := by decide +kernel
theorem dX2_readDone_5 : decode mX2_readDone.2.1 5 = .ok (.bipush 6, 2) := by decide +kernel
theorem dX2_readDone_7 : decode mX2_readDone.2.1 7 = .ok (.if_icmp .ge 39, 3) := by decide +kernel
theorem dX2_readDone_10 : decode mX2_readDone.2.1 10 = .ok (.aload_n 0, 1) := by decide +kernel
theorem dX2_readDone_11 : decode mX2_readDone.2.1 11 = .ok (.getfield 22, 3) := by decide +kernel
theorem dX2_readDone_14 : decode mX2_readDone.2.1 14 = .ok (.ifCond .ne 32, 3) := by decide +kernel
theorem dX2_readDone_17 : decode mX2_readDone.2.1 17 = .ok (.aload_n 0, 1) := by decide +kernel
theorem dX2_readDone_18 : decode mX2_readDone.2.1 18 = .ok (.aload_n 1, 1) := by decide +kernel
theorem dX2_readDone_19 : decode mX2_readDone.2.1 19 = .ok (.iload_n 2, 1) := by decide +kernel
theorem dX2_readDone_20 : decode mX2_readDone.2.1 20 = .ok (.invokevirtual 91, 3) := by decide +kernel
theorem dX2_readDone_23 : decode mX2_readDone.2.1 23 = .ok (.ifCond .eq 23, 3) := by decide +kernel
theorem dX2_readDone_26 : decode mX2_readDone.2.1 26 = .ok (.iload_n 2, 1) := by decide +kernel
theorem dX2_readDone_27 : decode mX2_readDone.2.1 27 = .ok (.aload_n 0, 1) := by decide +kernel
theorem dX2_readDone_28 : decode mX2_readDone.2.1 28 = .ok (.getfield 95, 3) := by decide +kernel
theorem dX2_readDone_31 : decode mX2_readDone.2.1 31 = .ok (.invokestatic 98, 3) := by decide +kernel
theorem dX2_readDone_34 : decode mX2_readDone.2.1 34 = .ok (.ior, 1) := by decide +kernel
theorem dX2_readDone_35 : decode mX2_readDone.2.1 35 = .ok (.istore_n 2, 1) := by decide +kernel
theorem dX2_readDone_36 : decode mX2_readDone.2.1 36 = .ok (.aload_n 0, 1) := by decide +kernel
theorem dX2_readDone_37 : decode mX2_readDone.2.1 37 = .ok (.invokevirtual 37, 3) := by decide +kernel
theorem dX2_readDone_40 : decode mX2_readDone.2.1 40 = .ok (.iinc 3 1, 3) := by decide +kernel
theorem dX2_readDone_43 : decode mX2_readDone.2.1 43 = .ok (.goto (-39), 3) := by decide +kernel
theorem dX2_readDone_46 : decode mX2_readDone.2.1 46 = .ok (.iload_n 2, 1) := by decide +kernel
theorem dX2_readDone_47 : decode mX2_readDone.2.1 47 = .ok (.ireturn, 1) := by decide +kernel
theorem dX2_mayBeDone_0 : decode mX2_mayBeDone.2.1 0 = .ok (.aload_n 0, 1) := by decide +kernel
theorem dX2_mayBeDone_1 : decode mX2_mayBeDone.2.1 1 = .ok (.getfield 40, 3) := by decide +kernel
theorem dX2_mayBeDone_4 : decode mX2_mayBeDone.2.1 4 = .ok (.iconst 1, 1) := by decide +kernel
theorem dX2_mayBeDone_5 : decode mX2_mayBeDone.2.1 5 = .ok (.if_icmp .ne 29, 3) := by decide +kernel
theorem dX2_mayBeDone_8 : decode mX2_mayBeDone.2.1 8 = .ok (.aload_n 1, 1) := by decide +kernel
theorem dX2_mayBeDone_9 : decode mX2_mayBeDone.2.1 9 = .ok (.aload_n 0, 1) := by decide +kernel
theorem dX2_mayBeDone_10 : decode mX2_mayBeDone.2.1 10 = .ok (.getfield 95, 3) := by decide +kernel
theorem dX2_mayBeDone_13 : decode mX2_mayBeDone.2.1 13 = .ok (.invokevirtual 102, 3) := by decide +kernel
theorem dX2_mayBeDone_16 : decode mX2_mayBeDone.2.1 16 = .ok (.ifCond .eq 18, 3) := by decide +kernel
theorem dX2_mayBeDone_19 : decode mX2_mayBeDone.2.1 19 = .ok (.iload_n 2, 1) := by decide +kernel
theorem dX2_mayBeDone_20 : decode mX2_mayBeDone.2.1 20 = .ok (.aload_n 0, 1) := by decide +kernel
theorem dX2_mayBeDone_21 : decode mX2_mayBeDone.2.1 21 = .ok (.getfield 95, 3) := by decide +kernel
theorem dX2_mayBeDone_24 : decode mX2_mayBeDone.2.1 24 = .ok (.invokestatic 106, 3) := by decide +kernel
theorem dX2_mayBeDone_27 : decode mX2_mayBeDone.2.1 27 = .ok (.ifCond .ne 7, 3) := by decide +kernel
theorem dX2_mayBeDone_30 : decode mX2_mayBeDone.2.1 30 = .ok (.iconst 1, 1) := by decide +kernel
theorem dX2_mayBeDone_31 : decode mX2_mayBeDone.2.1 31 = .ok (.goto 4, 3) := by decide +kernel
theorem dX2_mayBeDone_34 : decode mX2_mayBeDone.2.1 34 = .ok (.iconst 0, 1) := by decide +kernel
theorem dX2_mayBeDone_35 : decode mX2_mayBeDone.2.1 35 = .ok (.ireturn, 1) := by decide +kernel
theorem dX2_readBearer_0 : decode mX2_readBearer.2.1 0 = .ok (.aload_n 0, 1) := by decide +kernel
theorem dX2_readBearer_1 : decode mX2_readBearer.2.1 1 = .ok (.aload_n 1, 1) := by decide +kernel
theorem dX2_readBearer_2 : decode mX2_readBearer.2.1 2 = .ok (.getfield 110, 3) := by decide +kernel
theorem dX2_readBearer_5 : decode mX2_readBearer.2.1 5 = .ok (.bipush 6, 2) := by decide +kernel
theorem dX2_readBearer_7 : decode mX2_readBearer.2.1 7 = .ok (.if_icmp .ge 7, 3) := by decide +kernel
theorem dX2_readBearer_10 : decode mX2_readBearer.2.1 10 = .ok (.iconst 1, 1) := by decide +kernel
theorem dX2_readBearer_11 : decode mX2_readBearer.2.1 11 = .ok (.goto 4, 3) := by decide +kernel
theorem dX2_readBearer_14 : decode mX2_readBearer.2.1 14 = .ok (.iconst 0, 1) := by decide +kernel
theorem dX2_readBearer_15 : decode mX2_readBearer.2.1 15 = .ok (.invokevirtual 65, 3) := by decide +kernel
theorem dX2_readBearer_18 : decode mX2_readBearer.2.1 18 = .ok (.aload_n 0, 1) := by decide +kernel
theorem dX2_readBearer_19 : decode mX2_readBearer.2.1 19 = .ok (.iconst 1, 1) := by decide +kernel
theorem dX2_readBearer_20 : decode mX2_readBearer.2.1 20 = .ok (.bipush 60, 2) := by decide +kernel
theorem dX2_readBearer_22 : decode mX2_readBearer.2.1 22 = .ok (.invokevirtual 69, 3) := by decide +kernel
theorem dX2_readBearer_25 : decode mX2_readBearer.2.1 25 = .ok (.istore_n 2, 1) := by decide +kernel
theorem dX2_readBearer_26 : decode mX2_readBearer.2.1 26 = .ok (.aload_n 0, 1) := by decide +kernel
theorem dX2_readBearer_27 : decode mX2_readBearer.2.1 27 = .ok (.aload_n 1, 1) := by decide +kernel
theorem dX2_readBearer_28 : decode mX2_readBearer.2.1 28 = .ok (.invokevirtual 73, 3) := by decide +kernel
theorem dX2_readBearer_31 : decode mX2_readBearer.2.1 31 = .ok (.aload_n 0, 1) := by decide +kernel
theorem dX2_readBearer_32 : decode mX2_readBearer.2.1 32 = .ok (.getfield 22, 3) := by decide +kernel
theorem dX2_readBearer_35 : decode mX2_readBearer.2.1 35 = .ok (.ifCond .ne 8, 3) := by decide +kernel
theorem dX2_readBearer_38 : decode mX2_readBearer.2.1 38 = .ok (.aload_n 1, 1) := by decide +kernel
theorem dX2_readBearer_39 : decode mX2_readBearer.2.1 39 = .ok (.iload_n 2, 1) := by decide +kernel
theorem dX2_readBearer_40 : decode mX2_readBearer.2.1 40 = .ok (.invokevirtual 113, 3) := by decide +kernel
theorem dX2_readBearer_43 : decode mX2_readBearer.2.1 43 = .ok (.return_, 1) := by decide +kernel
theorem dX2_readPin_0 : decode mX2_readPin.2.1 0 = .ok (.aload_n 0, 1) := by decide +kernel
theorem dX2_readPin_1 : decode mX2_readPin.2.1 1 = .ok (.aload_n 0, 1) := by decide +kernel
theorem dX2_readPin_2 : decode mX2_readPin.2.1 2 = .ok (.getfield 26, 3) := by decide +kernel
theorem dX2_readPin_5 : decode mX2_readPin.2.1 5 = .ok (.ifCond .ne 7, 3) := by decide +kernel
theorem dX2_readPin_8 : decode mX2_readPin.2.1 8 = .ok (.iconst 1, 1) := by decide +kernel
theorem dX2_readPin_9 : decode mX2_readPin.2.1 9 = .ok (.goto 4, 3) := by decide +kernel
theorem dX2_readPin_12 : decode mX2_readPin.2.1 12 = .ok (.iconst 0, 1) := by decide +kernel
theorem dX2_readPin_13 : decode mX2_readPin.2.1 13 = .ok (.invokevirtual 65, 3) := by decide +kernel
theorem dX2_readPin_16 : decode mX2_readPin.2.1 16 = .ok (.aload_n 1, 1) := by decide +kernel
theorem dX2_readPin_17 : decode mX2_readPin.2.1 17 = .ok (.aload_n 0, 1) := by decide +kernel
theorem dX2_readPin_18 : decode mX2_readPin.2.1 18 = .ok (.bipush 10, 2) := by decide +kernel
theorem dX2_readPin_20 : decode mX2_readPin.2.1 20 = .ok (.bipush 99, 2) := by decide +kernel
theorem dX2_readPin_22 : decode mX2_readPin.2.1 22 = .ok (.invokevirtual 69, 3) := by decide +kernel
theorem dX2_readPin_25 : decode mX2_readPin.2.1 25 = .ok (.putfield 116, 3) := by decide +kernel
theorem dX2_readPin_28 : decode mX2_readPin.2.1 28 = .ok (.aload_n 0, 1) := by decide +kernel
theorem dX2_readPin_29 : decode mX2_readPin.2.1 29 = .ok (.aload_n 1, 1) := by decide +kernel
theorem dX2_readPin_30 : decode mX2_readPin.2.1 30 = .ok (.invokevirtual 73, 3) := by decide +kernel
theorem dX2_readPin_33 : decode mX2_readPin.2.1 33 = .ok (.aload_n 0, 1) := by decide +kernel
theorem dX2_readPin_34 : decode mX2_readPin.2.1 34 = .ok (.iconst 1, 1) := by decide +kernel
theorem dX2_readPin_35 : decode mX2_readPin.2.1 35 = .ok (.putfield 26, 3) := by decide +kernel
theorem dX2_readPin_38 : decode mX2_readPin.2.1 38 = .ok (.return_, 1) := by decide +kernel
theorem dX2_readRust_0 : decode mX2_readRust.2.1 0 = .ok (.aload_n 0, 1) := by decide +kernel
theorem dX2_readRust_1 : decode mX2_readRust.2.1 1 = .ok (.aload_n 0, 1) := by decide +kernel
theorem dX2_readRust_2 : decode mX2_readRust.2.1 2 = .ok (.getfield 29, 3) := by decide +kernel
theorem dX2_readRust_5 : decode mX2_readRust.2.1 5 = .ok (.ifCond .ne 7, 3) := by decide +kernel
theorem dX2_readRust_8 : decode mX2_readRust.2.1 8 = .ok (.iconst 1, 1) := by decide +kernel
theorem dX2_readRust_9 : decode mX2_readRust.2.1 9 = .ok (.goto 4, 3) := by decide +kernel
theorem dX2_readRust_12 : decode mX2_readRust.2.1 12 = .ok (.iconst 0, 1) := by decide +kernel
theorem dX2_readRust_13 : decode mX2_readRust.2.1 13 = .ok (.invokevirtual 65, 3) := by decide +kernel
theorem dX2_readRust_16 : decode mX2_readRust.2.1 16 = .ok (.aload_n 1, 1) := by decide +kernel
theorem dX2_readRust_17 : decode mX2_readRust.2.1 17 = .ok (.aload_n 0, 1) := by decide +kernel
theorem dX2_readRust_18 : decode mX2_readRust.2.1 18 = .ok (.iconst 0, 1) := by decide +kernel
theorem dX2_readRust_19 : decode mX2_readRust.2.1 19 = .ok (.bipush 9, 2) := by decide +kernel
theorem dX2_readRust_21 : decode mX2_readRust.2.1 21 = .ok (.invokevirtual 69, 3) := by decide +kernel
theorem dX2_readRust_24 : decode mX2_readRust.2.1 24 = .ok (.putfield 119, 3) := by decide +kernel
theorem dX2_readRust_27 : decode mX2_readRust.2.1 27 = .ok (.aload_n 0, 1) := by decide +kernel
theorem dX2_readRust_28 : decode mX2_readRust.2.1 28 = .ok (.aload_n 1, 1) := by decide +kernel
theorem dX2_readRust_29 : decode mX2_readRust.2.1 29 = .ok (.invokevirtual 73, 3) := by decide +kernel
theorem dX2_readRust_32 : decode mX2_readRust.2.1 32 = .ok (.aload_n 0, 1) := by decide +kernel
theorem dX2_readRust_33 : decode mX2_readRust.2.1 33 = .ok (.iconst 1, 1) := by decide +kernel
theorem dX2_readRust_34 : decode mX2_readRust.2.1 34 = .ok (.putfield 29, 3) := by decide +kernel
theorem dX2_readRust_37 : decode mX2_readRust.2.1 37 = .ok (.return_, 1) := by decide +kernel
theorem dX2_open_0 : decode mX2_open.2.1 0 = .ok (.iload_n 1, 1) := by decide +kernel
theorem dX2_open_1 : decode mX2_open.2.1 1 = .ok (.ifCond .eq 10, 3) := by decide +kernel
theorem dX2_open_4 : decode mX2_open.2.1 4 = .ok (.aload_n 0, 1) := by decide +kernel
theorem dX2_open_5 : decode mX2_open.2.1 5 = .ok (.invokevirtual 37, 3) := by decide +kernel
theorem dX2_open_8 : decode mX2_open.2.1 8 = .ok (.goto 8, 3) := by decide +kernel
theorem dX2_open_11 : decode mX2_open.2.1 11 = .ok (.aload_n 0, 1) := by decide +kernel
theorem dX2_open_12 : decode mX2_open.2.1 12 = .ok (.iconst 1, 1) := by decide +kernel
theorem dX2_open_13 : decode mX2_open.2.1 13 = .ok (.putfield 22, 3) := by decide +kernel
theorem dX2_open_16 : decode mX2_open.2.1 16 = .ok (.return_, 1) := by decide +kernel
theorem dX2_number_0 : decode mX2_number.2.1 0 = .ok (.aload_n 0, 1) := by decide +kernel
theorem dX2_number_1 : decode mX2_number.2.1 1 = .ok (.getfield 95, 3) := by decide +kernel
theorem dX2_number_4 : decode mX2_number.2.1 4 = .ok (.istore_n 3, 1) := by decide +kernel
theorem dX2_number_5 : decode mX2_number.2.1 5 = .ok (.aload_n 0, 1) := by decide +kernel
theorem dX2_number_6 : decode mX2_number.2.1 6 = .ok (.getfield 22, 3) := by decide +kernel
theorem dX2_number_9 : decode mX2_number.2.1 9 = .ok (.ifCond .ne 20, 3) := by decide +kernel
theorem dX2_number_12 : decode mX2_number.2.1 12 = .ok (.aload_n 0, 1) := by decide +kernel
theorem dX2_number_13 : decode mX2_number.2.1 13 = .ok (.getfield 40, 3) := by decide +kernel
theorem dX2_number_16 : decode mX2_number.2.1 16 = .ok (.iconst 1, 1) := by decide +kernel
theorem dX2_number_17 : decode mX2_number.2.1 17 = .ok (.if_icmp .ne 12, 3) := by decide +kernel
theorem dX2_number_20 : decode mX2_number.2.1 20 = .ok (.iload_n 3, 1) := by decide +kernel
theorem dX2_number_21 : decode mX2_number.2.1 21 = .ok (.iload_n 1, 1) := by decide +kernel
theorem dX2_number_22 : decode mX2_number.2.1 22 = .ok (.iload_n 2, 1) := by decide +kernel
theorem dX2_number_23 : decode mX2_number.2.1 23 = .ok (.invokestatic 122, 3) := by decide +kernel
theorem dX2_number_26 : decode mX2_number.2.1 26 = .ok (.ifCond .ne 10, 3) := by decide +kernel
theorem dX2_number_29 : decode mX2_number.2.1 29 = .ok (.aload_n 0, 1) := by decide +kernel
theorem dX2_number_30 : decode mX2_number.2.1 30 = .ok (.iconst 1, 1) := by decide +kernel
theorem dX2_number_31 : decode mX2_number.2.1 31 = .ok (.putfield 22, 3) := by decide +kernel
theorem dX2_number_34 : decode mX2_number.2.1 34 = .ok (.iload_n 1, 1) := by decide +kernel
theorem dX2_number_35 : decode mX2_number.2.1 35 = .ok (.ireturn, 1) := by decide +kernel
theorem dX2_number_36 : decode mX2_number.2.1 36 = .ok (.aload_n 0, 1) := by decide +kernel
theorem dX2_number_37 : decode mX2_number.2.1 37 = .ok (.invokevirtual 37, 3) := by decide +kernel
theorem dX2_number_40 : decode mX2_number.2.1 40 = .ok (.iload_n 3, 1) := by decide +kernel
theorem dX2_number_41 : decode mX2_number.2.1 41 = .ok (.ireturn, 1) := by decide +kernel
theorem dX2_close_0 : decode mX2_close.2.1 0 = .ok (.aload_n 0, 1) := by decide +kernel
theorem dX2_close_1 : decode mX2_close.2.1 1 = .ok (.getfield 22, 3) := by decide +kernel
theorem dX2_close_4 : decode mX2_close.2.1 4 = .ok (.ifCond .ne 29, 3) := by decide +kernel
theorem dX2_close_7 : decode mX2_close.2.1 7 = .ok (.aload_n 0, 1) := by decide +kernel
theorem dX2_close_8 : decode mX2_close.2.1 8 = .ok (.getfield 40, 3) := by decide +kernel
theorem dX2_close_11 : decode mX2_close.2.1 11 = .ok (.bipush 59, 2) := by decide +kernel
theorem dX2_close_13 : decode mX2_close.2.1 13 = .ok (.if_icmp .ne 20, 3) := by decide +kernel
theorem dX2_close_16 : decode mX2_close.2.1 16 = .ok (.aload_n 1, 1) := by decide +kernel
theorem dX2_close_17 : decode mX2_close.2.1 17 = .ok (.dup, 1) := by decide +kernel
theorem dX2_close_18 : decode mX2_close.2.1 18 = .ok (.getfield 126, 3) := by decide +kernel
theorem dX2_close_21 : decode mX2_close.2.1 21 = .ok (.iconst 1, 1) := by decide +kernel
theorem dX2_close_22 : decode mX2_close.2.1 22 = .ok (.iadd, 1) := by decide +kernel
theorem dX2_close_23 : decode mX2_close.2.1 23 = .ok (.putfield 126, 3) := by decide +kernel
theorem dX2_close_26 : decode mX2_close.2.1 26 = .ok (.aload_n 0, 1) := by decide +kernel
theorem dX2_close_27 : decode mX2_close.2.1 27 = .ok (.invokevirtual 37, 3) := by decide +kernel
theorem dX2_close_30 : decode mX2_close.2.1 30 = .ok (.goto 8, 3) := by decide +kernel
theorem dX2_close_33 : decode mX2_close.2.1 33 = .ok (.aload_n 0, 1) := by decide +kernel
theorem dX2_close_34 : decode mX2_close.2.1 34 = .ok (.iconst 1, 1) := by decide +kernel
theorem dX2_close_35 : decode mX2_close.2.1 35 = .ok (.putfield 22, 3) := by decide +kernel
theorem dX2_close_38 : decode mX2_close.2.1 38 = .ok (.return_, 1) := by decide +kernel
theorem dX2_step_0 : decode mX2_step.2.1 0 = .ok (.aload_n 0, 1) := by decide +kernel
theorem dX2_step_1 : decode mX2_step.2.1 1 = .ok (.getfield 19, 3) := by decide +kernel
theorem dX2_step_4 : decode mX2_step.2.1 4 = .ok (.aload_n 0, 1) := by decide +kernel
theorem dX2_step_5 : decode mX2_step.2.1 5 = .ok (.getfield 15, 3) := by decide +kernel
theorem dX2_step_8 : decode mX2_step.2.1 8 = .ok (.if_icmp .ge 32, 3) := by decide +kernel
theorem dX2_step_11 : decode mX2_step.2.1 11 = .ok (.aload_n 0, 1) := by decide +kernel
theorem dX2_step_12 : decode mX2_step.2.1 12 = .ok (.getfield 9, 3) := by decide +kernel
theorem dX2_step_15 : decode mX2_step.2.1 15 = .ok (.aload_n 0, 1) := by decide +kernel
theorem dX2_step_16 : decode mX2_step.2.1 16 = .ok (.getfield 19, 3) := by decide +kernel
theorem dX2_step_19 : decode mX2_step.2.1 19 = .ok (.invokevirtual 129, 3) := by decide +kernel
theorem dX2_step_22 : decode mX2_step.2.1 22 = .ok (.bipush 32, 2) := by decide +kernel
theorem dX2_step_24 : decode mX2_step.2.1 24 = .ok (.if_icmp .ne 16, 3) := by decide +kernel
theorem dX2_step_27 : decode mX2_step.2.1 27 = .ok (.aload_n 0, 1) := by decide +kernel
theorem dX2_step_28 : decode mX2_step.2.1 28 = .ok (.dup, 1) := by decide +kernel
theorem dX2_step_29 : decode mX2_step.2.1 29 = .ok (.getfield 19, 3) := by decide +kernel
theorem dX2_step_32 : decode mX2_step.2.1 32 = .ok (.iconst 1, 1) := by decide +kernel
theorem dX2_step_33 : decode mX2_step.2.1 33 = .ok (.iadd, 1) := by decide +kernel
theorem dX2_step_34 : decode mX2_step.2.1 34 = .ok (.putfield 19, 3) := by decide +kernel
theorem dX2_step_37 : decode mX2_step.2.1 37 = .ok (.goto (-37), 3) := by decide +kernel
theorem dX2_step_40 : decode mX2_step.2.1 40 = .ok (.aload_n 0, 1) := by decide +kernel
theorem dX2_step_41 : decode mX2_step.2.1 41 = .ok (.aload_n 0, 1) := by decide +kernel
theorem dX2_step_42 : decode mX2_step.2.1 42 = .ok (.getfield 19, 3) := by decide +kernel
theorem dX2_step_45 : decode mX2_step.2.1 45 = .ok (.putfield 59, 3) := by decide +kernel
theorem dX2_step_48 : decode mX2_step.2.1 48 = .ok (.aload_n 0, 1) := by decide +kernel
theorem dX2_step_49 : decode mX2_step.2.1 49 = .ok (.getfield 59, 3) := by decide +kernel
theorem dX2_step_52 : decode mX2_step.2.1 52 = .ok (.aload_n 0, 1) := by decide +kernel
theorem dX2_step_53 : decode mX2_step.2.1 53 = .ok (.getfield 15, 3) := by decide +kernel
theorem dX2_step_56 : decode mX2_step.2.1 56 = .ok (.if_icmp .lt 11, 3) := by decide +kernel
theorem dX2_step_59 : decode mX2_step.2.1 59 = .ok (.aload_n 0, 1) := by decide +kernel
theorem dX2_step_60 : decode mX2_step.2.1 60 = .ok (.iconst 0, 1) := by decide +kernel
theorem dX2_step_61 : decode mX2_step.2.1 61 = .ok (.putfield 40, 3) := by decide +kernel
theorem dX2_step_64 : decode mX2_step.2.1 64 = .ok (.goto 73, 3) := by decide +kernel
theorem dX2_step_67 : decode mX2_step.2.1 67 = .ok (.aload_n 0, 1) := by decide +kernel
theorem dX2_step_68 : decode mX2_step.2.1 68 = .ok (.getfield 9, 3) := by decide +kernel
theorem dX2_step_71 : decode mX2_step.2.1 71 = .ok (.aload_n 0, 1) := by decide +kernel
theorem dX2_step_72 : decode mX2_step.2.1 72 = .ok (.getfield 59, 3) := by decide +kernel
theorem dX2_step_75 : decode mX2_step.2.1 75 = .ok (.invokevirtual 129, 3) := by decide +kernel
theorem dX2_step_78 : decode mX2_step.2.1 78 = .ok (.invokestatic 134, 3) := by decide +kernel
theorem dX2_step_81 : decode mX2_step.2.1 81 = .ok (.ifCond .eq 10, 3) := by decide +kernel
theorem dX2_step_84 : decode mX2_step.2.1 84 = .ok (.aload_n 0, 1) := by decide +kernel
theorem dX2_step_85 : decode mX2_step.2.1 85 = .ok (.invokevirtual 137, 3) := by decide +kernel
theorem dX2_step_88 : decode mX2_step.2.1 88 = .ok (.goto 49, 3) := by decide +kernel
theorem dX2_step_91 : decode mX2_step.2.1 91 = .ok (.aload_n 0, 1) := by decide +kernel
theorem dX2_step_92 : decode mX2_step.2.1 92 = .ok (.aload_n 0, 1) := by decide +kernel
theorem dX2_step_93 : decode mX2_step.2.1 93 = .ok (.getfield 9, 3) := by decide +kernel
theorem dX2_step_96 : decode mX2_step.2.1 96 = .ok (.aload_n 0, 1) := by decide +kernel
theorem dX2_step_97 : decode mX2_step.2.1 97 = .ok (.getfield 59, 3) := by decide +kernel
theorem dX2_step_100 : decode mX2_step.2.1 100 = .ok (.invokevirtual 129, 3) := by decide +kernel
theorem dX2_step_103 : decode mX2_step.2.1 103 = .ok (.invokestatic 140, 3) := by decide +kernel
theorem dX2_step_106 : decode mX2_step.2.1 106 = .ok (.ifCond .eq 17, 3) := by decide +kernel
theorem dX2_step_109 : decode mX2_step.2.1 109 = .ok (.aload_n 0, 1) := by decide +kernel
theorem dX2_step_110 : decode mX2_step.2.1 110 = .ok (.getfield 9, 3) := by decide +kernel
theorem dX2_step_113 : decode mX2_step.2.1 113 = .ok (.aload_n 0, 1) := by decide +kernel
theorem dX2_step_114 : decode mX2_step.2.1 114 = .ok (.getfield 59, 3) := by decide +kernel
theorem dX2_step_117 : decode mX2_step.2.1 117 = .ok (.invokevirtual 129, 3) := by decide +kernel
theorem dX2_step_120 : decode mX2_step.2.1 120 = .ok (.goto 4, 3) := by decide +kernel
theorem dX2_step_123 : decode mX2_step.2.1 123 = .ok (.iconst 2, 1) := by decide +kernel
theorem dX2_step_124 : decode mX2_step.2.1 124 = .ok (.putfield 40, 3) := by decide +kernel
theorem dX2_step_127 : decode mX2_step.2.1 127 = .ok (.aload_n 0, 1) := by decide +kernel
theorem dX2_step_128 : decode mX2_step.2.1 128 = .ok (.dup, 1) := by decide +kernel
theorem dX2_step_129 : decode mX2_step.2.1 129 = .ok (.getfield 19, 3) := by decide +kernel
theorem dX2_step_132 : decode mX2_step.2.1 132 = .ok (.iconst 1, 1) := by decide +kernel
theorem dX2_step_133 : decode mX2_step.2.1 133 = .ok (.iadd, 1) := by decide +kernel
theorem dX2_step_134 : decode mX2_step.2.1 134 = .ok (.putfield 19, 3) := by decide +kernel
theorem dX2_step_137 : decode mX2_step.2.1 137 = .ok (.return_, 1) := by decide +kernel
theorem dX2_stepNumber_0 : decode mX2_stepNumber.2.1 0 = .ok (.aload_n 0, 1) := by decide +kernel
theorem dX2_stepNumber_1 : decode mX2_stepNumber.2.1 1 = .ok (.iconst 0, 1) := by decide +kernel
theorem dX2_stepNumber_2 : decode mX2_stepNumber.2.1 2 = .ok (.putfield 95, 3) := by decide +kernel
theorem dX2_stepNumber_5 : decode mX2_stepNumber.2.1 5 = .ok (.aload_n 0, 1) := by decide +kernel
theorem dX2_stepNumber_6 : decode mX2_stepNumber.2.1 6 = .ok (.getfield 19, 3) := by decide +kernel
theorem dX2_stepNumber_9 : decode mX2_stepNumber.2.1 9 = .ok (.aload_n 0, 1) := by decide +kernel
theorem dX2_stepNumber_10 : decode mX2_stepNumber.2.1 10 = .ok (.getfield 15, 3) := by decide +kernel
theorem dX2_stepNumber_13 : decode mX2_stepNumber.2.1 13 = .ok (.if_icmp .ge 59, 3) := by decide +kernel
theorem dX2_stepNumber_16 : decode mX2_stepNumber.2.1 16 = .ok (.aload_n 0, 1) := by decide +kernel
theorem dX2_stepNumber_17 : decode mX2_stepNumber.2.1 17 = .ok (.getfield 9, 3) := by decide +kernel
theorem dX2_stepNumber_20 : decode mX2_stepNumber.2.1 20 = .ok (.aload_n 0, 1) := by decide +kernel
theorem dX2_stepNumber_21 : decode mX2_stepNumber.2.1 21 = .ok (.getfield 19, 3) := by decide +kernel
theorem dX2_stepNumber_24 : decode mX2_stepNumber.2.1 24 = .ok (.invokevirtual 129, 3) := by decide +kernel
theorem dX2_stepNumber_27 : decode mX2_stepNumber.2.1 27 = .ok (.invokestatic 134, 3) := by decide +kernel
theorem dX2_stepNumber_30 : decode mX2_stepNumber.2.1 30 = .ok (.ifCond .eq 42, 3) := by decide +kernel
theorem dX2_stepNumber_33 : decode mX2_stepNumber.2.1 33 = .ok (.aload_n 0, 1) := by decide +kernel
theorem dX2_stepNumber_34 : decode mX2_stepNumber.2.1 34 = .ok (.bipush 10, 2) := by decide +kernel
theorem dX2_stepNumber_36 : decode mX2_stepNumber.2.1 36 = .ok (.aload_n 0, 1) := by decide +kernel
theorem dX2_stepNumber_37 : decode mX2_stepNumber.2.1 37 = .ok (.getfield 95, 3) := by decide +kernel
theorem dX2_stepNumber_40 : decode mX2_stepNumber.2.1 40 = .ok (.imul, 1) := by decide +kernel
theorem dX2_stepNumber_41 : decode mX2_stepNumber.2.1 41 = .ok (.aload_n 0, 1) := by decide +kernel
theorem dX2_stepNumber_42 : decode mX2_stepNumber.2.1 42 = .ok (.getfield 9, 3) := by decide +kernel
theorem dX2_stepNumber_45 : decode mX2_stepNumber.2.1 45 = .ok (.aload_n 0, 1) := by decide +kernel
theorem dX2_stepNumber_46 : decode mX2_stepNumber.2.1 46 = .ok (.getfield 19, 3) := by decide +kernel
theorem dX2_stepNumber_49 : decode mX2_stepNumber.2.1 49 = .ok (.invokevirtual 129, 3) := by decide +kernel
theorem dX2_stepNumber_52 : decode mX2_stepNumber.2.1 52 = .ok (.iadd, 1) := by decide +kernel
theorem dX2_stepNumber_53 : decode mX2_stepNumber.2.1 53 = .ok (.bipush 48, 2) := by decide +kernel
theorem dX2_stepNumber_55 : decode mX2_stepNumber.2.1 55 = .ok (.isub, 1) := by decide +kernel
theorem dX2_stepNumber_56 : decode mX2_stepNumber.2.1 56 = .ok (.putfield 95, 3) := by decide +kernel
theorem dX2_stepNumber_59 : decode mX2_stepNumber.2.1 59 = .ok (.aload_n 0, 1) := by decide +kernel
theorem dX2_stepNumber_60 : decode mX2_stepNumber.2.1 60 = .ok (.dup, 1) := by decide +kernel
theorem dX2_stepNumber_61 : decode mX2_stepNumber.2.1 61 = .ok (.getfield 19, 3) := by decide +kernel
theorem dX2_stepNumber_64 : decode mX2_stepNumber.2.1 64 = .ok (.iconst 1, 1) := by decide +kernel
theorem dX2_stepNumber_65 : decode mX2_stepNumber.2.1 65 = .ok (.iadd, 1) := by decide +kernel
end
section
theorem dX2_stepNumber_66 : decode mX2_stepNumber.2.1 66 = .ok (.putfield 19, 3) := by decide +kernel
theorem dX2_stepNumber_69 : decode mX2_stepNumber.2.1 69 = .ok (.goto (-64), 3) := by decide +kernel
theorem dX2_stepNumber_72 : decode mX2_stepNumber.2.1 72 = .ok (.aload_n 0, 1) := by decide +kernel
theorem dX2_stepNumber_73 : decode mX2_stepNumber.2.1 73 = .ok (.getfield 19, 3) := by decide +kernel
theorem dX2_stepNumber_76 : decode mX2_stepNumber.2.1 76 = .ok (.aload_n 0, 1) := by decide +kernel
theorem dX2_stepNumber_77 : decode mX2_stepNumber.2.1 77 = .ok (.getfield 59, 3) := by decide +kernel
theorem dX2_stepNumber_80 : decode mX2_stepNumber.2.1 80 = .ok (.isub, 1) := by decide +kernel
theorem dX2_stepNumber_81 : decode mX2_stepNumber.2.1 81 = .ok (.istore_n 1, 1) := by decide +kernel
theorem dX2_stepNumber_82 : decode mX2_stepNumber.2.1 82 = .ok (.iload_n 1, 1) := by decide +kernel
theorem dX2_stepNumber_83 : decode mX2_stepNumber.2.1 83 = .ok (.iconst 1, 1) := by decide +kernel
theorem dX2_stepNumber_84 : decode mX2_stepNumber.2.1 84 = .ok (.if_icmp .eq 24, 3) := by decide +kernel
theorem dX2_stepNumber_87 : decode mX2_stepNumber.2.1 87 = .ok (.iload_n 1, 1) := by decide +kernel
theorem dX2_stepNumber_88 : decode mX2_stepNumber.2.1 88 = .ok (.iconst 2, 1) := by decide +kernel
theorem dX2_stepNumber_89 : decode mX2_stepNumber.2.1 89 = .ok (.if_icmp .ne 23, 3) := by decide +kernel
theorem dX2_stepNumber_92 : decode mX2_stepNumber.2.1 92 = .ok (.aload_n 0, 1) := by decide +kernel
theorem dX2_stepNumber_93 : decode mX2_stepNumber.2.1 93 = .ok (.getfield 9, 3) := by decide +kernel
theorem dX2_stepNumber_96 : decode mX2_stepNumber.2.1 96 = .ok (.aload_n 0, 1) := by decide +kernel
theorem dX2_stepNumber_97 : decode mX2_stepNumber.2.1 97 = .ok (.getfield 59, 3) := by decide +kernel
theorem dX2_stepNumber_100 : decode mX2_stepNumber.2.1 100 = .ok (.invokevirtual 129, 3) := by decide +kernel
theorem dX2_stepNumber_103 : decode mX2_stepNumber.2.1 103 = .ok (.bipush 48, 2) := by decide +kernel
theorem dX2_stepNumber_105 : decode mX2_stepNumber.2.1 105 = .ok (.if_icmp .eq 7, 3) := by decide +kernel
theorem dX2_stepNumber_108 : decode mX2_stepNumber.2.1 108 = .ok (.iconst 1, 1) := by decide +kernel
theorem dX2_stepNumber_109 : decode mX2_stepNumber.2.1 109 = .ok (.goto 4, 3) := by decide +kernel
theorem dX2_stepNumber_112 : decode mX2_stepNumber.2.1 112 = .ok (.iconst 0, 1) := by decide +kernel
theorem dX2_stepNumber_113 : decode mX2_stepNumber.2.1 113 = .ok (.istore_n 2, 1) := by decide +kernel
theorem dX2_stepNumber_114 : decode mX2_stepNumber.2.1 114 = .ok (.aload_n 0, 1) := by decide +kernel
theorem dX2_stepNumber_115 : decode mX2_stepNumber.2.1 115 = .ok (.iload_n 2, 1) := by decide +kernel
theorem dX2_stepNumber_116 : decode mX2_stepNumber.2.1 116 = .ok (.ifCond .eq 7, 3) := by decide +kernel
theorem dX2_stepNumber_119 : decode mX2_stepNumber.2.1 119 = .ok (.iconst 1, 1) := by decide +kernel
theorem dX2_stepNumber_120 : decode mX2_stepNumber.2.1 120 = .ok (.goto 4, 3) := by decide +kernel
theorem dX2_stepNumber_123 : decode mX2_stepNumber.2.1 123 = .ok (.iconst 2, 1) := by decide +kernel
theorem dX2_stepNumber_124 : decode mX2_stepNumber.2.1 124 = .ok (.putfield 40, 3) := by decide +kernel
theorem dX2_stepNumber_127 : decode mX2_stepNumber.2.1 127 = .ok (.return_, 1) := by decide +kernel
theorem dX2_isDigit_0 : decode mX2_isDigit.2.1 0 = .ok (.iload_n 0, 1) := by decide +kernel
theorem dX2_isDigit_1 : decode mX2_isDigit.2.1 1 = .ok (.bipush 48, 2) := by decide +kernel
theorem dX2_isDigit_3 : decode mX2_isDigit.2.1 3 = .ok (.if_icmp .lt 13, 3) := by decide +kernel
theorem dX2_isDigit_6 : decode mX2_isDigit.2.1 6 = .ok (.iload_n 0, 1) := by decide +kernel
theorem dX2_isDigit_7 : decode mX2_isDigit.2.1 7 = .ok (.bipush 57, 2) := by decide +kernel
theorem dX2_isDigit_9 : decode mX2_isDigit.2.1 9 = .ok (.if_icmp .gt 7, 3) := by decide +kernel
theorem dX2_isDigit_12 : decode mX2_isDigit.2.1 12 = .ok (.iconst 1, 1) := by decide +kernel
theorem dX2_isDigit_13 : decode mX2_isDigit.2.1 13 = .ok (.goto 4, 3) := by decide +kernel
theorem dX2_isDigit_16 : decode mX2_isDigit.2.1 16 = .ok (.iconst 0, 1) := by decide +kernel
theorem dX2_isDigit_17 : decode mX2_isDigit.2.1 17 = .ok (.ireturn, 1) := by decide +kernel
theorem dX2_isSign_0 : decode mX2_isSign.2.1 0 = .ok (.iload_n 0, 1) := by decide +kernel
theorem dX2_isSign_1 : decode mX2_isSign.2.1 1 = .ok (.bipush 100, 2) := by decide +kernel
theorem dX2_isSign_3 : decode mX2_isSign.2.1 3 = .ok (.if_icmp .eq 33, 3) := by decide +kernel
theorem dX2_isSign_6 : decode mX2_isSign.2.1 6 = .ok (.iload_n 0, 1) := by decide +kernel
theorem dX2_isSign_7 : decode mX2_isSign.2.1 7 = .ok (.bipush 108, 2) := by decide +kernel
theorem dX2_isSign_9 : decode mX2_isSign.2.1 9 = .ok (.if_icmp .eq 27, 3) := by decide +kernel
theorem dX2_isSign_12 : decode mX2_isSign.2.1 12 = .ok (.iload_n 0, 1) := by decide +kernel
theorem dX2_isSign_13 : decode mX2_isSign.2.1 13 = .ok (.bipush 98, 2) := by decide +kernel
theorem dX2_isSign_15 : decode mX2_isSign.2.1 15 = .ok (.if_icmp .eq 21, 3) := by decide +kernel
theorem dX2_isSign_18 : decode mX2_isSign.2.1 18 = .ok (.iload_n 0, 1) := by decide +kernel
theorem dX2_isSign_19 : decode mX2_isSign.2.1 19 = .ok (.bipush 112, 2) := by decide +kernel
theorem dX2_isSign_21 : decode mX2_isSign.2.1 21 = .ok (.if_icmp .eq 15, 3) := by decide +kernel
theorem dX2_isSign_24 : decode mX2_isSign.2.1 24 = .ok (.iload_n 0, 1) := by decide +kernel
theorem dX2_isSign_25 : decode mX2_isSign.2.1 25 = .ok (.bipush 114, 2) := by decide +kernel
theorem dX2_isSign_27 : decode mX2_isSign.2.1 27 = .ok (.if_icmp .eq 9, 3) := by decide +kernel
theorem dX2_isSign_30 : decode mX2_isSign.2.1 30 = .ok (.iload_n 0, 1) := by decide +kernel
theorem dX2_isSign_31 : decode mX2_isSign.2.1 31 = .ok (.bipush 59, 2) := by decide +kernel
theorem dX2_isSign_33 : decode mX2_isSign.2.1 33 = .ok (.if_icmp .ne 7, 3) := by decide +kernel
theorem dX2_isSign_36 : decode mX2_isSign.2.1 36 = .ok (.iconst 1, 1) := by decide +kernel
theorem dX2_isSign_37 : decode mX2_isSign.2.1 37 = .ok (.goto 4, 3) := by decide +kernel
theorem dX2_isSign_40 : decode mX2_isSign.2.1 40 = .ok (.iconst 0, 1) := by decide +kernel
theorem dX2_isSign_41 : decode mX2_isSign.2.1 41 = .ok (.ireturn, 1) := by decide +kernel
theorem dX3_init_0 : decode mX3_init.2.1 0 = .ok (.aload_n 0, 1) := by decide +kernel
theorem dX3_init_1 : decode mX3_init.2.1 1 = .ok (.invokespecial 3, 3) := by decide +kernel
theorem dX3_init_4 : decode mX3_init.2.1 4 = .ok (.aload_n 0, 1) := by decide +kernel
theorem dX3_init_5 : decode mX3_init.2.1 5 = .ok (.iconst 0, 1) := by decide +kernel
theorem dX3_init_6 : decode mX3_init.2.1 6 = .ok (.iload_n 1, 1) := by decide +kernel
theorem dX3_init_7 : decode mX3_init.2.1 7 = .ok (.invokestatic 9, 3) := by decide +kernel
theorem dX3_init_10 : decode mX3_init.2.1 10 = .ok (.newarray .int, 2) := by decide +kernel
theorem dX3_init_12 : decode mX3_init.2.1 12 = .ok (.putfield 15, 3) := by decide +kernel
theorem dX3_init_15 : decode mX3_init.2.1 15 = .ok (.return_, 1) := by decide +kernel
theorem dX3_at_0 : decode mX3_at.2.1 0 = .ok (.iload_n 1, 1) := by decide +kernel
theorem dX3_at_1 : decode mX3_at.2.1 1 = .ok (.ifCond .lt 21, 3) := by decide +kernel
theorem dX3_at_4 : decode mX3_at.2.1 4 = .ok (.iload_n 1, 1) := by decide +kernel
theorem dX3_at_5 : decode mX3_at.2.1 5 = .ok (.aload_n 0, 1) := by decide +kernel
theorem dX3_at_6 : decode mX3_at.2.1 6 = .ok (.getfield 15, 3) := by decide +kernel
theorem dX3_at_9 : decode mX3_at.2.1 9 = .ok (.arraylength, 1) := by decide +kernel
theorem dX3_at_10 : decode mX3_at.2.1 10 = .ok (.if_icmp .ge 12, 3) := by decide +kernel
theorem dX3_at_13 : decode mX3_at.2.1 13 = .ok (.aload_n 0, 1) := by decide +kernel
theorem dX3_at_14 : decode mX3_at.2.1 14 = .ok (.getfield 15, 3) := by decide +kernel
theorem dX3_at_17 : decode mX3_at.2.1 17 = .ok (.iload_n 1, 1) := by decide +kernel
theorem dX3_at_18 : decode mX3_at.2.1 18 = .ok (.iaload, 1) := by decide +kernel
theorem dX3_at_19 : decode mX3_at.2.1 19 = .ok (.goto 4, 3) := by decide +kernel
theorem dX3_at_22 : decode mX3_at.2.1 22 = .ok (.iconst 0, 1) := by decide +kernel
theorem dX3_at_23 : decode mX3_at.2.1 23 = .ok (.ireturn, 1) := by decide +kernel
theorem dX3_put_0 : decode mX3_put.2.1 0 = .ok (.iload_n 1, 1) := by decide +kernel
theorem dX3_put_1 : decode mX3_put.2.1 1 = .ok (.ifCond .lt 19, 3) := by decide +kernel
theorem dX3_put_4 : decode mX3_put.2.1 4 = .ok (.iload_n 1, 1) := by decide +kernel
theorem dX3_put_5 : decode mX3_put.2.1 5 = .ok (.aload_n 0, 1) := by decide +kernel
theorem dX3_put_6 : decode mX3_put.2.1 6 = .ok (.getfield 15, 3) := by decide +kernel
theorem dX3_put_9 : decode mX3_put.2.1 9 = .ok (.arraylength, 1) := by decide +kernel
theorem dX3_put_10 : decode mX3_put.2.1 10 = .ok (.if_icmp .ge 10, 3) := by decide +kernel
theorem dX3_put_13 : decode mX3_put.2.1 13 = .ok (.aload_n 0, 1) := by decide +kernel
theorem dX3_put_14 : decode mX3_put.2.1 14 = .ok (.getfield 15, 3) := by decide +kernel
theorem dX3_put_17 : decode mX3_put.2.1 17 = .ok (.iload_n 1, 1) := by decide +kernel
theorem dX3_put_18 : decode mX3_put.2.1 18 = .ok (.iload_n 2, 1) := by decide +kernel
theorem dX3_put_19 : decode mX3_put.2.1 19 = .ok (.iastore, 1) := by decide +kernel
theorem dX3_put_20 : decode mX3_put.2.1 20 = .ok (.return_, 1) := by decide +kernel
theorem dX3_sumOf_0 : decode mX3_sumOf.2.1 0 = .ok (.iconst 0, 1) := by decide +kernel
theorem dX3_sumOf_1 : decode mX3_sumOf.2.1 1 = .ok (.istore_n 2, 1) := by decide +kernel
theorem dX3_sumOf_2 : decode mX3_sumOf.2.1 2 = .ok (.iconst 0, 1) := by decide +kernel
theorem dX3_sumOf_3 : decode mX3_sumOf.2.1 3 = .ok (.istore_n 3, 1) := by decide +kernel
theorem dX3_sumOf_4 : decode mX3_sumOf.2.1 4 = .ok (.iload_n 3, 1) := by decide +kernel
theorem dX3_sumOf_5 : decode mX3_sumOf.2.1 5 = .ok (.bipush 6, 2) := by decide +kernel
theorem dX3_sumOf_7 : decode mX3_sumOf.2.1 7 = .ok (.if_icmp .ge 35, 3) := by decide +kernel
theorem dX3_sumOf_10 : decode mX3_sumOf.2.1 10 = .ok (.iload_n 3, 1) := by decide +kernel
theorem dX3_sumOf_11 : decode mX3_sumOf.2.1 11 = .ok (.aload_n 0, 1) := by decide +kernel
theorem dX3_sumOf_12 : decode mX3_sumOf.2.1 12 = .ok (.getfield 15, 3) := by decide +kernel
theorem dX3_sumOf_15 : decode mX3_sumOf.2.1 15 = .ok (.arraylength, 1) := by decide +kernel
theorem dX3_sumOf_16 : decode mX3_sumOf.2.1 16 = .ok (.if_icmp .ge 26, 3) := by decide +kernel
theorem dX3_sumOf_19 : decode mX3_sumOf.2.1 19 = .ok (.iload_n 1, 1) := by decide +kernel
theorem dX3_sumOf_20 : decode mX3_sumOf.2.1 20 = .ok (.iload_n 3, 1) := by decide +kernel
theorem dX3_sumOf_21 : decode mX3_sumOf.2.1 21 = .ok (.invokestatic 21, 3) := by decide +kernel
theorem dX3_sumOf_24 : decode mX3_sumOf.2.1 24 = .ok (.ifCond .eq 12, 3) := by decide +kernel
theorem dX3_sumOf_27 : decode mX3_sumOf.2.1 27 = .ok (.iload_n 2, 1) := by decide +kernel
theorem dX3_sumOf_28 : decode mX3_sumOf.2.1 28 = .ok (.aload_n 0, 1) := by decide +kernel
theorem dX3_sumOf_29 : decode mX3_sumOf.2.1 29 = .ok (.getfield 15, 3) := by decide +kernel
theorem dX3_sumOf_32 : decode mX3_sumOf.2.1 32 = .ok (.iload_n 3, 1) := by decide +kernel
theorem dX3_sumOf_33 : decode mX3_sumOf.2.1 33 = .ok (.iaload, 1) := by decide +kernel
theorem dX3_sumOf_34 : decode mX3_sumOf.2.1 34 = .ok (.iadd, 1) := by decide +kernel
theorem dX3_sumOf_35 : decode mX3_sumOf.2.1 35 = .ok (.istore_n 2, 1) := by decide +kernel
theorem dX3_sumOf_36 : decode mX3_sumOf.2.1 36 = .ok (.iinc 3 1, 3) := by decide +kernel
theorem dX3_sumOf_39 : decode mX3_sumOf.2.1 39 = .ok (.goto (-35), 3) := by decide +kernel
theorem dX3_sumOf_42 : decode mX3_sumOf.2.1 42 = .ok (.iload_n 2, 1) := by decide +kernel
theorem dX3_sumOf_43 : decode mX3_sumOf.2.1 43 = .ok (.ireturn, 1) := by decide +kernel
theorem dX3_fill_0 : decode mX3_fill.2.1 0 = .ok (.iconst 0, 1) := by decide +kernel
theorem dX3_fill_1 : decode mX3_fill.2.1 1 = .ok (.istore_n 2, 1) := by decide +kernel
theorem dX3_fill_2 : decode mX3_fill.2.1 2 = .ok (.iload_n 2, 1) := by decide +kernel
theorem dX3_fill_3 : decode mX3_fill.2.1 3 = .ok (.aload_n 0, 1) := by decide +kernel
theorem dX3_fill_4 : decode mX3_fill.2.1 4 = .ok (.getfield 15, 3) := by decide +kernel
theorem dX3_fill_7 : decode mX3_fill.2.1 7 = .ok (.arraylength, 1) := by decide +kernel
theorem dX3_fill_8 : decode mX3_fill.2.1 8 = .ok (.if_icmp .ge 16, 3) := by decide +kernel
theorem dX3_fill_11 : decode mX3_fill.2.1 11 = .ok (.aload_n 0, 1) := by decide +kernel
theorem dX3_fill_12 : decode mX3_fill.2.1 12 = .ok (.getfield 15, 3) := by decide +kernel
theorem dX3_fill_15 : decode mX3_fill.2.1 15 = .ok (.iload_n 2, 1) := by decide +kernel
theorem dX3_fill_16 : decode mX3_fill.2.1 16 = .ok (.iload_n 1, 1) := by decide +kernel
theorem dX3_fill_17 : decode mX3_fill.2.1 17 = .ok (.iastore, 1) := by decide +kernel
theorem dX3_fill_18 : decode mX3_fill.2.1 18 = .ok (.iinc 2 1, 3) := by decide +kernel
theorem dX3_fill_21 : decode mX3_fill.2.1 21 = .ok (.goto (-19), 3) := by decide +kernel
theorem dX3_fill_24 : decode mX3_fill.2.1 24 = .ok (.return_, 1) := by decide +kernel
theorem dX3_copyFrom_0 : decode mX3_copyFrom.2.1 0 = .ok (.iconst 0, 1) := by decide +kernel
theorem dX3_copyFrom_1 : decode mX3_copyFrom.2.1 1 = .ok (.istore_n 2, 1) := by decide +kernel
theorem dX3_copyFrom_2 : decode mX3_copyFrom.2.1 2 = .ok (.iload_n 2, 1) := by decide +kernel
theorem dX3_copyFrom_3 : decode mX3_copyFrom.2.1 3 = .ok (.aload_n 0, 1) := by decide +kernel
theorem dX3_copyFrom_4 : decode mX3_copyFrom.2.1 4 = .ok (.getfield 15, 3) := by decide +kernel
theorem dX3_copyFrom_7 : decode mX3_copyFrom.2.1 7 = .ok (.arraylength, 1) := by decide +kernel
theorem dX3_copyFrom_8 : decode mX3_copyFrom.2.1 8 = .ok (.if_icmp .ge 20, 3) := by decide +kernel
theorem dX3_copyFrom_11 : decode mX3_copyFrom.2.1 11 = .ok (.aload_n 0, 1) := by decide +kernel
theorem dX3_copyFrom_12 : decode mX3_copyFrom.2.1 12 = .ok (.getfield 15, 3) := by decide +kernel
theorem dX3_copyFrom_15 : decode mX3_copyFrom.2.1 15 = .ok (.iload_n 2, 1) := by decide +kernel
theorem dX3_copyFrom_16 : decode mX3_copyFrom.2.1 16 = .ok (.aload_n 1, 1) := by decide +kernel
theorem dX3_copyFrom_17 : decode mX3_copyFrom.2.1 17 = .ok (.iload_n 2, 1) := by decide +kernel
theorem dX3_copyFrom_18 : decode mX3_copyFrom.2.1 18 = .ok (.invokevirtual 25, 3) := by decide +kernel
theorem dX3_copyFrom_21 : decode mX3_copyFrom.2.1 21 = .ok (.iastore, 1) := by decide +kernel
theorem dX3_copyFrom_22 : decode mX3_copyFrom.2.1 22 = .ok (.iinc 2 1, 3) := by decide +kernel
theorem dX3_copyFrom_25 : decode mX3_copyFrom.2.1 25 = .ok (.goto (-23), 3) := by decide +kernel
theorem dX3_copyFrom_28 : decode mX3_copyFrom.2.1 28 = .ok (.return_, 1) := by decide +kernel
theorem dX4_init_0 : decode mX4_init.2.1 0 = .ok (.aload_n 0, 1) := by decide +kernel
theorem dX4_init_1 : decode mX4_init.2.1 1 = .ok (.invokespecial 3, 3) := by decide +kernel
theorem dX4_init_4 : decode mX4_init.2.1 4 = .ok (.aload_n 0, 1) := by decide +kernel
theorem dX4_init_5 : decode mX4_init.2.1 5 = .ok (.new 9, 3) := by decide +kernel
theorem dX4_init_8 : decode mX4_init.2.1 8 = .ok (.dup, 1) := by decide +kernel
theorem dX4_init_9 : decode mX4_init.2.1 9 = .ok (.bipush 6, 2) := by decide +kernel
theorem dX4_init_11 : decode mX4_init.2.1 11 = .ok (.invokespecial 11, 3) := by decide +kernel
theorem dX4_init_14 : decode mX4_init.2.1 14 = .ok (.putfield 14, 3) := by decide +kernel
theorem dX4_init_17 : decode mX4_init.2.1 17 = .ok (.aload_n 0, 1) := by decide +kernel
theorem dX4_init_18 : decode mX4_init.2.1 18 = .ok (.new 9, 3) := by decide +kernel
theorem dX4_init_21 : decode mX4_init.2.1 21 = .ok (.dup, 1) := by decide +kernel
theorem dX4_init_22 : decode mX4_init.2.1 22 = .ok (.bipush 6, 2) := by decide +kernel
theorem dX4_init_24 : decode mX4_init.2.1 24 = .ok (.invokespecial 11, 3) := by decide +kernel
theorem dX4_init_27 : decode mX4_init.2.1 27 = .ok (.putfield 20, 3) := by decide +kernel
theorem dX4_init_30 : decode mX4_init.2.1 30 = .ok (.aload_n 0, 1) := by decide +kernel
theorem dX4_init_31 : decode mX4_init.2.1 31 = .ok (.new 9, 3) := by decide +kernel
theorem dX4_init_34 : decode mX4_init.2.1 34 = .ok (.dup, 1) := by decide +kernel
theorem dX4_init_35 : decode mX4_init.2.1 35 = .ok (.bipush 6, 2) := by decide +kernel
theorem dX4_init_37 : decode mX4_init.2.1 37 = .ok (.invokespecial 11, 3) := by decide +kernel
theorem dX4_init_40 : decode mX4_init.2.1 40 = .ok (.putfield 23, 3) := by decide +kernel
theorem dX4_init_43 : decode mX4_init.2.1 43 = .ok (.return_, 1) := by decide +kernel
theorem dX4_begin_0 : decode mX4_begin.2.1 0 = .ok (.aload_n 0, 1) := by decide +kernel
theorem dX4_begin_1 : decode mX4_begin.2.1 1 = .ok (.iconst 0, 1) := by decide +kernel
theorem dX4_begin_2 : decode mX4_begin.2.1 2 = .ok (.putfield 26, 3) := by decide +kernel
theorem dX4_begin_5 : decode mX4_begin.2.1 5 = .ok (.aload_n 0, 1) := by decide +kernel
theorem dX4_begin_6 : decode mX4_begin.2.1 6 = .ok (.iconst 0, 1) := by decide +kernel
theorem dX4_begin_7 : decode mX4_begin.2.1 7 = .ok (.putfield 30, 3) := by decide +kernel
theorem dX4_begin_10 : decode mX4_begin.2.1 10 = .ok (.aload_n 0, 1) := by decide +kernel
theorem dX4_begin_11 : decode mX4_begin.2.1 11 = .ok (.aload_n 1, 1) := by decide +kernel
theorem dX4_begin_12 : decode mX4_begin.2.1 12 = .ok (.getfield 33, 3) := by decide +kernel
theorem dX4_begin_15 : decode mX4_begin.2.1 15 = .ok (.putfield 38, 3) := by decide +kernel
theorem dX4_begin_18 : decode mX4_begin.2.1 18 = .ok (.aload_n 0, 1) := by decide +kernel
theorem dX4_begin_19 : decode mX4_begin.2.1 19 = .ok (.getfield 14, 3) := by decide +kernel
theorem dX4_begin_22 : decode mX4_begin.2.1 22 = .ok (.aload_n 1, 1) := by decide +kernel
theorem dX4_begin_23 : decode mX4_begin.2.1 23 = .ok (.getfield 39, 3) := by decide +kernel
theorem dX4_begin_26 : decode mX4_begin.2.1 26 = .ok (.invokevirtual 40, 3) := by decide +kernel
theorem dX4_begin_29 : decode mX4_begin.2.1 29 = .ok (.aload_n 0, 1) := by decide +kernel
theorem dX4_begin_30 : decode mX4_begin.2.1 30 = .ok (.getfield 20, 3) := by decide +kernel
theorem dX4_begin_33 : decode mX4_begin.2.1 33 = .ok (.aload_n 1, 1) := by decide +kernel
theorem dX4_begin_34 : decode mX4_begin.2.1 34 = .ok (.getfield 44, 3) := by decide +kernel
theorem dX4_begin_37 : decode mX4_begin.2.1 37 = .ok (.invokevirtual 40, 3) := by decide +kernel
theorem dX4_begin_40 : decode mX4_begin.2.1 40 = .ok (.aload_n 0, 1) := by decide +kernel
theorem dX4_begin_41 : decode mX4_begin.2.1 41 = .ok (.getfield 23, 3) := by decide +kernel
theorem dX4_begin_44 : decode mX4_begin.2.1 44 = .ok (.bipush (-9), 2) := by decide +kernel
theorem dX4_begin_46 : decode mX4_begin.2.1 46 = .ok (.invokevirtual 45, 3) := by decide +kernel
theorem dX4_begin_49 : decode mX4_begin.2.1 49 = .ok (.return_, 1) := by decide +kernel
theorem dX4_copyFrom_0 : decode mX4_copyFrom.2.1 0 = .ok (.aload_n 0, 1) := by decide +kernel
theorem dX4_copyFrom_1 : decode mX4_copyFrom.2.1 1 = .ok (.aload_n 1, 1) := by decide +kernel
theorem dX4_copyFrom_2 : decode mX4_copyFrom.2.1 2 = .ok (.getfield 26, 3) := by decide +kernel
theorem dX4_copyFrom_5 : decode mX4_copyFrom.2.1 5 = .ok (.putfield 26, 3) := by decide +kernel
theorem dX4_copyFrom_8 : decode mX4_copyFrom.2.1 8 = .ok (.aload_n 0, 1) := by decide +kernel
theorem dX4_copyFrom_9 : decode mX4_copyFrom.2.1 9 = .ok (.aload_n 1, 1) := by decide +kernel
theorem dX4_copyFrom_10 : decode mX4_copyFrom.2.1 10 = .ok (.getfield 30, 3) := by decide +kernel
theorem dX4_copyFrom_13 : decode mX4_copyFrom.2.1 13 = .ok (.putfield 30, 3) := by decide +kernel
theorem dX4_copyFrom_16 : decode mX4_copyFrom.2.1 16 = .ok (.aload_n 0, 1) := by decide +kernel
theorem dX4_copyFrom_17 : decode mX4_copyFrom.2.1 17 = .ok (.aload_n 1, 1) := by decide +kernel
theorem dX4_copyFrom_18 : decode mX4_copyFrom.2.1 18 = .ok (.getfield 38, 3) := by decide +kernel
theorem dX4_copyFrom_21 : decode mX4_copyFrom.2.1 21 = .ok (.putfield 38, 3) := by decide +kernel
theorem dX4_copyFrom_24 : decode mX4_copyFrom.2.1 24 = .ok (.aload_n 0, 1) := by decide +kernel
theorem dX4_copyFrom_25 : decode mX4_copyFrom.2.1 25 = .ok (.getfield 14, 3) := by decide +kernel
theorem dX4_copyFrom_28 : decode mX4_copyFrom.2.1 28 = .ok (.aload_n 1, 1) := by decide +kernel
theorem dX4_copyFrom_29 : decode mX4_copyFrom.2.1 29 = .ok (.getfield 14, 3) := by decide +kernel
theorem dX4_copyFrom_32 : decode mX4_copyFrom.2.1 32 = .ok (.invokevirtual 40, 3) := by decide +kernel
theorem dX4_copyFrom_35 : decode mX4_copyFrom.2.1 35 = .ok (.aload_n 0, 1) := by decide +kernel
theorem dX4_copyFrom_36 : decode mX4_copyFrom.2.1 36 = .ok (.getfield 20, 3) := by decide +kernel
theorem dX4_copyFrom_39 : decode mX4_copyFrom.2.1 39 = .ok (.aload_n 1, 1) := by decide +kernel
theorem dX4_copyFrom_40 : decode mX4_copyFrom.2.1 40 = .ok (.getfield 20, 3) := by decide +kernel
theorem dX4_copyFrom_43 : decode mX4_copyFrom.2.1 43 = .ok (.invokevirtual 40, 3) := by decide +kernel
theorem dX4_copyFrom_46 : decode mX4_copyFrom.2.1 46 = .ok (.aload_n 0, 1) := by decide +kernel
theorem dX4_copyFrom_47 : decode mX4_copyFrom.2.1 47 = .ok (.getfield 23, 3) := by decide +kernel
theorem dX4_copyFrom_50 : decode mX4_copyFrom.2.1 50 = .ok (.aload_n 1, 1) := by decide +kernel
theorem dX4_copyFrom_51 : decode mX4_copyFrom.2.1 51 = .ok (.getfield 23, 3) := by decide +kernel
theorem dX4_copyFrom_54 : decode mX4_copyFrom.2.1 54 = .ok (.invokevirtual 40, 3) := by decide +kernel
theorem dX4_copyFrom_57 : decode mX4_copyFrom.2.1 57 = .ok (.return_, 1) := by decide +kernel
theorem dX4_isChalked_0 : decode mX4_isChalked.2.1 0 = .ok (.aload_n 0, 1) := by decide +kernel
theorem dX4_isChalked_1 : decode mX4_isChalked.2.1 1 = .ok (.getfield 23, 3) := by decide +kernel
theorem dX4_isChalked_4 : decode mX4_isChalked.2.1 4 = .ok (.iload_n 1, 1) := by decide +kernel
theorem dX4_isChalked_5 : decode mX4_isChalked.2.1 5 = .ok (.invokevirtual 48, 3) := by decide +kernel
theorem dX4_isChalked_8 : decode mX4_isChalked.2.1 8 = .ok (.bipush (-9), 2) := by decide +kernel
theorem dX4_isChalked_10 : decode mX4_isChalked.2.1 10 = .ok (.if_icmp .eq 7, 3) := by decide +kernel
theorem dX4_isChalked_13 : decode mX4_isChalked.2.1 13 = .ok (.iconst 1, 1) := by decide +kernel
theorem dX4_isChalked_14 : decode mX4_isChalked.2.1 14 = .ok (.goto 4, 3) := by decide +kernel
theorem dX4_isChalked_17 : decode mX4_isChalked.2.1 17 = .ok (.iconst 0, 1) := by decide +kernel
theorem dX4_isChalked_18 : decode mX4_isChalked.2.1 18 = .ok (.ireturn, 1) := by decide +kernel
theorem dX5_init_0 : decode mX5_init.2.1 0 = .ok (.aload_n 0, 1) := by decide +kernel
theorem dX5_init_1 : decode mX5_init.2.1 1 = .ok (.invokespecial 1, 3) := by decide +kernel
theorem dX5_init_4 : decode mX5_init.2.1 4 = .ok (.aload_n 0, 1) := by decide +kernel
theorem dX5_init_5 : decode mX5_init.2.1 5 = .ok (.iconst 0, 1) := by decide +kernel
theorem dX5_init_6 : decode mX5_init.2.1 6 = .ok (.iload_n 1, 1) := by decide +kernel
theorem dX5_init_7 : decode mX5_init.2.1 7 = .ok (.invokestatic 7, 3) := by decide +kernel
theorem dX5_init_10 : decode mX5_init.2.1 10 = .ok (.anewarray 13, 3) := by decide +kernel
theorem dX5_init_13 : decode mX5_init.2.1 13 = .ok (.putfield 15, 3) := by decide +kernel
theorem dX5_init_16 : decode mX5_init.2.1 16 = .ok (.iconst 0, 1) := by decide +kernel
theorem dX5_init_17 : decode mX5_init.2.1 17 = .ok (.istore_n 2, 1) := by decide +kernel
theorem dX5_init_18 : decode mX5_init.2.1 18 = .ok (.iload_n 2, 1) := by decide +kernel
theorem dX5_init_19 : decode mX5_init.2.1 19 = .ok (.aload_n 0, 1) := by decide +kernel
theorem dX5_init_20 : decode mX5_init.2.1 20 = .ok (.getfield 15, 3) := by decide +kernel
theorem dX5_init_23 : decode mX5_init.2.1 23 = .ok (.arraylength, 1) := by decide +kernel
theorem dX5_init_24 : decode mX5_init.2.1 24 = .ok (.if_icmp .ge 22, 3) := by decide +kernel
theorem dX5_init_27 : decode mX5_init.2.1 27 = .ok (.aload_n 0, 1) := by decide +kernel
theorem dX5_init_28 : decode mX5_init.2.1 28 = .ok (.getfield 15, 3) := by decide +kernel
theorem dX5_init_31 : decode mX5_init.2.1 31 = .ok (.iload_n 2, 1) := by decide +kernel
theorem dX5_init_32 : decode mX5_init.2.1 32 = .ok (.new 13, 3) := by decide +kernel
theorem dX5_init_35 : decode mX5_init.2.1 35 = .ok (.dup, 1) := by decide +kernel
theorem dX5_init_36 : decode mX5_init.2.1 36 = .ok (.invokespecial 21, 3) := by decide +kernel
theorem dX5_init_39 : decode mX5_init.2.1 39 = .ok (.aastore, 1) := by decide +kernel
theorem dX5_init_40 : decode mX5_init.2.1 40 = .ok (.iinc 2 1, 3) := by decide +kernel
theorem dX5_init_43 : decode mX5_init.2.1 43 = .ok (.goto (-25), 3) := by decide +kernel
theorem dX5_init_46 : decode mX5_init.2.1 46 = .ok (.return_, 1) := by decide +kernel
theorem dX5_has_0 : decode mX5_has.2.1 0 = .ok (.iload_n 1, 1) := by decide +kernel
theorem dX5_has_1 : decode mX5_has.2.1 1 = .ok (.ifCond .lt 25, 3) := by decide +kernel
theorem dX5_has_4 : decode mX5_has.2.1 4 = .ok (.iload_n 1, 1) := by decide +kernel
theorem dX5_has_5 : decode mX5_has.2.1 5 = .ok (.aload_n 0, 1) := by decide +kernel
theorem dX5_has_6 : decode mX5_has.2.1 6 = .ok (.getfield 15, 3) := by decide +kernel
theorem dX5_has_9 : decode mX5_has.2.1 9 = .ok (.arraylength, 1) := by decide +kernel
theorem dX5_has_10 : decode mX5_has.2.1 10 = .ok (.if_icmp .ge 16, 3) := by decide +kernel
theorem dX5_has_13 : decode mX5_has.2.1 13 = .ok (.aload_n 0, 1) := by decide +kernel
theorem dX5_has_14 : decode mX5_has.2.1 14 = .ok (.getfield 15, 3) := by decide +kernel
theorem dX5_has_17 : decode mX5_has.2.1 17 = .ok (.iload_n 1, 1) := by decide +kernel
theorem dX5_has_18 : decode mX5_has.2.1 18 = .ok (.aaload, 1) := by decide +kernel
theorem dX5_has_19 : decode mX5_has.2.1 19 = .ok (.ifnull 7, 3) := by decide +kernel
theorem dX5_has_22 : decode mX5_has.2.1 22 = .ok (.iconst 1, 1) := by decide +kernel
theorem dX5_has_23 : decode mX5_has.2.1 23 = .ok (.goto 4, 3) := by decide +kernel
theorem dX5_has_26 : decode mX5_has.2.1 26 = .ok (.iconst 0, 1) := by decide +kernel
theorem dX5_has_27 : decode mX5_has.2.1 27 = .ok (.ireturn, 1) := by decide +kernel
theorem dX5_put_0 : decode mX5_put.2.1 0 = .ok (.aload_n 0, 1) := by decide +kernel
theorem dX5_put_1 : decode mX5_put.2.1 1 = .ok (.iload_n 1, 1) := by decide +kernel
theorem dX5_put_2 : decode mX5_put.2.1 2 = .ok (.invokevirtual 22, 3) := by decide +kernel
theorem dX5_put_5 : decode mX5_put.2.1 5 = .ok (.ifCond .eq 13, 3) := by decide +kernel
theorem dX5_put_8 : decode mX5_put.2.1 8 = .ok (.aload_n 0, 1) := by decide +kernel
theorem dX5_put_9 : decode mX5_put.2.1 9 = .ok (.getfield 15, 3) := by decide +kernel
theorem dX5_put_12 : decode mX5_put.2.1 12 = .ok (.iload_n 1, 1) := by decide +kernel
theorem dX5_put_13 : decode mX5_put.2.1 13 = .ok (.aaload, 1) := by decide +kernel
theorem dX5_put_14 : decode mX5_put.2.1 14 = .ok (.aload_n 2, 1) := by decide +kernel
theorem dX5_put_15 : decode mX5_put.2.1 15 = .ok (.invokevirtual 26, 3) := by decide +kernel
theorem dX5_put_18 : decode mX5_put.2.1 18 = .ok (.return_, 1) := by decide +kernel
theorem dX5_copyTo_0 : decode mX5_copyTo.2.1 0 = .ok (.aload_n 0, 1) := by decide +kernel
theorem dX5_copyTo_1 : decode mX5_copyTo.2.1 1 = .ok (.iload_n 1, 1) := by decide +kernel
theorem dX5_copyTo_2 : decode mX5_copyTo.2.1 2 = .ok (.invokevirtual 22, 3) := by decide +kernel
theorem dX5_copyTo_5 : decode mX5_copyTo.2.1 5 = .ok (.ifCond .eq 13, 3) := by decide +kernel
theorem dX5_copyTo_8 : decode mX5_copyTo.2.1 8 = .ok (.aload_n 2, 1) := by decide +kernel
theorem dX5_copyTo_9 : decode mX5_copyTo.2.1 9 = .ok (.aload_n 0, 1) := by decide +kernel
theorem dX5_copyTo_10 : decode mX5_copyTo.2.1 10 = .ok (.getfield 15, 3) := by decide +kernel
theorem dX5_copyTo_13 : decode mX5_copyTo.2.1 13 = .ok (.iload_n 1, 1) := by decide +kernel
theorem dX5_copyTo_14 : decode mX5_copyTo.2.1 14 = .ok (.aaload, 1) := by decide +kernel
theorem dX5_copyTo_15 : decode mX5_copyTo.2.1 15 = .ok (.invokevirtual 26, 3) := by decide +kernel
theorem dX5_copyTo_18 : decode mX5_copyTo.2.1 18 = .ok (.return_, 1) := by decide +kernel
theorem dX6_init_0 : decode mX6_init.2.1 0 = .ok (.aload_n 0, 1) := by decide +kernel
theorem dX6_init_1 : decode mX6_init.2.1 1 = .ok (.invokespecial 1, 3) := by decide +kernel
theorem dX6_init_4 : decode mX6_init.2.1 4 = .ok (.aload_n 0, 1) := by decide +kernel
theorem dX6_init_5 : decode mX6_init.2.1 5 = .ok (.new 7, 3) := by decide +kernel
theorem dX6_init_8 : decode mX6_init.2.1 8 = .ok (.dup, 1) := by decide +kernel
theorem dX6_init_9 : decode mX6_init.2.1 9 = .ok (.sipush 150, 3) := by decide +kernel
theorem dX6_init_12 : decode mX6_init.2.1 12 = .ok (.invokespecial 11, 3) := by decide +kernel
theorem dX6_init_15 : decode mX6_init.2.1 15 = .ok (.putfield 14, 3) := by decide +kernel
theorem dX6_init_18 : decode mX6_init.2.1 18 = .ok (.aload_n 0, 1) := by decide +kernel
theorem dX6_init_19 : decode mX6_init.2.1 19 = .ok (.new 18, 3) := by decide +kernel
theorem dX6_init_22 : decode mX6_init.2.1 22 = .ok (.dup, 1) := by decide +kernel
theorem dX6_init_23 : decode mX6_init.2.1 23 = .ok (.aload_n 0, 1) := by decide +kernel
theorem dX6_init_24 : decode mX6_init.2.1 24 = .ok (.getfield 14, 3) := by decide +kernel
theorem dX6_init_27 : decode mX6_init.2.1 27 = .ok (.invokespecial 20, 3) := by decide +kernel
theorem dX6_init_30 : decode mX6_init.2.1 30 = .ok (.putfield 23, 3) := by decide +kernel
theorem dX6_init_33 : decode mX6_init.2.1 33 = .ok (.aload_n 0, 1) := by decide +kernel
theorem dX6_init_34 : decode mX6_init.2.1 34 = .ok (.new 27, 3) := by decide +kernel
theorem dX6_init_37 : decode mX6_init.2.1 37 = .ok (.dup, 1) := by decide +kernel
theorem dX6_init_38 : decode mX6_init.2.1 38 = .ok (.invokespecial 29, 3) := by decide +kernel
theorem dX6_init_41 : decode mX6_init.2.1 41 = .ok (.putfield 30, 3) := by decide +kernel
theorem dX6_init_44 : decode mX6_init.2.1 44 = .ok (.aload_n 0, 1) := by decide +kernel
theorem dX6_init_45 : decode mX6_init.2.1 45 = .ok (.new 27, 3) := by decide +kernel
theorem dX6_init_48 : decode mX6_init.2.1 48 = .ok (.dup, 1) := by decide +kernel
theorem dX6_init_49 : decode mX6_init.2.1 49 = .ok (.invokespecial 29, 3) := by decide +kernel
theorem dX6_init_52 : decode mX6_init.2.1 52 = .ok (.putfield 34, 3) := by decide +kernel
theorem dX6_init_55 : decode mX6_init.2.1 55 = .ok (.aload_n 0, 1) := by decide +kernel
theorem dX6_init_56 : decode mX6_init.2.1 56 = .ok (.new 37, 3) := by decide +kernel
theorem dX6_init_59 : decode mX6_init.2.1 59 = .ok (.dup, 1) := by decide +kernel
theorem dX6_init_60 : decode mX6_init.2.1 60 = .ok (.invokespecial 39, 3) := by decide +kernel
theorem dX6_init_63 : decode mX6_init.2.1 63 = .ok (.putfield 40, 3) := by decide +kernel
theorem dX6_init_66 : decode mX6_init.2.1 66 = .ok (.aload_n 0, 1) := by decide +kernel
theorem dX6_init_67 : decode mX6_init.2.1 67 = .ok (.getfield 40, 3) := by decide +kernel
theorem dX6_init_70 : decode mX6_init.2.1 70 = .ok (.aload_n 0, 1) := by decide +kernel
theorem dX6_init_71 : decode mX6_init.2.1 71 = .ok (.getfield 30, 3) := by decide +kernel
theorem dX6_init_74 : decode mX6_init.2.1 74 = .ok (.invokevirtual 44, 3) := by decide +kernel
theorem dX6_init_77 : decode mX6_init.2.1 77 = .ok (.aload_n 0, 1) := by decide +kernel
theorem dX6_init_78 : decode mX6_init.2.1 78 = .ok (.new 48, 3) := by decide +kernel
theorem dX6_init_81 : decode mX6_init.2.1 81 = .ok (.dup, 1) := by decide +kernel
theorem dX6_init_82 : decode mX6_init.2.1 82 = .ok (.invokespecial 50, 3) := by decide +kernel
theorem dX6_init_85 : decode mX6_init.2.1 85 = .ok (.putfield 51, 3) := by decide +kernel
theorem dX6_init_88 : decode mX6_init.2.1 88 = .ok (.aload_n 0, 1) := by decide +kernel
theorem dX6_init_89 : decode mX6_init.2.1 89 = .ok (.new 7, 3) := by decide +kernel
theorem dX6_init_92 : decode mX6_init.2.1 92 = .ok (.dup, 1) := by decide +kernel
theorem dX6_init_93 : decode mX6_init.2.1 93 = .ok (.bipush 6, 2) := by decide +kernel
theorem dX6_init_95 : decode mX6_init.2.1 95 = .ok (.invokespecial 11, 3) := by decide +kernel
theorem dX6_init_98 : decode mX6_init.2.1 98 = .ok (.putfield 55, 3) := by decide +kernel
theorem dX6_init_101 : decode mX6_init.2.1 101 = .ok (.aload_n 0, 1) := by decide +kernel
theorem dX6_init_102 : decode mX6_init.2.1 102 = .ok (.new 58, 3) := by decide +kernel
theorem dX6_init_105 : decode mX6_init.2.1 105 = .ok (.dup, 1) := by decide +kernel
theorem dX6_init_106 : decode mX6_init.2.1 106 = .ok (.iconst 2, 1) := by decide +kernel
theorem dX6_init_107 : decode mX6_init.2.1 107 = .ok (.invokespecial 60, 3) := by decide +kernel
theorem dX6_init_110 : decode mX6_init.2.1 110 = .ok (.putfield 61, 3) := by decide +kernel
theorem dX6_init_113 : decode mX6_init.2.1 113 = .ok (.aload_n 0, 1) := by decide +kernel
theorem dX6_init_114 : decode mX6_init.2.1 114 = .ok (.new 7, 3) := by decide +kernel
theorem dX6_init_117 : decode mX6_init.2.1 117 = .ok (.dup, 1) := by decide +kernel
theorem dX6_init_118 : decode mX6_init.2.1 118 = .ok (.bipush 6, 2) := by decide +kernel
theorem dX6_init_120 : decode mX6_init.2.1 120 = .ok (.invokespecial 11, 3) := by decide +kernel
theorem dX6_init_123 : decode mX6_init.2.1 123 = .ok (.putfield 65, 3) := by decide +kernel
theorem dX6_init_126 : decode mX6_init.2.1 126 = .ok (.aload_n 0, 1) := by decide +kernel
theorem dX6_init_127 : decode mX6_init.2.1 127 = .ok (.new 7, 3) := by decide +kernel
theorem dX6_init_130 : decode mX6_init.2.1 130 = .ok (.dup, 1) := by decide +kernel
theorem dX6_init_131 : decode mX6_init.2.1 131 = .ok (.bipush 6, 2) := by decide +kernel
theorem dX6_init_133 : decode mX6_init.2.1 133 = .ok (.invokespecial 11, 3) := by decide +kernel
theorem dX6_init_136 : decode mX6_init.2.1 136 = .ok (.putfield 68, 3) := by decide +kernel
theorem dX6_init_139 : decode mX6_init.2.1 139 = .ok (.return_, 1) := by decide +kernel
theorem dX6_type_0 : decode mX6_type.2.1 0 = .ok (.iload_n 1, 1) := by decide +kernel
theorem dX6_type_1 : decode mX6_type.2.1 1 = .ok (.iconst 0, 1) := by decide +kernel
theorem dX6_type_2 : decode mX6_type.2.1 2 = .ok (.sipush 255, 3) := by decide +kernel
theorem dX6_type_5 : decode mX6_type.2.1 5 = .ok (.invokestatic 71, 3) := by decide +kernel
theorem dX6_type_8 : decode mX6_type.2.1 8 = .ok (.ifCond .ne 5, 3) := by decide +kernel
theorem dX6_type_11 : decode mX6_type.2.1 11 = .ok (.iconst (-1), 1) := by decide +kernel
theorem dX6_type_12 : decode mX6_type.2.1 12 = .ok (.ireturn, 1) := by decide +kernel
theorem dX6_type_13 : decode mX6_type.2.1 13 = .ok (.aload_n 0, 1) := by decide +kernel
theorem dX6_type_14 : decode mX6_type.2.1 14 = .ok (.getfield 75, 3) := by decide +kernel
theorem dX6_type_17 : decode mX6_type.2.1 17 = .ok (.sipush 150, 3) := by decide +kernel
theorem dX6_type_20 : decode mX6_type.2.1 20 = .ok (.if_icmp .lt 6, 3) := by decide +kernel
theorem dX6_type_23 : decode mX6_type.2.1 23 = .ok (.bipush (-3), 2) := by decide +kernel
theorem dX6_type_25 : decode mX6_type.2.1 25 = .ok (.ireturn, 1) := by decide +kernel
theorem dX6_type_26 : decode mX6_type.2.1 26 = .ok (.aload_n 0, 1) := by decide +kernel
theorem dX6_type_27 : decode mX6_type.2.1 27 = .ok (.getfield 14, 3) := by decide +kernel
theorem dX6_type_30 : decode mX6_type.2.1 30 = .ok (.aload_n 0, 1) := by decide +kernel
theorem dX6_type_31 : decode mX6_type.2.1 31 = .ok (.getfield 75, 3) := by decide +kernel
theorem dX6_type_34 : decode mX6_type.2.1 34 = .ok (.iload_n 1, 1) := by decide +kernel
theorem dX6_type_35 : decode mX6_type.2.1 35 = .ok (.invokevirtual 79, 3) := by decide +kernel
theorem dX6_type_38 : decode mX6_type.2.1 38 = .ok (.aload_n 0, 1) := by decide +kernel
theorem dX6_type_39 : decode mX6_type.2.1 39 = .ok (.dup, 1) := by decide +kernel
theorem dX6_type_40 : decode mX6_type.2.1 40 = .ok (.getfield 75, 3) := by decide +kernel
theorem dX6_type_43 : decode mX6_type.2.1 43 = .ok (.iconst 1, 1) := by decide +kernel
theorem dX6_type_44 : decode mX6_type.2.1 44 = .ok (.iadd, 1) := by decide +kernel
theorem dX6_type_45 : decode mX6_type.2.1 45 = .ok (.putfield 75, 3) := by decide +kernel
theorem dX6_type_48 : decode mX6_type.2.1 48 = .ok (.aload_n 0, 1) := by decide +kernel
theorem dX6_type_49 : decode mX6_type.2.1 49 = .ok (.getfield 75, 3) := by decide +kernel
theorem dX6_type_52 : decode mX6_type.2.1 52 = .ok (.ireturn, 1) := by decide +kernel
theorem dX6_clear_0 : decode mX6_clear.2.1 0 = .ok (.aload_n 0, 1) := by decide +kernel
theorem dX6_clear_1 : decode mX6_clear.2.1 1 = .ok (.getfield 75, 3) := by decide +kernel
theorem dX6_clear_4 : decode mX6_clear.2.1 4 = .ok (.istore_n 1, 1) := by decide +kernel
theorem dX6_clear_5 : decode mX6_clear.2.1 5 = .ok (.aload_n 0, 1) := by decide +kernel
theorem dX6_clear_6 : decode mX6_clear.2.1 6 = .ok (.iconst 0, 1) := by decide +kernel
theorem dX6_clear_7 : decode mX6_clear.2.1 7 = .ok (.putfield 75, 3) := by decide +kernel
theorem dX6_clear_10 : decode mX6_clear.2.1 10 = .ok (.iload_n 1, 1) := by decide +kernel
theorem dX6_clear_11 : decode mX6_clear.2.1 11 = .ok (.ireturn, 1) := by decide +kernel
theorem dX6_gate_0 : decode mX6_gate.2.1 0 = .ok (.aload_n 0, 1) := by decide +kernel
theorem dX6_gate_1 : decode mX6_gate.2.1 1 = .ok (.getfield 23, 3) := by decide +kernel
theorem dX6_gate_4 : decode mX6_gate.2.1 4 = .ok (.aload_n 0, 1) := by decide +kernel
theorem dX6_gate_5 : decode mX6_gate.2.1 5 = .ok (.getfield 75, 3) := by decide +kernel
theorem dX6_gate_8 : decode mX6_gate.2.1 8 = .ok (.aload_n 0, 1) := by decide +kernel
theorem dX6_gate_9 : decode mX6_gate.2.1 9 = .ok (.getfield 34, 3) := by decide +kernel
theorem dX6_gate_12 : decode mX6_gate.2.1 12 = .ok (.invokevirtual 83, 3) := by decide +kernel
theorem dX6_gate_15 : decode mX6_gate.2.1 15 = .ok (.istore_n 1, 1) := by decide +kernel
theorem dX6_gate_16 : decode mX6_gate.2.1 16 = .ok (.iload_n 1, 1) := by decide +kernel
theorem dX6_gate_17 : decode mX6_gate.2.1 17 = .ok (.iconst (-1), 1) := by decide +kernel
theorem dX6_gate_18 : decode mX6_gate.2.1 18 = .ok (.if_icmp .eq 8, 3) := by decide +kernel
theorem dX6_gate_21 : decode mX6_gate.2.1 21 = .ok (.bipush (-10), 2) := by decide +kernel
theorem dX6_gate_23 : decode mX6_gate.2.1 23 = .ok (.iload_n 1, 1) := by decide +kernel
theorem dX6_gate_24 : decode mX6_gate.2.1 24 = .ok (.isub, 1) := by decide +kernel
theorem dX6_gate_25 : decode mX6_gate.2.1 25 = .ok (.ireturn, 1) := by decide +kernel
theorem dX6_gate_26 : decode mX6_gate.2.1 26 = .ok (.aload_n 0, 1) := by decide +kernel
theorem dX6_gate_27 : decode mX6_gate.2.1 27 = .ok (.getfield 30, 3) := by decide +kernel
theorem dX6_gate_30 : decode mX6_gate.2.1 30 = .ok (.astore_n 2, 1) := by decide +kernel
theorem dX6_gate_31 : decode mX6_gate.2.1 31 = .ok (.aload_n 0, 1) := by decide +kernel
theorem dX6_gate_32 : decode mX6_gate.2.1 32 = .ok (.aload_n 0, 1) := by decide +kernel
theorem dX6_gate_33 : decode mX6_gate.2.1 33 = .ok (.getfield 34, 3) := by decide +kernel
theorem dX6_gate_36 : decode mX6_gate.2.1 36 = .ok (.putfield 30, 3) := by decide +kernel
theorem dX6_gate_39 : decode mX6_gate.2.1 39 = .ok (.aload_n 0, 1) := by decide +kernel
theorem dX6_gate_40 : decode mX6_gate.2.1 40 = .ok (.aload_n 2, 1) := by decide +kernel
theorem dX6_gate_41 : decode mX6_gate.2.1 41 = .ok (.putfield 34, 3) := by decide +kernel
theorem dX6_gate_44 : decode mX6_gate.2.1 44 = .ok (.aload_n 0, 1) := by decide +kernel
theorem dX6_gate_45 : decode mX6_gate.2.1 45 = .ok (.getfield 40, 3) := by decide +kernel
theorem dX6_gate_48 : decode mX6_gate.2.1 48 = .ok (.aload_n 0, 1) := by decide +kernel
theorem dX6_gate_49 : decode mX6_gate.2.1 49 = .ok (.getfield 30, 3) := by decide +kernel
theorem dX6_gate_52 : decode mX6_gate.2.1 52 = .ok (.invokevirtual 44, 3) := by decide +kernel
theorem dX6_gate_55 : decode mX6_gate.2.1 55 = .ok (.aload_n 0, 1) := by decide +kernel
theorem dX6_gate_56 : decode mX6_gate.2.1 56 = .ok (.getfield 51, 3) := by decide +kernel
theorem dX6_gate_59 : decode mX6_gate.2.1 59 = .ok (.invokevirtual 87, 3) := by decide +kernel
theorem dX6_gate_62 : decode mX6_gate.2.1 62 = .ok (.aload_n 0, 1) := by decide +kernel
theorem dX6_gate_63 : decode mX6_gate.2.1 63 = .ok (.iconst 0, 1) := by decide +kernel
theorem dX6_gate_64 : decode mX6_gate.2.1 64 = .ok (.putfield 90, 3) := by decide +kernel
theorem dX6_gate_67 : decode mX6_gate.2.1 67 = .ok (.aload_n 0, 1) := by decide +kernel
theorem dX6_gate_68 : decode mX6_gate.2.1 68 = .ok (.iconst 0, 1) := by decide +kernel
theorem dX6_gate_69 : decode mX6_gate.2.1 69 = .ok (.putfield 93, 3) := by decide +kernel
theorem dX6_gate_72 : decode mX6_gate.2.1 72 = .ok (.aload_n 0, 1) := by decide +kernel
theorem dX6_gate_73 : decode mX6_gate.2.1 73 = .ok (.iconst 0, 1) := by decide +kernel
theorem dX6_gate_74 : decode mX6_gate.2.1 74 = .ok (.putfield 75, 3) := by decide +kernel
theorem dX6_gate_77 : decode mX6_gate.2.1 77 = .ok (.aload_n 0, 1) := by decide +kernel
theorem dX6_gate_78 : decode mX6_gate.2.1 78 = .ok (.getfield 30, 3) := by decide +kernel
theorem dX6_gate_81 : decode mX6_gate.2.1 81 = .ok (.getfield 96, 3) := by decide +kernel
theorem dX6_gate_84 : decode mX6_gate.2.1 84 = .ok (.ireturn, 1) := by decide +kernel
theorem dX6_deed_0 : decode mX6_deed.2.1 0 = .ok (.aload_n 0, 1) := by decide +kernel
theorem dX6_deed_1 : decode mX6_deed.2.1 1 = .ok (.getfield 30, 3) := by decide +kernel
theorem dX6_deed_4 : decode mX6_deed.2.1 4 = .ok (.iload_n 1, 1) := by decide +kernel
theorem dX6_deed_5 : decode mX6_deed.2.1 5 = .ok (.invokevirtual 99, 3) := by decide +kernel
theorem dX6_deed_8 : decode mX6_deed.2.1 8 = .ok (.ifCond .ne 6, 3) := by decide +kernel
theorem dX6_deed_11 : decode mX6_deed.2.1 11 = .ok (.ldc 103, 2) := by decide +kernel
theorem dX6_deed_13 : decode mX6_deed.2.1 13 = .ok (.ireturn, 1) := by decide +kernel
theorem dX6_deed_14 : decode mX6_deed.2.1 14 = .ok (.iload_n 2, 1) := by decide +kernel
theorem dX6_deed_15 : decode mX6_deed.2.1 15 = .ok (.lookupswitch 43 #[(0, 25), (1, 37)], 25) := by decide +kernel
theorem dX6_deed_40 : decode mX6_deed.2.1 40 = .ok (.aload_n 0, 1) := by decide +kernel
theorem dX6_deed_41 : decode mX6_deed.2.1 41 = .ok (.getfield 30, 3) := by decide +kernel
theorem dX6_deed_44 : decode mX6_deed.2.1 44 = .ok (.getfield 104, 3) := by decide +kernel
theorem dX6_deed_47 : decode mX6_deed.2.1 47 = .ok (.iload_n 1, 1) := by decide +kernel
theorem dX6_deed_48 : decode mX6_deed.2.1 48 = .ok (.invokevirtual 107, 3) := by decide +kernel
theorem dX6_deed_51 : decode mX6_deed.2.1 51 = .ok (.ireturn, 1) := by decide +kernel
theorem dX6_deed_52 : decode mX6_deed.2.1 52 = .ok (.aload_n 0, 1) := by decide +kernel
theorem dX6_deed_53 : decode mX6_deed.2.1 53 = .ok (.iload_n 1, 1) := by decide +kernel
theorem dX6_deed_54 : decode mX6_deed.2.1 54 = .ok (.invokevirtual 111, 3) := by decide +kernel
theorem dX6_deed_57 : decode mX6_deed.2.1 57 = .ok (.ireturn, 1) := by decide +kernel
theorem dX6_deed_58 : decode mX6_deed.2.1 58 = .ok (.ldc 103, 2) := by decide +kernel
theorem dX6_deed_60 : decode mX6_deed.2.1 60 = .ok (.ireturn, 1) := by decide +kernel
theorem dX6_dead_0 : decode mX6_dead.2.1 0 = .ok (.aload_n 0, 1) := by decide +kernel
theorem dX6_dead_1 : decode mX6_dead.2.1 1 = .ok (.getfield 30, 3) := by decide +kernel
theorem dX6_dead_4 : decode mX6_dead.2.1 4 = .ok (.iload_n 1, 1) := by decide +kernel
theorem dX6_dead_5 : decode mX6_dead.2.1 5 = .ok (.invokevirtual 114, 3) := by decide +kernel
theorem dX6_dead_8 : decode mX6_dead.2.1 8 = .ok (.ifCond .ne 6, 3) := by decide +kernel
theorem dX6_dead_11 : decode mX6_dead.2.1 11 = .ok (.ldc 103, 2) := by decide +kernel
theorem dX6_dead_13 : decode mX6_dead.2.1 13 = .ok (.ireturn, 1) := by decide +kernel
theorem dX6_dead_14 : decode mX6_dead.2.1 14 = .ok (.iload_n 2, 1) := by decide +kernel
theorem dX6_dead_15 : decode mX6_dead.2.1 15 = .ok (.tableswitch 133 0 7 #[45, 57, 69, 81, 103, 109, 121, 127], 45) := by decide +kernel
theorem dX6_dead_60 : decode mX6_dead.2.1 60 = .ok (.aload_n 0, 1) := by decide +kernel
theorem dX6_dead_61 : decode mX6_dead.2.1 61 = .ok (.getfield 30, 3) := by decide +kernel
theorem dX6_dead_64 : decode mX6_dead.2.1 64 = .ok (.getfield 117, 3) := by decide +kernel
theorem dX6_dead_67 : decode mX6_dead.2.1 67 = .ok (.iload_n 1, 1) := by decide +kernel
theorem dX6_dead_68 : decode mX6_dead.2.1 68 = .ok (.invokevirtual 107, 3) := by decide +kernel
theorem dX6_dead_71 : decode mX6_dead.2.1 71 = .ok (.ireturn, 1) := by decide +kernel
theorem dX6_dead_72 : decode mX6_dead.2.1 72 = .ok (.aload_n 0, 1) := by decide +kernel
theorem dX6_dead_73 : decode mX6_dead.2.1 73 = .ok (.getfield 40, 3) := by decide +kernel
theorem dX6_dead_76 : decode mX6_dead.2.1 76 = .ok (.getfield 120, 3) := by decide +kernel
theorem dX6_dead_79 : decode mX6_dead.2.1 79 = .ok (.iload_n 1, 1) := by decide +kernel
theorem dX6_dead_80 : decode mX6_dead.2.1 80 = .ok (.invokevirtual 107, 3) := by decide +kernel
theorem dX6_dead_83 : decode mX6_dead.2.1 83 = .ok (.ireturn, 1) := by decide +kernel
theorem dX6_dead_84 : decode mX6_dead.2.1 84 = .ok (.aload_n 0, 1) := by decide +kernel
theorem dX6_dead_85 : decode mX6_dead.2.1 85 = .ok (.getfield 40, 3) := by decide +kernel
theorem dX6_dead_88 : decode mX6_dead.2.1 88 = .ok (.getfield 123, 3) := by decide +kernel
theorem dX6_dead_91 : decode mX6_dead.2.1 91 = .ok (.iload_n 1, 1) := by decide +kernel
theorem dX6_dead_92 : decode mX6_dead.2.1 92 = .ok (.invokevirtual 107, 3) := by decide +kernel
theorem dX6_dead_95 : decode mX6_dead.2.1 95 = .ok (.ireturn, 1) := by decide +kernel
theorem dX6_dead_96 : decode mX6_dead.2.1 96 = .ok (.aload_n 0, 1) := by decide +kernel
theorem dX6_dead_97 : decode mX6_dead.2.1 97 = .ok (.getfield 30, 3) := by decide +kernel
theorem dX6_dead_100 : decode mX6_dead.2.1 100 = .ok (.getfield 104, 3) := by decide +kernel
theorem dX6_dead_103 : decode mX6_dead.2.1 103 = .ok (.aload_n 0, 1) := by decide +kernel
theorem dX6_dead_104 : decode mX6_dead.2.1 104 = .ok (.getfield 40, 3) := by decide +kernel
theorem dX6_dead_107 : decode mX6_dead.2.1 107 = .ok (.getfield 123, 3) := by decide +kernel
theorem dX6_dead_110 : decode mX6_dead.2.1 110 = .ok (.iload_n 1, 1) := by decide +kernel
theorem dX6_dead_111 : decode mX6_dead.2.1 111 = .ok (.invokevirtual 107, 3) := by decide +kernel
theorem dX6_dead_114 : decode mX6_dead.2.1 114 = .ok (.invokevirtual 126, 3) := by decide +kernel
theorem dX6_dead_117 : decode mX6_dead.2.1 117 = .ok (.ireturn, 1) := by decide +kernel
theorem dX6_dead_118 : decode mX6_dead.2.1 118 = .ok (.aload_n 0, 1) := by decide +kernel
theorem dX6_dead_119 : decode mX6_dead.2.1 119 = .ok (.iload_n 1, 1) := by decide +kernel
theorem dX6_dead_120 : decode mX6_dead.2.1 120 = .ok (.invokevirtual 129, 3) := by decide +kernel
theorem dX6_dead_123 : decode mX6_dead.2.1 123 = .ok (.ireturn, 1) := by decide +kernel
theorem dX6_dead_124 : decode mX6_dead.2.1 124 = .ok (.aload_n 0, 1) := by decide +kernel
theorem dX6_dead_125 : decode mX6_dead.2.1 125 = .ok (.getfield 40, 3) := by decide +kernel
theorem dX6_dead_128 : decode mX6_dead.2.1 128 = .ok (.getfield 132, 3) := by decide +kernel
theorem dX6_dead_131 : decode mX6_dead.2.1 131 = .ok (.iload_n 1, 1) := by decide +kernel
theorem dX6_dead_132 : decode mX6_dead.2.1 132 = .ok (.invokevirtual 107, 3) := by decide +kernel
theorem dX6_dead_135 : decode mX6_dead.2.1 135 = .ok (.ireturn, 1) := by decide +kernel
theorem dX6_dead_136 : decode mX6_dead.2.1 136 = .ok (.aload_n 0, 1) := by decide +kernel
theorem dX6_dead_137 : decode mX6_dead.2.1 137 = .ok (.iload_n 1, 1) := by decide +kernel
theorem dX6_dead_138 : decode mX6_dead.2.1 138 = .ok (.invokevirtual 135, 3) := by decide +kernel
theorem dX6_dead_141 : decode mX6_dead.2.1 141 = .ok (.ireturn, 1) := by decide +kernel
theorem dX6_dead_142 : decode mX6_dead.2.1 142 = .ok (.aload_n 0, 1) := by decide +kernel
theorem dX6_dead_143 : decode mX6_dead.2.1 143 = .ok (.iload_n 1, 1) := by decide +kernel
theorem dX6_dead_144 : decode mX6_dead.2.1 144 = .ok (.invokevirtual 138, 3) := by decide +kernel
theorem dX6_dead_147 : decode mX6_dead.2.1 147 = .ok (.ireturn, 1) := by decide +kernel
theorem dX6_dead_148 : decode mX6_dead.2.1 148 = .ok (.ldc 103, 2) := by decide +kernel
theorem dX6_dead_150 : decode mX6_dead.2.1 150 = .ok (.ireturn, 1) := by decide +kernel
theorem dX6_bearer_0 : decode mX6_bearer.2.1 0 = .ok (.aload_n 0, 1) := by decide +kernel
theorem dX6_bearer_1 : decode mX6_bearer.2.1 1 = .ok (.getfield 30, 3) := by decide +kernel
theorem dX6_bearer_4 : decode mX6_bearer.2.1 4 = .ok (.iload_n 1, 1) := by decide +kernel
theorem dX6_bearer_5 : decode mX6_bearer.2.1 5 = .ok (.invokevirtual 141, 3) := by decide +kernel
theorem dX6_bearer_8 : decode mX6_bearer.2.1 8 = .ok (.ifCond .eq 17, 3) := by decide +kernel
theorem dX6_bearer_11 : decode mX6_bearer.2.1 11 = .ok (.aload_n 0, 1) := by decide +kernel
theorem dX6_bearer_12 : decode mX6_bearer.2.1 12 = .ok (.getfield 30, 3) := by decide +kernel
theorem dX6_bearer_15 : decode mX6_bearer.2.1 15 = .ok (.getfield 144, 3) := by decide +kernel
theorem dX6_bearer_18 : decode mX6_bearer.2.1 18 = .ok (.iload_n 1, 1) := by decide +kernel
theorem dX6_bearer_19 : decode mX6_bearer.2.1 19 = .ok (.invokevirtual 107, 3) := by decide +kernel
theorem dX6_bearer_22 : decode mX6_bearer.2.1 22 = .ok (.goto 4, 3) := by decide +kernel
theorem dX6_bearer_25 : decode mX6_bearer.2.1 25 = .ok (.iconst (-1), 1) := by decide +kernel
theorem dX6_bearer_26 : decode mX6_bearer.2.1 26 = .ok (.ireturn, 1) := by decide +kernel
theorem dX6_now_0 : decode mX6_now.2.1 0 = .ok (.iload_n 1, 1) := by decide +kernel
theorem dX6_now_1 : decode mX6_now.2.1 1 = .ok (.tableswitch 72 0 4 #[35, 43, 51, 59, 64], 35) := by decide +kernel
theorem dX6_now_36 : decode mX6_now.2.1 36 = .ok (.aload_n 0, 1) := by decide +kernel
theorem dX6_now_37 : decode mX6_now.2.1 37 = .ok (.getfield 40, 3) := by decide +kernel
theorem dX6_now_40 : decode mX6_now.2.1 40 = .ok (.getfield 147, 3) := by decide +kernel
theorem dX6_now_43 : decode mX6_now.2.1 43 = .ok (.ireturn, 1) := by decide +kernel
theorem dX6_now_44 : decode mX6_now.2.1 44 = .ok (.aload_n 0, 1) := by decide +kernel
theorem dX6_now_45 : decode mX6_now.2.1 45 = .ok (.getfield 40, 3) := by decide +kernel
theorem dX6_now_48 : decode mX6_now.2.1 48 = .ok (.getfield 150, 3) := by decide +kernel
theorem dX6_now_51 : decode mX6_now.2.1 51 = .ok (.ireturn, 1) := by decide +kernel
theorem dX6_now_52 : decode mX6_now.2.1 52 = .ok (.aload_n 0, 1) := by decide +kernel
theorem dX6_now_53 : decode mX6_now.2.1 53 = .ok (.getfield 40, 3) := by decide +kernel
theorem dX6_now_56 : decode mX6_now.2.1 56 = .ok (.getfield 153, 3) := by decide +kernel
theorem dX6_now_59 : decode mX6_now.2.1 59 = .ok (.ireturn, 1) := by decide +kernel
theorem dX6_now_60 : decode mX6_now.2.1 60 = .ok (.aload_n 0, 1) := by decide +kernel
theorem dX6_now_61 : decode mX6_now.2.1 61 = .ok (.invokevirtual 156, 3) := by decide +kernel
theorem dX6_now_64 : decode mX6_now.2.1 64 = .ok (.ireturn, 1) := by decide +kernel
theorem dX6_now_65 : decode mX6_now.2.1 65 = .ok (.aload_n 0, 1) := by decide +kernel
theorem dX6_now_66 : decode mX6_now.2.1 66 = .ok (.getfield 51, 3) := by decide +kernel
theorem dX6_now_69 : decode mX6_now.2.1 69 = .ok (.getfield 160, 3) := by decide +kernel
theorem dX6_now_72 : decode mX6_now.2.1 72 = .ok (.ireturn, 1) := by decide +kernel
theorem dX6_now_73 : decode mX6_now.2.1 73 = .ok (.ldc 103, 2) := by decide +kernel
theorem dX6_now_75 : decode mX6_now.2.1 75 = .ok (.ireturn, 1) := by decide +kernel
theorem dX6_lays_0 : decode mX6_lays.2.1 0 = .ok (.aload_n 0, 1) := by decide +kernel
theorem dX6_lays_1 : decode mX6_lays.2.1 1 = .ok (.getfield 30, 3) := by decide +kernel
theorem dX6_lays_4 : decode mX6_lays.2.1 4 = .ok (.iload_n 1, 1) := by decide +kernel
theorem dX6_lays_5 : decode mX6_lays.2.1 5 = .ok (.invokevirtual 114, 3) := by decide +kernel
theorem dX6_lays_8 : decode mX6_lays.2.1 8 = .ok (.ifCond .ne 5, 3) := by decide +kernel
theorem dX6_lays_11 : decode mX6_lays.2.1 11 = .ok (.iconst (-1), 1) := by decide +kernel
theorem dX6_lays_12 : decode mX6_lays.2.1 12 = .ok (.ireturn, 1) := by decide +kernel
theorem dX6_lays_13 : decode mX6_lays.2.1 13 = .ok (.aload_n 0, 1) := by decide +kernel
theorem dX6_lays_14 : decode mX6_lays.2.1 14 = .ok (.getfield 40, 3) := by decide +kernel
theorem dX6_lays_17 : decode mX6_lays.2.1 17 = .ok (.iload_n 1, 1) := by decide +kernel
theorem dX6_lays_18 : decode mX6_lays.2.1 18 = .ok (.invokevirtual 163, 3) := by decide +kernel
theorem dX6_lays_21 : decode mX6_lays.2.1 21 = .ok (.ifCond .eq 6, 3) := by decide +kernel
theorem dX6_lays_24 : decode mX6_lays.2.1 24 = .ok (.bipush (-2), 2) := by decide +kernel
theorem dX6_lays_26 : decode mX6_lays.2.1 26 = .ok (.ireturn, 1) := by decide +kernel
theorem dX6_lays_27 : decode mX6_lays.2.1 27 = .ok (.aload_n 0, 1) := by decide +kernel
theorem dX6_lays_28 : decode mX6_lays.2.1 28 = .ok (.getfield 51, 3) := by decide +kernel
theorem dX6_lays_31 : decode mX6_lays.2.1 31 = .ok (.aload_n 0, 1) := by decide +kernel
theorem dX6_lays_32 : decode mX6_lays.2.1 32 = .ok (.getfield 40, 3) := by decide +kernel
theorem dX6_lays_35 : decode mX6_lays.2.1 35 = .ok (.invokevirtual 166, 3) := by decide +kernel
theorem dX6_lays_38 : decode mX6_lays.2.1 38 = .ok (.aload_n 0, 1) := by decide +kernel
theorem dX6_lays_39 : decode mX6_lays.2.1 39 = .ok (.iload_n 1, 1) := by decide +kernel
theorem dX6_lays_40 : decode mX6_lays.2.1 40 = .ok (.invokevirtual 135, 3) := by decide +kernel
theorem dX6_lays_43 : decode mX6_lays.2.1 43 = .ok (.istore_n 2, 1) := by decide +kernel
theorem dX6_lays_44 : decode mX6_lays.2.1 44 = .ok (.aload_n 0, 1) := by decide +kernel
theorem dX6_lays_45 : decode mX6_lays.2.1 45 = .ok (.getfield 40, 3) := by decide +kernel
theorem dX6_lays_48 : decode mX6_lays.2.1 48 = .ok (.getfield 132, 3) := by decide +kernel
theorem dX6_lays_51 : decode mX6_lays.2.1 51 = .ok (.iload_n 1, 1) := by decide +kernel
theorem dX6_lays_52 : decode mX6_lays.2.1 52 = .ok (.iload_n 2, 1) := by decide +kernel
theorem dX6_lays_53 : decode mX6_lays.2.1 53 = .ok (.invokevirtual 79, 3) := by decide +kernel
theorem dX6_lays_56 : decode mX6_lays.2.1 56 = .ok (.aload_n 0, 1) := by decide +kernel
theorem dX6_lays_57 : decode mX6_lays.2.1 57 = .ok (.getfield 40, 3) := by decide +kernel
theorem dX6_lays_60 : decode mX6_lays.2.1 60 = .ok (.aload_n 0, 1) := by decide +kernel
end
section
theorem dX6_lays_61 : decode mX6_lays.2.1 61 = .ok (.iload_n 2, 1) := by decide +kernel
theorem dX6_lays_62 : decode mX6_lays.2.1 62 = .ok (.iconst 0, 1) := by decide +kernel
theorem dX6_lays_63 : decode mX6_lays.2.1 63 = .ok (.invokevirtual 170, 3) := by decide +kernel
theorem dX6_lays_66 : decode mX6_lays.2.1 66 = .ok (.putfield 147, 3) := by decide +kernel
theorem dX6_lays_69 : decode mX6_lays.2.1 69 = .ok (.aload_n 0, 1) := by decide +kernel
theorem dX6_lays_70 : decode mX6_lays.2.1 70 = .ok (.getfield 40, 3) := by decide +kernel
theorem dX6_lays_73 : decode mX6_lays.2.1 73 = .ok (.iconst 0, 1) := by decide +kernel
theorem dX6_lays_74 : decode mX6_lays.2.1 74 = .ok (.putfield 150, 3) := by decide +kernel
theorem dX6_lays_77 : decode mX6_lays.2.1 77 = .ok (.iload_n 2, 1) := by decide +kernel
theorem dX6_lays_78 : decode mX6_lays.2.1 78 = .ok (.ireturn, 1) := by decide +kernel
theorem dX6_thumbs_0 : decode mX6_thumbs.2.1 0 = .ok (.iload_n 1, 1) := by decide +kernel
theorem dX6_thumbs_1 : decode mX6_thumbs.2.1 1 = .ok (.bipush (-9), 2) := by decide +kernel
theorem dX6_thumbs_3 : decode mX6_thumbs.2.1 3 = .ok (.bipush 9, 2) := by decide +kernel
theorem dX6_thumbs_5 : decode mX6_thumbs.2.1 5 = .ok (.invokestatic 71, 3) := by decide +kernel
theorem dX6_thumbs_8 : decode mX6_thumbs.2.1 8 = .ok (.ifCond .ne 6, 3) := by decide +kernel
theorem dX6_thumbs_11 : decode mX6_thumbs.2.1 11 = .ok (.ldc 103, 2) := by decide +kernel
theorem dX6_thumbs_13 : decode mX6_thumbs.2.1 13 = .ok (.ireturn, 1) := by decide +kernel
theorem dX6_thumbs_14 : decode mX6_thumbs.2.1 14 = .ok (.aload_n 0, 1) := by decide +kernel
theorem dX6_thumbs_15 : decode mX6_thumbs.2.1 15 = .ok (.getfield 51, 3) := by decide +kernel
theorem dX6_thumbs_18 : decode mX6_thumbs.2.1 18 = .ok (.aload_n 0, 1) := by decide +kernel
theorem dX6_thumbs_19 : decode mX6_thumbs.2.1 19 = .ok (.getfield 40, 3) := by decide +kernel
theorem dX6_thumbs_22 : decode mX6_thumbs.2.1 22 = .ok (.invokevirtual 166, 3) := by decide +kernel
theorem dX6_thumbs_25 : decode mX6_thumbs.2.1 25 = .ok (.aload_n 0, 1) := by decide +kernel
theorem dX6_thumbs_26 : decode mX6_thumbs.2.1 26 = .ok (.getfield 40, 3) := by decide +kernel
theorem dX6_thumbs_29 : decode mX6_thumbs.2.1 29 = .ok (.getfield 150, 3) := by decide +kernel
theorem dX6_thumbs_32 : decode mX6_thumbs.2.1 32 = .ok (.istore_n 2, 1) := by decide +kernel
theorem dX6_thumbs_33 : decode mX6_thumbs.2.1 33 = .ok (.aload_n 0, 1) := by decide +kernel
theorem dX6_thumbs_34 : decode mX6_thumbs.2.1 34 = .ok (.getfield 40, 3) := by decide +kernel
theorem dX6_thumbs_37 : decode mX6_thumbs.2.1 37 = .ok (.iload_n 1, 1) := by decide +kernel
theorem dX6_thumbs_38 : decode mX6_thumbs.2.1 38 = .ok (.putfield 150, 3) := by decide +kernel
theorem dX6_thumbs_41 : decode mX6_thumbs.2.1 41 = .ok (.iload_n 2, 1) := by decide +kernel
theorem dX6_thumbs_42 : decode mX6_thumbs.2.1 42 = .ok (.ireturn, 1) := by decide +kernel
theorem dX6_adorns_0 : decode mX6_adorns.2.1 0 = .ok (.aload_n 0, 1) := by decide +kernel
theorem dX6_adorns_1 : decode mX6_adorns.2.1 1 = .ok (.getfield 30, 3) := by decide +kernel
theorem dX6_adorns_4 : decode mX6_adorns.2.1 4 = .ok (.iload_n 1, 1) := by decide +kernel
theorem dX6_adorns_5 : decode mX6_adorns.2.1 5 = .ok (.invokevirtual 114, 3) := by decide +kernel
theorem dX6_adorns_8 : decode mX6_adorns.2.1 8 = .ok (.ifCond .eq 13, 3) := by decide +kernel
theorem dX6_adorns_11 : decode mX6_adorns.2.1 11 = .ok (.iload_n 2, 1) := by decide +kernel
theorem dX6_adorns_12 : decode mX6_adorns.2.1 12 = .ok (.iconst 0, 1) := by decide +kernel
theorem dX6_adorns_13 : decode mX6_adorns.2.1 13 = .ok (.bipush 9, 2) := by decide +kernel
theorem dX6_adorns_15 : decode mX6_adorns.2.1 15 = .ok (.invokestatic 71, 3) := by decide +kernel
theorem dX6_adorns_18 : decode mX6_adorns.2.1 18 = .ok (.ifCond .ne 5, 3) := by decide +kernel
theorem dX6_adorns_21 : decode mX6_adorns.2.1 21 = .ok (.iconst (-1), 1) := by decide +kernel
theorem dX6_adorns_22 : decode mX6_adorns.2.1 22 = .ok (.ireturn, 1) := by decide +kernel
theorem dX6_adorns_23 : decode mX6_adorns.2.1 23 = .ok (.aload_n 0, 1) := by decide +kernel
theorem dX6_adorns_24 : decode mX6_adorns.2.1 24 = .ok (.getfield 51, 3) := by decide +kernel
theorem dX6_adorns_27 : decode mX6_adorns.2.1 27 = .ok (.aload_n 0, 1) := by decide +kernel
theorem dX6_adorns_28 : decode mX6_adorns.2.1 28 = .ok (.getfield 40, 3) := by decide +kernel
theorem dX6_adorns_31 : decode mX6_adorns.2.1 31 = .ok (.invokevirtual 166, 3) := by decide +kernel
theorem dX6_adorns_34 : decode mX6_adorns.2.1 34 = .ok (.aload_n 0, 1) := by decide +kernel
theorem dX6_adorns_35 : decode mX6_adorns.2.1 35 = .ok (.getfield 40, 3) := by decide +kernel
theorem dX6_adorns_38 : decode mX6_adorns.2.1 38 = .ok (.getfield 120, 3) := by decide +kernel
theorem dX6_adorns_41 : decode mX6_adorns.2.1 41 = .ok (.iload_n 1, 1) := by decide +kernel
theorem dX6_adorns_42 : decode mX6_adorns.2.1 42 = .ok (.invokevirtual 107, 3) := by decide +kernel
theorem dX6_adorns_45 : decode mX6_adorns.2.1 45 = .ok (.istore_n 3, 1) := by decide +kernel
theorem dX6_adorns_46 : decode mX6_adorns.2.1 46 = .ok (.aload_n 0, 1) := by decide +kernel
theorem dX6_adorns_47 : decode mX6_adorns.2.1 47 = .ok (.getfield 40, 3) := by decide +kernel
theorem dX6_adorns_50 : decode mX6_adorns.2.1 50 = .ok (.getfield 120, 3) := by decide +kernel
theorem dX6_adorns_53 : decode mX6_adorns.2.1 53 = .ok (.iload_n 1, 1) := by decide +kernel
theorem dX6_adorns_54 : decode mX6_adorns.2.1 54 = .ok (.iload_n 2, 1) := by decide +kernel
theorem dX6_adorns_55 : decode mX6_adorns.2.1 55 = .ok (.invokevirtual 79, 3) := by decide +kernel
theorem dX6_adorns_58 : decode mX6_adorns.2.1 58 = .ok (.iload_n 3, 1) := by decide +kernel
theorem dX6_adorns_59 : decode mX6_adorns.2.1 59 = .ok (.ireturn, 1) := by decide +kernel
theorem dX6_sins_0 : decode mX6_sins.2.1 0 = .ok (.aload_n 0, 1) := by decide +kernel
theorem dX6_sins_1 : decode mX6_sins.2.1 1 = .ok (.getfield 30, 3) := by decide +kernel
theorem dX6_sins_4 : decode mX6_sins.2.1 4 = .ok (.iload_n 1, 1) := by decide +kernel
theorem dX6_sins_5 : decode mX6_sins.2.1 5 = .ok (.invokevirtual 114, 3) := by decide +kernel
theorem dX6_sins_8 : decode mX6_sins.2.1 8 = .ok (.ifCond .eq 14, 3) := by decide +kernel
theorem dX6_sins_11 : decode mX6_sins.2.1 11 = .ok (.aload_n 0, 1) := by decide +kernel
theorem dX6_sins_12 : decode mX6_sins.2.1 12 = .ok (.getfield 30, 3) := by decide +kernel
theorem dX6_sins_15 : decode mX6_sins.2.1 15 = .ok (.iload_n 2, 1) := by decide +kernel
theorem dX6_sins_16 : decode mX6_sins.2.1 16 = .ok (.invokevirtual 99, 3) := by decide +kernel
theorem dX6_sins_19 : decode mX6_sins.2.1 19 = .ok (.ifCond .ne 5, 3) := by decide +kernel
theorem dX6_sins_22 : decode mX6_sins.2.1 22 = .ok (.iconst (-1), 1) := by decide +kernel
theorem dX6_sins_23 : decode mX6_sins.2.1 23 = .ok (.ireturn, 1) := by decide +kernel
theorem dX6_sins_24 : decode mX6_sins.2.1 24 = .ok (.aload_n 0, 1) := by decide +kernel
theorem dX6_sins_25 : decode mX6_sins.2.1 25 = .ok (.getfield 40, 3) := by decide +kernel
theorem dX6_sins_28 : decode mX6_sins.2.1 28 = .ok (.getfield 123, 3) := by decide +kernel
theorem dX6_sins_31 : decode mX6_sins.2.1 31 = .ok (.iload_n 1, 1) := by decide +kernel
theorem dX6_sins_32 : decode mX6_sins.2.1 32 = .ok (.invokevirtual 107, 3) := by decide +kernel
theorem dX6_sins_35 : decode mX6_sins.2.1 35 = .ok (.istore_n 3, 1) := by decide +kernel
theorem dX6_sins_36 : decode mX6_sins.2.1 36 = .ok (.aload_n 0, 1) := by decide +kernel
theorem dX6_sins_37 : decode mX6_sins.2.1 37 = .ok (.getfield 40, 3) := by decide +kernel
theorem dX6_sins_40 : decode mX6_sins.2.1 40 = .ok (.iload_n 1, 1) := by decide +kernel
theorem dX6_sins_41 : decode mX6_sins.2.1 41 = .ok (.invokevirtual 163, 3) := by decide +kernel
theorem dX6_sins_44 : decode mX6_sins.2.1 44 = .ok (.ifCond .ne 11, 3) := by decide +kernel
theorem dX6_sins_47 : decode mX6_sins.2.1 47 = .ok (.iload_n 3, 1) := by decide +kernel
theorem dX6_sins_48 : decode mX6_sins.2.1 48 = .ok (.iload_n 2, 1) := by decide +kernel
theorem dX6_sins_49 : decode mX6_sins.2.1 49 = .ok (.invokestatic 174, 3) := by decide +kernel
theorem dX6_sins_52 : decode mX6_sins.2.1 52 = .ok (.ifCond .eq 6, 3) := by decide +kernel
theorem dX6_sins_55 : decode mX6_sins.2.1 55 = .ok (.bipush (-2), 2) := by decide +kernel
theorem dX6_sins_57 : decode mX6_sins.2.1 57 = .ok (.ireturn, 1) := by decide +kernel
theorem dX6_sins_58 : decode mX6_sins.2.1 58 = .ok (.aload_n 0, 1) := by decide +kernel
theorem dX6_sins_59 : decode mX6_sins.2.1 59 = .ok (.getfield 51, 3) := by decide +kernel
theorem dX6_sins_62 : decode mX6_sins.2.1 62 = .ok (.aload_n 0, 1) := by decide +kernel
theorem dX6_sins_63 : decode mX6_sins.2.1 63 = .ok (.getfield 40, 3) := by decide +kernel
theorem dX6_sins_66 : decode mX6_sins.2.1 66 = .ok (.invokevirtual 166, 3) := by decide +kernel
theorem dX6_sins_69 : decode mX6_sins.2.1 69 = .ok (.aload_n 0, 1) := by decide +kernel
theorem dX6_sins_70 : decode mX6_sins.2.1 70 = .ok (.getfield 40, 3) := by decide +kernel
theorem dX6_sins_73 : decode mX6_sins.2.1 73 = .ok (.getfield 123, 3) := by decide +kernel
theorem dX6_sins_76 : decode mX6_sins.2.1 76 = .ok (.iload_n 1, 1) := by decide +kernel
theorem dX6_sins_77 : decode mX6_sins.2.1 77 = .ok (.iload_n 3, 1) := by decide +kernel
theorem dX6_sins_78 : decode mX6_sins.2.1 78 = .ok (.iload_n 2, 1) := by decide +kernel
theorem dX6_sins_79 : decode mX6_sins.2.1 79 = .ok (.invokestatic 178, 3) := by decide +kernel
theorem dX6_sins_82 : decode mX6_sins.2.1 82 = .ok (.ior, 1) := by decide +kernel
theorem dX6_sins_83 : decode mX6_sins.2.1 83 = .ok (.invokevirtual 79, 3) := by decide +kernel
theorem dX6_sins_86 : decode mX6_sins.2.1 86 = .ok (.iload_n 3, 1) := by decide +kernel
theorem dX6_sins_87 : decode mX6_sins.2.1 87 = .ok (.invokestatic 181, 3) := by decide +kernel
theorem dX6_sins_90 : decode mX6_sins.2.1 90 = .ok (.iconst 1, 1) := by decide +kernel
theorem dX6_sins_91 : decode mX6_sins.2.1 91 = .ok (.iadd, 1) := by decide +kernel
theorem dX6_sins_92 : decode mX6_sins.2.1 92 = .ok (.ireturn, 1) := by decide +kernel
theorem dX6_oils_0 : decode mX6_oils.2.1 0 = .ok (.iload_n 1, 1) := by decide +kernel
theorem dX6_oils_1 : decode mX6_oils.2.1 1 = .ok (.iconst 0, 1) := by decide +kernel
theorem dX6_oils_2 : decode mX6_oils.2.1 2 = .ok (.bipush 9, 2) := by decide +kernel
theorem dX6_oils_4 : decode mX6_oils.2.1 4 = .ok (.invokestatic 71, 3) := by decide +kernel
theorem dX6_oils_7 : decode mX6_oils.2.1 7 = .ok (.ifCond .ne 5, 3) := by decide +kernel
theorem dX6_oils_10 : decode mX6_oils.2.1 10 = .ok (.iconst (-1), 1) := by decide +kernel
theorem dX6_oils_11 : decode mX6_oils.2.1 11 = .ok (.ireturn, 1) := by decide +kernel
theorem dX6_oils_12 : decode mX6_oils.2.1 12 = .ok (.aload_n 0, 1) := by decide +kernel
theorem dX6_oils_13 : decode mX6_oils.2.1 13 = .ok (.getfield 51, 3) := by decide +kernel
theorem dX6_oils_16 : decode mX6_oils.2.1 16 = .ok (.aload_n 0, 1) := by decide +kernel
theorem dX6_oils_17 : decode mX6_oils.2.1 17 = .ok (.getfield 40, 3) := by decide +kernel
theorem dX6_oils_20 : decode mX6_oils.2.1 20 = .ok (.invokevirtual 166, 3) := by decide +kernel
theorem dX6_oils_23 : decode mX6_oils.2.1 23 = .ok (.aload_n 0, 1) := by decide +kernel
theorem dX6_oils_24 : decode mX6_oils.2.1 24 = .ok (.getfield 40, 3) := by decide +kernel
theorem dX6_oils_27 : decode mX6_oils.2.1 27 = .ok (.getfield 153, 3) := by decide +kernel
theorem dX6_oils_30 : decode mX6_oils.2.1 30 = .ok (.istore_n 2, 1) := by decide +kernel
theorem dX6_oils_31 : decode mX6_oils.2.1 31 = .ok (.aload_n 0, 1) := by decide +kernel
theorem dX6_oils_32 : decode mX6_oils.2.1 32 = .ok (.getfield 40, 3) := by decide +kernel
theorem dX6_oils_35 : decode mX6_oils.2.1 35 = .ok (.iload_n 1, 1) := by decide +kernel
theorem dX6_oils_36 : decode mX6_oils.2.1 36 = .ok (.putfield 153, 3) := by decide +kernel
theorem dX6_oils_39 : decode mX6_oils.2.1 39 = .ok (.iload_n 2, 1) := by decide +kernel
theorem dX6_oils_40 : decode mX6_oils.2.1 40 = .ok (.ireturn, 1) := by decide +kernel
theorem dX6_year_0 : decode mX6_year.2.1 0 = .ok (.aload_n 0, 1) := by decide +kernel
theorem dX6_year_1 : decode mX6_year.2.1 1 = .ok (.getfield 40, 3) := by decide +kernel
theorem dX6_year_4 : decode mX6_year.2.1 4 = .ok (.getfield 153, 3) := by decide +kernel
theorem dX6_year_7 : decode mX6_year.2.1 7 = .ok (.bipush 9, 2) := by decide +kernel
theorem dX6_year_9 : decode mX6_year.2.1 9 = .ok (.if_icmp .lt 6, 3) := by decide +kernel
theorem dX6_year_12 : decode mX6_year.2.1 12 = .ok (.bipush (-2), 2) := by decide +kernel
theorem dX6_year_14 : decode mX6_year.2.1 14 = .ok (.ireturn, 1) := by decide +kernel
theorem dX6_year_15 : decode mX6_year.2.1 15 = .ok (.aload_n 0, 1) := by decide +kernel
theorem dX6_year_16 : decode mX6_year.2.1 16 = .ok (.getfield 51, 3) := by decide +kernel
theorem dX6_year_19 : decode mX6_year.2.1 19 = .ok (.aload_n 0, 1) := by decide +kernel
theorem dX6_year_20 : decode mX6_year.2.1 20 = .ok (.getfield 40, 3) := by decide +kernel
theorem dX6_year_23 : decode mX6_year.2.1 23 = .ok (.invokevirtual 166, 3) := by decide +kernel
theorem dX6_year_26 : decode mX6_year.2.1 26 = .ok (.aload_n 0, 1) := by decide +kernel
theorem dX6_year_27 : decode mX6_year.2.1 27 = .ok (.getfield 40, 3) := by decide +kernel
theorem dX6_year_30 : decode mX6_year.2.1 30 = .ok (.dup, 1) := by decide +kernel
theorem dX6_year_31 : decode mX6_year.2.1 31 = .ok (.getfield 153, 3) := by decide +kernel
theorem dX6_year_34 : decode mX6_year.2.1 34 = .ok (.iconst 1, 1) := by decide +kernel
theorem dX6_year_35 : decode mX6_year.2.1 35 = .ok (.iadd, 1) := by decide +kernel
theorem dX6_year_36 : decode mX6_year.2.1 36 = .ok (.putfield 153, 3) := by decide +kernel
theorem dX6_year_39 : decode mX6_year.2.1 39 = .ok (.aload_n 0, 1) := by decide +kernel
theorem dX6_year_40 : decode mX6_year.2.1 40 = .ok (.getfield 40, 3) := by decide +kernel
theorem dX6_year_43 : decode mX6_year.2.1 43 = .ok (.getfield 153, 3) := by decide +kernel
theorem dX6_year_46 : decode mX6_year.2.1 46 = .ok (.ireturn, 1) := by decide +kernel
theorem dX6_undo_0 : decode mX6_undo.2.1 0 = .ok (.aload_n 0, 1) := by decide +kernel
theorem dX6_undo_1 : decode mX6_undo.2.1 1 = .ok (.getfield 51, 3) := by decide +kernel
theorem dX6_undo_4 : decode mX6_undo.2.1 4 = .ok (.getfield 160, 3) := by decide +kernel
theorem dX6_undo_7 : decode mX6_undo.2.1 7 = .ok (.ifCond .ne 6, 3) := by decide +kernel
theorem dX6_undo_10 : decode mX6_undo.2.1 10 = .ok (.bipush (-2), 2) := by decide +kernel
theorem dX6_undo_12 : decode mX6_undo.2.1 12 = .ok (.ireturn, 1) := by decide +kernel
theorem dX6_undo_13 : decode mX6_undo.2.1 13 = .ok (.aload_n 0, 1) := by decide +kernel
theorem dX6_undo_14 : decode mX6_undo.2.1 14 = .ok (.getfield 51, 3) := by decide +kernel
theorem dX6_undo_17 : decode mX6_undo.2.1 17 = .ok (.aload_n 0, 1) := by decide +kernel
theorem dX6_undo_18 : decode mX6_undo.2.1 18 = .ok (.getfield 40, 3) := by decide +kernel
theorem dX6_undo_21 : decode mX6_undo.2.1 21 = .ok (.invokevirtual 186, 3) := by decide +kernel
theorem dX6_undo_24 : decode mX6_undo.2.1 24 = .ok (.aload_n 0, 1) := by decide +kernel
theorem dX6_undo_25 : decode mX6_undo.2.1 25 = .ok (.getfield 51, 3) := by decide +kernel
theorem dX6_undo_28 : decode mX6_undo.2.1 28 = .ok (.getfield 160, 3) := by decide +kernel
theorem dX6_undo_31 : decode mX6_undo.2.1 31 = .ok (.ireturn, 1) := by decide +kernel
theorem dX6_order_0 : decode mX6_order.2.1 0 = .ok (.iload_n 1, 1) := by decide +kernel
theorem dX6_order_1 : decode mX6_order.2.1 1 = .ok (.iconst (-1), 1) := by decide +kernel
theorem dX6_order_2 : decode mX6_order.2.1 2 = .ok (.iconst 5, 1) := by decide +kernel
theorem dX6_order_3 : decode mX6_order.2.1 3 = .ok (.invokestatic 71, 3) := by decide +kernel
theorem dX6_order_6 : decode mX6_order.2.1 6 = .ok (.ifCond .ne 5, 3) := by decide +kernel
theorem dX6_order_9 : decode mX6_order.2.1 9 = .ok (.iconst (-1), 1) := by decide +kernel
theorem dX6_order_10 : decode mX6_order.2.1 10 = .ok (.ireturn, 1) := by decide +kernel
theorem dX6_order_11 : decode mX6_order.2.1 11 = .ok (.iconst 0, 1) := by decide +kernel
theorem dX6_order_12 : decode mX6_order.2.1 12 = .ok (.istore_n 2, 1) := by decide +kernel
theorem dX6_order_13 : decode mX6_order.2.1 13 = .ok (.iload_n 2, 1) := by decide +kernel
theorem dX6_order_14 : decode mX6_order.2.1 14 = .ok (.aload_n 0, 1) := by decide +kernel
theorem dX6_order_15 : decode mX6_order.2.1 15 = .ok (.getfield 30, 3) := by decide +kernel
theorem dX6_order_18 : decode mX6_order.2.1 18 = .ok (.getfield 189, 3) := by decide +kernel
theorem dX6_order_21 : decode mX6_order.2.1 21 = .ok (.if_icmp .ge 22, 3) := by decide +kernel
theorem dX6_order_24 : decode mX6_order.2.1 24 = .ok (.aload_n 0, 1) := by decide +kernel
theorem dX6_order_25 : decode mX6_order.2.1 25 = .ok (.getfield 55, 3) := by decide +kernel
theorem dX6_order_28 : decode mX6_order.2.1 28 = .ok (.iload_n 2, 1) := by decide +kernel
theorem dX6_order_29 : decode mX6_order.2.1 29 = .ok (.aload_n 0, 1) := by decide +kernel
theorem dX6_order_30 : decode mX6_order.2.1 30 = .ok (.iload_n 2, 1) := by decide +kernel
theorem dX6_order_31 : decode mX6_order.2.1 31 = .ok (.invokevirtual 192, 3) := by decide +kernel
theorem dX6_order_34 : decode mX6_order.2.1 34 = .ok (.invokevirtual 79, 3) := by decide +kernel
theorem dX6_order_37 : decode mX6_order.2.1 37 = .ok (.iinc 2 1, 3) := by decide +kernel
theorem dX6_order_40 : decode mX6_order.2.1 40 = .ok (.goto (-27), 3) := by decide +kernel
theorem dX6_order_43 : decode mX6_order.2.1 43 = .ok (.aload_n 0, 1) := by decide +kernel
theorem dX6_order_44 : decode mX6_order.2.1 44 = .ok (.getfield 30, 3) := by decide +kernel
theorem dX6_order_47 : decode mX6_order.2.1 47 = .ok (.getfield 189, 3) := by decide +kernel
theorem dX6_order_50 : decode mX6_order.2.1 50 = .ok (.invokestatic 195, 3) := by decide +kernel
theorem dX6_order_53 : decode mX6_order.2.1 53 = .ok (.aload_n 0, 1) := by decide +kernel
theorem dX6_order_54 : decode mX6_order.2.1 54 = .ok (.invokevirtual 156, 3) := by decide +kernel
theorem dX6_order_57 : decode mX6_order.2.1 57 = .ok (.iconst (-1), 1) := by decide +kernel
theorem dX6_order_58 : decode mX6_order.2.1 58 = .ok (.ixor, 1) := by decide +kernel
theorem dX6_order_59 : decode mX6_order.2.1 59 = .ok (.iand, 1) := by decide +kernel
theorem dX6_order_60 : decode mX6_order.2.1 60 = .ok (.istore_n 2, 1) := by decide +kernel
theorem dX6_order_61 : decode mX6_order.2.1 61 = .ok (.iload_n 1, 1) := by decide +kernel
theorem dX6_order_62 : decode mX6_order.2.1 62 = .ok (.ifCond .ge 24, 3) := by decide +kernel
theorem dX6_order_65 : decode mX6_order.2.1 65 = .ok (.aload_n 0, 1) := by decide +kernel
theorem dX6_order_66 : decode mX6_order.2.1 66 = .ok (.iload_n 2, 1) := by decide +kernel
theorem dX6_order_67 : decode mX6_order.2.1 67 = .ok (.aload_n 0, 1) := by decide +kernel
theorem dX6_order_68 : decode mX6_order.2.1 68 = .ok (.getfield 40, 3) := by decide +kernel
theorem dX6_order_71 : decode mX6_order.2.1 71 = .ok (.getfield 147, 3) := by decide +kernel
theorem dX6_order_74 : decode mX6_order.2.1 74 = .ok (.aload_n 0, 1) := by decide +kernel
theorem dX6_order_75 : decode mX6_order.2.1 75 = .ok (.getfield 40, 3) := by decide +kernel
theorem dX6_order_78 : decode mX6_order.2.1 78 = .ok (.getfield 150, 3) := by decide +kernel
theorem dX6_order_81 : decode mX6_order.2.1 81 = .ok (.iconst 0, 1) := by decide +kernel
theorem dX6_order_82 : decode mX6_order.2.1 82 = .ok (.invokevirtual 198, 3) := by decide +kernel
theorem dX6_order_85 : decode mX6_order.2.1 85 = .ok (.ireturn, 1) := by decide +kernel
theorem dX6_order_86 : decode mX6_order.2.1 86 = .ok (.aload_n 0, 1) := by decide +kernel
theorem dX6_order_87 : decode mX6_order.2.1 87 = .ok (.iload_n 1, 1) := by decide +kernel
theorem dX6_order_88 : decode mX6_order.2.1 88 = .ok (.iload_n 2, 1) := by decide +kernel
theorem dX6_order_89 : decode mX6_order.2.1 89 = .ok (.invokevirtual 202, 3) := by decide +kernel
theorem dX6_order_92 : decode mX6_order.2.1 92 = .ok (.ireturn, 1) := by decide +kernel
theorem dX6_tells_0 : decode mX6_tells.2.1 0 = .ok (.iload_n 1, 1) := by decide +kernel
theorem dX6_tells_1 : decode mX6_tells.2.1 1 = .ok (.iconst 1, 1) := by decide +kernel
theorem dX6_tells_2 : decode mX6_tells.2.1 2 = .ok (.bipush 40, 2) := by decide +kernel
theorem dX6_tells_4 : decode mX6_tells.2.1 4 = .ok (.invokestatic 71, 3) := by decide +kernel
theorem dX6_tells_7 : decode mX6_tells.2.1 7 = .ok (.ifCond .eq 13, 3) := by decide +kernel
theorem dX6_tells_10 : decode mX6_tells.2.1 10 = .ok (.iload_n 2, 1) := by decide +kernel
theorem dX6_tells_11 : decode mX6_tells.2.1 11 = .ok (.iconst 0, 1) := by decide +kernel
theorem dX6_tells_12 : decode mX6_tells.2.1 12 = .ok (.bipush 99, 2) := by decide +kernel
theorem dX6_tells_14 : decode mX6_tells.2.1 14 = .ok (.invokestatic 71, 3) := by decide +kernel
theorem dX6_tells_17 : decode mX6_tells.2.1 17 = .ok (.ifCond .ne 5, 3) := by decide +kernel
theorem dX6_tells_20 : decode mX6_tells.2.1 20 = .ok (.iconst (-1), 1) := by decide +kernel
theorem dX6_tells_21 : decode mX6_tells.2.1 21 = .ok (.ireturn, 1) := by decide +kernel
theorem dX6_tells_22 : decode mX6_tells.2.1 22 = .ok (.aload_n 0, 1) := by decide +kernel
theorem dX6_tells_23 : decode mX6_tells.2.1 23 = .ok (.getfield 93, 3) := by decide +kernel
theorem dX6_tells_26 : decode mX6_tells.2.1 26 = .ok (.bipush 6, 2) := by decide +kernel
theorem dX6_tells_28 : decode mX6_tells.2.1 28 = .ok (.if_icmp .lt 6, 3) := by decide +kernel
theorem dX6_tells_31 : decode mX6_tells.2.1 31 = .ok (.bipush (-3), 2) := by decide +kernel
theorem dX6_tells_33 : decode mX6_tells.2.1 33 = .ok (.ireturn, 1) := by decide +kernel
theorem dX6_tells_34 : decode mX6_tells.2.1 34 = .ok (.aload_n 0, 1) := by decide +kernel
theorem dX6_tells_35 : decode mX6_tells.2.1 35 = .ok (.getfield 65, 3) := by decide +kernel
theorem dX6_tells_38 : decode mX6_tells.2.1 38 = .ok (.aload_n 0, 1) := by decide +kernel
theorem dX6_tells_39 : decode mX6_tells.2.1 39 = .ok (.getfield 93, 3) := by decide +kernel
theorem dX6_tells_42 : decode mX6_tells.2.1 42 = .ok (.iload_n 1, 1) := by decide +kernel
theorem dX6_tells_43 : decode mX6_tells.2.1 43 = .ok (.invokevirtual 79, 3) := by decide +kernel
theorem dX6_tells_46 : decode mX6_tells.2.1 46 = .ok (.aload_n 0, 1) := by decide +kernel
theorem dX6_tells_47 : decode mX6_tells.2.1 47 = .ok (.getfield 68, 3) := by decide +kernel
theorem dX6_tells_50 : decode mX6_tells.2.1 50 = .ok (.aload_n 0, 1) := by decide +kernel
theorem dX6_tells_51 : decode mX6_tells.2.1 51 = .ok (.getfield 93, 3) := by decide +kernel
theorem dX6_tells_54 : decode mX6_tells.2.1 54 = .ok (.iload_n 2, 1) := by decide +kernel
theorem dX6_tells_55 : decode mX6_tells.2.1 55 = .ok (.invokevirtual 79, 3) := by decide +kernel
theorem dX6_tells_58 : decode mX6_tells.2.1 58 = .ok (.aload_n 0, 1) := by decide +kernel
theorem dX6_tells_59 : decode mX6_tells.2.1 59 = .ok (.dup, 1) := by decide +kernel
theorem dX6_tells_60 : decode mX6_tells.2.1 60 = .ok (.getfield 93, 3) := by decide +kernel
theorem dX6_tells_63 : decode mX6_tells.2.1 63 = .ok (.iconst 1, 1) := by decide +kernel
theorem dX6_tells_64 : decode mX6_tells.2.1 64 = .ok (.iadd, 1) := by decide +kernel
theorem dX6_tells_65 : decode mX6_tells.2.1 65 = .ok (.putfield 93, 3) := by decide +kernel
theorem dX6_tells_68 : decode mX6_tells.2.1 68 = .ok (.aload_n 0, 1) := by decide +kernel
theorem dX6_tells_69 : decode mX6_tells.2.1 69 = .ok (.getfield 93, 3) := by decide +kernel
theorem dX6_tells_72 : decode mX6_tells.2.1 72 = .ok (.ireturn, 1) := by decide +kernel
theorem dX6_forget_0 : decode mX6_forget.2.1 0 = .ok (.aload_n 0, 1) := by decide +kernel
theorem dX6_forget_1 : decode mX6_forget.2.1 1 = .ok (.getfield 93, 3) := by decide +kernel
theorem dX6_forget_4 : decode mX6_forget.2.1 4 = .ok (.istore_n 1, 1) := by decide +kernel
theorem dX6_forget_5 : decode mX6_forget.2.1 5 = .ok (.aload_n 0, 1) := by decide +kernel
theorem dX6_forget_6 : decode mX6_forget.2.1 6 = .ok (.iconst 0, 1) := by decide +kernel
theorem dX6_forget_7 : decode mX6_forget.2.1 7 = .ok (.putfield 93, 3) := by decide +kernel
theorem dX6_forget_10 : decode mX6_forget.2.1 10 = .ok (.iload_n 1, 1) := by decide +kernel
theorem dX6_forget_11 : decode mX6_forget.2.1 11 = .ok (.ireturn, 1) := by decide +kernel
theorem dX6_can_0 : decode mX6_can.2.1 0 = .ok (.iload_n 1, 1) := by decide +kernel
theorem dX6_can_1 : decode mX6_can.2.1 1 = .ok (.tableswitch 43 0 2 #[27, 33, 38], 27) := by decide +kernel
theorem dX6_can_28 : decode mX6_can.2.1 28 = .ok (.aload_n 0, 1) := by decide +kernel
theorem dX6_can_29 : decode mX6_can.2.1 29 = .ok (.iconst 0, 1) := by decide +kernel
theorem dX6_can_30 : decode mX6_can.2.1 30 = .ok (.invokevirtual 205, 3) := by decide +kernel
theorem dX6_can_33 : decode mX6_can.2.1 33 = .ok (.ireturn, 1) := by decide +kernel
theorem dX6_can_34 : decode mX6_can.2.1 34 = .ok (.aload_n 0, 1) := by decide +kernel
theorem dX6_can_35 : decode mX6_can.2.1 35 = .ok (.invokevirtual 208, 3) := by decide +kernel
theorem dX6_can_38 : decode mX6_can.2.1 38 = .ok (.ireturn, 1) := by decide +kernel
theorem dX6_can_39 : decode mX6_can.2.1 39 = .ok (.aload_n 0, 1) := by decide +kernel
theorem dX6_can_40 : decode mX6_can.2.1 40 = .ok (.invokevirtual 211, 3) := by decide +kernel
theorem dX6_can_43 : decode mX6_can.2.1 43 = .ok (.ireturn, 1) := by decide +kernel
theorem dX6_can_44 : decode mX6_can.2.1 44 = .ok (.iconst (-1), 1) := by decide +kernel
theorem dX6_can_45 : decode mX6_can.2.1 45 = .ok (.ireturn, 1) := by decide +kernel
theorem dX6_ask_0 : decode mX6_ask.2.1 0 = .ok (.aload_n 0, 1) := by decide +kernel
theorem dX6_ask_1 : decode mX6_ask.2.1 1 = .ok (.iconst 0, 1) := by decide +kernel
theorem dX6_ask_2 : decode mX6_ask.2.1 2 = .ok (.invokevirtual 205, 3) := by decide +kernel
theorem dX6_ask_5 : decode mX6_ask.2.1 5 = .ok (.istore_n 1, 1) := by decide +kernel
theorem dX6_ask_6 : decode mX6_ask.2.1 6 = .ok (.iload_n 1, 1) := by decide +kernel
theorem dX6_ask_7 : decode mX6_ask.2.1 7 = .ok (.iconst 1, 1) := by decide +kernel
theorem dX6_ask_8 : decode mX6_ask.2.1 8 = .ok (.if_icmp .gt 6, 3) := by decide +kernel
theorem dX6_ask_11 : decode mX6_ask.2.1 11 = .ok (.bipush (-9), 2) := by decide +kernel
theorem dX6_ask_13 : decode mX6_ask.2.1 13 = .ok (.ireturn, 1) := by decide +kernel
theorem dX6_ask_14 : decode mX6_ask.2.1 14 = .ok (.bipush (-9), 2) := by decide +kernel
theorem dX6_ask_16 : decode mX6_ask.2.1 16 = .ok (.istore_n 2, 1) := by decide +kernel
theorem dX6_ask_17 : decode mX6_ask.2.1 17 = .ok (.iload_n 1, 1) := by decide +kernel
theorem dX6_ask_18 : decode mX6_ask.2.1 18 = .ok (.iconst 1, 1) := by decide +kernel
theorem dX6_ask_19 : decode mX6_ask.2.1 19 = .ok (.iadd, 1) := by decide +kernel
theorem dX6_ask_20 : decode mX6_ask.2.1 20 = .ok (.istore_n 3, 1) := by decide +kernel
theorem dX6_ask_21 : decode mX6_ask.2.1 21 = .ok (.iconst 0, 1) := by decide +kernel
theorem dX6_ask_22 : decode mX6_ask.2.1 22 = .ok (.istore 4, 2) := by decide +kernel
theorem dX6_ask_24 : decode mX6_ask.2.1 24 = .ok (.iload 4, 2) := by decide +kernel
theorem dX6_ask_26 : decode mX6_ask.2.1 26 = .ok (.aload_n 0, 1) := by decide +kernel
theorem dX6_ask_27 : decode mX6_ask.2.1 27 = .ok (.getfield 30, 3) := by decide +kernel
theorem dX6_ask_30 : decode mX6_ask.2.1 30 = .ok (.getfield 214, 3) := by decide +kernel
theorem dX6_ask_33 : decode mX6_ask.2.1 33 = .ok (.if_icmp .ge 43, 3) := by decide +kernel
theorem dX6_ask_36 : decode mX6_ask.2.1 36 = .ok (.aload_n 0, 1) := by decide +kernel
theorem dX6_ask_37 : decode mX6_ask.2.1 37 = .ok (.iload 4, 2) := by decide +kernel
theorem dX6_ask_39 : decode mX6_ask.2.1 39 = .ok (.invokestatic 178, 3) := by decide +kernel
theorem dX6_ask_42 : decode mX6_ask.2.1 42 = .ok (.invokevirtual 205, 3) := by decide +kernel
theorem dX6_ask_45 : decode mX6_ask.2.1 45 = .ok (.istore 5, 2) := by decide +kernel
theorem dX6_ask_47 : decode mX6_ask.2.1 47 = .ok (.iload 5, 2) := by decide +kernel
theorem dX6_ask_49 : decode mX6_ask.2.1 49 = .ok (.iload_n 1, 1) := by decide +kernel
theorem dX6_ask_50 : decode mX6_ask.2.1 50 = .ok (.iload 5, 2) := by decide +kernel
theorem dX6_ask_52 : decode mX6_ask.2.1 52 = .ok (.isub, 1) := by decide +kernel
theorem dX6_ask_53 : decode mX6_ask.2.1 53 = .ok (.invokestatic 217, 3) := by decide +kernel
theorem dX6_ask_56 : decode mX6_ask.2.1 56 = .ok (.istore 6, 2) := by decide +kernel
theorem dX6_ask_58 : decode mX6_ask.2.1 58 = .ok (.iload 6, 2) := by decide +kernel
theorem dX6_ask_60 : decode mX6_ask.2.1 60 = .ok (.iload_n 3, 1) := by decide +kernel
theorem dX6_ask_61 : decode mX6_ask.2.1 61 = .ok (.if_icmp .ge 9, 3) := by decide +kernel
theorem dX6_ask_64 : decode mX6_ask.2.1 64 = .ok (.iload 6, 2) := by decide +kernel
theorem dX6_ask_66 : decode mX6_ask.2.1 66 = .ok (.istore_n 3, 1) := by decide +kernel
theorem dX6_ask_67 : decode mX6_ask.2.1 67 = .ok (.iload 4, 2) := by decide +kernel
theorem dX6_ask_69 : decode mX6_ask.2.1 69 = .ok (.istore_n 2, 1) := by decide +kernel
theorem dX6_ask_70 : decode mX6_ask.2.1 70 = .ok (.iinc 4 1, 3) := by decide +kernel
theorem dX6_ask_73 : decode mX6_ask.2.1 73 = .ok (.goto (-49), 3) := by decide +kernel
theorem dX6_ask_76 : decode mX6_ask.2.1 76 = .ok (.iload_n 2, 1) := by decide +kernel
theorem dX6_ask_77 : decode mX6_ask.2.1 77 = .ok (.ireturn, 1) := by decide +kernel
theorem dX6_life_0 : decode mX6_life.2.1 0 = .ok (.aload_n 0, 1) := by decide +kernel
theorem dX6_life_1 : decode mX6_life.2.1 1 = .ok (.getfield 30, 3) := by decide +kernel
theorem dX6_life_4 : decode mX6_life.2.1 4 = .ok (.iload_n 1, 1) := by decide +kernel
theorem dX6_life_5 : decode mX6_life.2.1 5 = .ok (.invokevirtual 114, 3) := by decide +kernel
theorem dX6_life_8 : decode mX6_life.2.1 8 = .ok (.ifCond .eq 14, 3) := by decide +kernel
theorem dX6_life_11 : decode mX6_life.2.1 11 = .ok (.iload_n 2, 1) := by decide +kernel
theorem dX6_life_12 : decode mX6_life.2.1 12 = .ok (.bipush (-99), 2) := by decide +kernel
theorem dX6_life_14 : decode mX6_life.2.1 14 = .ok (.bipush 99, 2) := by decide +kernel
theorem dX6_life_16 : decode mX6_life.2.1 16 = .ok (.invokestatic 71, 3) := by decide +kernel
theorem dX6_life_19 : decode mX6_life.2.1 19 = .ok (.ifCond .ne 5, 3) := by decide +kernel
theorem dX6_life_22 : decode mX6_life.2.1 22 = .ok (.iconst (-1), 1) := by decide +kernel
theorem dX6_life_23 : decode mX6_life.2.1 23 = .ok (.ireturn, 1) := by decide +kernel
theorem dX6_life_24 : decode mX6_life.2.1 24 = .ok (.aload_n 0, 1) := by decide +kernel
theorem dX6_life_25 : decode mX6_life.2.1 25 = .ok (.getfield 40, 3) := by decide +kernel
theorem dX6_life_28 : decode mX6_life.2.1 28 = .ok (.getfield 123, 3) := by decide +kernel
theorem dX6_life_31 : decode mX6_life.2.1 31 = .ok (.iload_n 1, 1) := by decide +kernel
theorem dX6_life_32 : decode mX6_life.2.1 32 = .ok (.invokevirtual 107, 3) := by decide +kernel
theorem dX6_life_35 : decode mX6_life.2.1 35 = .ok (.istore_n 3, 1) := by decide +kernel
theorem dX6_life_36 : decode mX6_life.2.1 36 = .ok (.bipush (-9), 2) := by decide +kernel
theorem dX6_life_38 : decode mX6_life.2.1 38 = .ok (.istore 4, 2) := by decide +kernel
theorem dX6_life_40 : decode mX6_life.2.1 40 = .ok (.bipush 7, 2) := by decide +kernel
theorem dX6_life_42 : decode mX6_life.2.1 42 = .ok (.istore 5, 2) := by decide +kernel
theorem dX6_life_44 : decode mX6_life.2.1 44 = .ok (.iconst 0, 1) := by decide +kernel
theorem dX6_life_45 : decode mX6_life.2.1 45 = .ok (.istore 6, 2) := by decide +kernel
theorem dX6_life_47 : decode mX6_life.2.1 47 = .ok (.iload 6, 2) := by decide +kernel
theorem dX6_life_49 : decode mX6_life.2.1 49 = .ok (.aload_n 0, 1) := by decide +kernel
theorem dX6_life_50 : decode mX6_life.2.1 50 = .ok (.getfield 30, 3) := by decide +kernel
theorem dX6_life_53 : decode mX6_life.2.1 53 = .ok (.getfield 214, 3) := by decide +kernel
theorem dX6_life_56 : decode mX6_life.2.1 56 = .ok (.invokestatic 195, 3) := by decide +kernel
theorem dX6_life_59 : decode mX6_life.2.1 59 = .ok (.if_icmp .gt 67, 3) := by decide +kernel
theorem dX6_life_62 : decode mX6_life.2.1 62 = .ok (.iload 6, 2) := by decide +kernel
theorem dX6_life_64 : decode mX6_life.2.1 64 = .ok (.iload_n 3, 1) := by decide +kernel
theorem dX6_life_65 : decode mX6_life.2.1 65 = .ok (.iand, 1) := by decide +kernel
theorem dX6_life_66 : decode mX6_life.2.1 66 = .ok (.ifCond .ne 25, 3) := by decide +kernel
theorem dX6_life_69 : decode mX6_life.2.1 69 = .ok (.aload_n 0, 1) := by decide +kernel
theorem dX6_life_70 : decode mX6_life.2.1 70 = .ok (.getfield 30, 3) := by decide +kernel
theorem dX6_life_73 : decode mX6_life.2.1 73 = .ok (.getfield 104, 3) := by decide +kernel
theorem dX6_life_76 : decode mX6_life.2.1 76 = .ok (.iload 6, 2) := by decide +kernel
theorem dX6_life_78 : decode mX6_life.2.1 78 = .ok (.iload_n 3, 1) := by decide +kernel
theorem dX6_life_79 : decode mX6_life.2.1 79 = .ok (.ior, 1) := by decide +kernel
theorem dX6_life_80 : decode mX6_life.2.1 80 = .ok (.invokevirtual 126, 3) := by decide +kernel
theorem dX6_life_83 : decode mX6_life.2.1 83 = .ok (.iload_n 2, 1) := by decide +kernel
theorem dX6_life_84 : decode mX6_life.2.1 84 = .ok (.if_icmp .gt 7, 3) := by decide +kernel
theorem dX6_life_87 : decode mX6_life.2.1 87 = .ok (.iconst 1, 1) := by decide +kernel
theorem dX6_life_88 : decode mX6_life.2.1 88 = .ok (.goto 4, 3) := by decide +kernel
theorem dX6_life_91 : decode mX6_life.2.1 91 = .ok (.iconst 0, 1) := by decide +kernel
theorem dX6_life_92 : decode mX6_life.2.1 92 = .ok (.istore 7, 2) := by decide +kernel
theorem dX6_life_94 : decode mX6_life.2.1 94 = .ok (.iload 7, 2) := by decide +kernel
theorem dX6_life_96 : decode mX6_life.2.1 96 = .ok (.ifCond .eq 24, 3) := by decide +kernel
theorem dX6_life_99 : decode mX6_life.2.1 99 = .ok (.iload 6, 2) := by decide +kernel
theorem dX6_life_101 : decode mX6_life.2.1 101 = .ok (.invokestatic 181, 3) := by decide +kernel
theorem dX6_life_104 : decode mX6_life.2.1 104 = .ok (.iload 5, 2) := by decide +kernel
theorem dX6_life_106 : decode mX6_life.2.1 106 = .ok (.if_icmp .ge 14, 3) := by decide +kernel
theorem dX6_life_109 : decode mX6_life.2.1 109 = .ok (.iload 6, 2) := by decide +kernel
theorem dX6_life_111 : decode mX6_life.2.1 111 = .ok (.invokestatic 181, 3) := by decide +kernel
theorem dX6_life_114 : decode mX6_life.2.1 114 = .ok (.istore 5, 2) := by decide +kernel
theorem dX6_life_116 : decode mX6_life.2.1 116 = .ok (.iload 6, 2) := by decide +kernel
theorem dX6_life_118 : decode mX6_life.2.1 118 = .ok (.istore 4, 2) := by decide +kernel
theorem dX6_life_120 : decode mX6_life.2.1 120 = .ok (.iinc 6 1, 3) := by decide +kernel
theorem dX6_life_123 : decode mX6_life.2.1 123 = .ok (.goto (-76), 3) := by decide +kernel
theorem dX6_life_126 : decode mX6_life.2.1 126 = .ok (.iload 4, 2) := by decide +kernel
theorem dX6_life_128 : decode mX6_life.2.1 128 = .ok (.ireturn, 1) := by decide +kernel
theorem dX6_carry_0 : decode mX6_carry.2.1 0 = .ok (.iload_n 1, 1) := by decide +kernel
theorem dX6_carry_1 : decode mX6_carry.2.1 1 = .ok (.iconst 1, 1) := by decide +kernel
theorem dX6_carry_2 : decode mX6_carry.2.1 2 = .ok (.sipush 240, 3) := by decide +kernel
theorem dX6_carry_5 : decode mX6_carry.2.1 5 = .ok (.invokestatic 71, 3) := by decide +kernel
theorem dX6_carry_8 : decode mX6_carry.2.1 8 = .ok (.ifCond .eq 12, 3) := by decide +kernel
theorem dX6_carry_11 : decode mX6_carry.2.1 11 = .ok (.iload_n 2, 1) := by decide +kernel
theorem dX6_carry_12 : decode mX6_carry.2.1 12 = .ok (.iconst 0, 1) := by decide +kernel
theorem dX6_carry_13 : decode mX6_carry.2.1 13 = .ok (.iconst 2, 1) := by decide +kernel
theorem dX6_carry_14 : decode mX6_carry.2.1 14 = .ok (.invokestatic 71, 3) := by decide +kernel
theorem dX6_carry_17 : decode mX6_carry.2.1 17 = .ok (.ifCond .ne 5, 3) := by decide +kernel
theorem dX6_carry_20 : decode mX6_carry.2.1 20 = .ok (.iconst (-1), 1) := by decide +kernel
theorem dX6_carry_21 : decode mX6_carry.2.1 21 = .ok (.ireturn, 1) := by decide +kernel
theorem dX6_carry_22 : decode mX6_carry.2.1 22 = .ok (.aload_n 0, 1) := by decide +kernel
theorem dX6_carry_23 : decode mX6_carry.2.1 23 = .ok (.iload_n 1, 1) := by decide +kernel
theorem dX6_carry_24 : decode mX6_carry.2.1 24 = .ok (.invokevirtual 222, 3) := by decide +kernel
theorem dX6_carry_27 : decode mX6_carry.2.1 27 = .ok (.istore_n 3, 1) := by decide +kernel
theorem dX6_carry_28 : decode mX6_carry.2.1 28 = .ok (.iload_n 3, 1) := by decide +kernel
theorem dX6_carry_29 : decode mX6_carry.2.1 29 = .ok (.bipush (-9), 2) := by decide +kernel
theorem dX6_carry_31 : decode mX6_carry.2.1 31 = .ok (.if_icmp .ne 6, 3) := by decide +kernel
theorem dX6_carry_34 : decode mX6_carry.2.1 34 = .ok (.bipush (-9), 2) := by decide +kernel
theorem dX6_carry_36 : decode mX6_carry.2.1 36 = .ok (.ireturn, 1) := by decide +kernel
theorem dX6_carry_37 : decode mX6_carry.2.1 37 = .ok (.iload_n 2, 1) := by decide +kernel
theorem dX6_carry_38 : decode mX6_carry.2.1 38 = .ok (.lookupswitch 36 #[(0, 26), (1, 31)], 26) := by decide +kernel
theorem dX6_carry_64 : decode mX6_carry.2.1 64 = .ok (.iload_n 3, 1) := by decide +kernel
theorem dX6_carry_65 : decode mX6_carry.2.1 65 = .ok (.invokestatic 225, 3) := by decide +kernel
theorem dX6_carry_68 : decode mX6_carry.2.1 68 = .ok (.ireturn, 1) := by decide +kernel
theorem dX6_carry_69 : decode mX6_carry.2.1 69 = .ok (.iload_n 3, 1) := by decide +kernel
theorem dX6_carry_70 : decode mX6_carry.2.1 70 = .ok (.invokestatic 228, 3) := by decide +kernel
theorem dX6_carry_73 : decode mX6_carry.2.1 73 = .ok (.ireturn, 1) := by decide +kernel
theorem dX6_carry_74 : decode mX6_carry.2.1 74 = .ok (.aload_n 0, 1) := by decide +kernel
theorem dX6_carry_75 : decode mX6_carry.2.1 75 = .ok (.iload_n 3, 1) := by decide +kernel
theorem dX6_carry_76 : decode mX6_carry.2.1 76 = .ok (.invokevirtual 231, 3) := by decide +kernel
theorem dX6_carry_79 : decode mX6_carry.2.1 79 = .ok (.ireturn, 1) := by decide +kernel
theorem dX6_odds_0 : decode mX6_odds.2.1 0 = .ok (.iload_n 1, 1) := by decide +kernel
theorem dX6_odds_1 : decode mX6_odds.2.1 1 = .ok (.iconst 0, 1) := by decide +kernel
theorem dX6_odds_2 : decode mX6_odds.2.1 2 = .ok (.bipush 10, 2) := by decide +kernel
theorem dX6_odds_4 : decode mX6_odds.2.1 4 = .ok (.invokestatic 71, 3) := by decide +kernel
theorem dX6_odds_7 : decode mX6_odds.2.1 7 = .ok (.ifCond .eq 22, 3) := by decide +kernel
theorem dX6_odds_10 : decode mX6_odds.2.1 10 = .ok (.iload_n 2, 1) := by decide +kernel
theorem dX6_odds_11 : decode mX6_odds.2.1 11 = .ok (.iconst 0, 1) := by decide +kernel
theorem dX6_odds_12 : decode mX6_odds.2.1 12 = .ok (.bipush 6, 2) := by decide +kernel
theorem dX6_odds_14 : decode mX6_odds.2.1 14 = .ok (.invokestatic 71, 3) := by decide +kernel
theorem dX6_odds_17 : decode mX6_odds.2.1 17 = .ok (.ifCond .eq 12, 3) := by decide +kernel
theorem dX6_odds_20 : decode mX6_odds.2.1 20 = .ok (.iload_n 3, 1) := by decide +kernel
theorem dX6_odds_21 : decode mX6_odds.2.1 21 = .ok (.iconst 0, 1) := by decide +kernel
theorem dX6_odds_22 : decode mX6_odds.2.1 22 = .ok (.iconst 1, 1) := by decide +kernel
theorem dX6_odds_23 : decode mX6_odds.2.1 23 = .ok (.invokestatic 71, 3) := by decide +kernel
theorem dX6_odds_26 : decode mX6_odds.2.1 26 = .ok (.ifCond .ne 5, 3) := by decide +kernel
theorem dX6_odds_29 : decode mX6_odds.2.1 29 = .ok (.iconst (-1), 1) := by decide +kernel
theorem dX6_odds_30 : decode mX6_odds.2.1 30 = .ok (.ireturn, 1) := by decide +kernel
theorem dX6_odds_31 : decode mX6_odds.2.1 31 = .ok (.aload_n 0, 1) := by decide +kernel
theorem dX6_odds_32 : decode mX6_odds.2.1 32 = .ok (.iload_n 1, 1) := by decide +kernel
theorem dX6_odds_33 : decode mX6_odds.2.1 33 = .ok (.iload_n 2, 1) := by decide +kernel
theorem dX6_odds_34 : decode mX6_odds.2.1 34 = .ok (.invokevirtual 234, 3) := by decide +kernel
theorem dX6_odds_37 : decode mX6_odds.2.1 37 = .ok (.istore 4, 2) := by decide +kernel
theorem dX6_odds_39 : decode mX6_odds.2.1 39 = .ok (.bipush 10, 2) := by decide +kernel
theorem dX6_odds_41 : decode mX6_odds.2.1 41 = .ok (.aload_n 0, 1) := by decide +kernel
theorem dX6_odds_42 : decode mX6_odds.2.1 42 = .ok (.getfield 30, 3) := by decide +kernel
theorem dX6_odds_45 : decode mX6_odds.2.1 45 = .ok (.getfield 237, 3) := by decide +kernel
theorem dX6_odds_48 : decode mX6_odds.2.1 48 = .ok (.invokestatic 240, 3) := by decide +kernel
theorem dX6_odds_51 : decode mX6_odds.2.1 51 = .ok (.istore 5, 2) := by decide +kernel
theorem dX6_odds_53 : decode mX6_odds.2.1 53 = .ok (.iload 4, 2) := by decide +kernel
theorem dX6_odds_55 : decode mX6_odds.2.1 55 = .ok (.iload 5, 2) := by decide +kernel
theorem dX6_odds_57 : decode mX6_odds.2.1 57 = .ok (.invokestatic 243, 3) := by decide +kernel
theorem dX6_odds_60 : decode mX6_odds.2.1 60 = .ok (.istore 6, 2) := by decide +kernel
theorem dX6_odds_62 : decode mX6_odds.2.1 62 = .ok (.iload_n 3, 1) := by decide +kernel
theorem dX6_odds_63 : decode mX6_odds.2.1 63 = .ok (.ifCond .ne 8, 3) := by decide +kernel
theorem dX6_odds_66 : decode mX6_odds.2.1 66 = .ok (.iload 4, 2) := by decide +kernel
theorem dX6_odds_68 : decode mX6_odds.2.1 68 = .ok (.goto 5, 3) := by decide +kernel
theorem dX6_odds_71 : decode mX6_odds.2.1 71 = .ok (.iload 5, 2) := by decide +kernel
theorem dX6_odds_73 : decode mX6_odds.2.1 73 = .ok (.iload 6, 2) := by decide +kernel
theorem dX6_odds_75 : decode mX6_odds.2.1 75 = .ok (.idiv, 1) := by decide +kernel
theorem dX6_odds_76 : decode mX6_odds.2.1 76 = .ok (.ireturn, 1) := by decide +kernel
theorem dX6_rate_0 : decode mX6_rate.2.1 0 = .ok (.aload_n 0, 1) := by decide +kernel
theorem dX6_rate_1 : decode mX6_rate.2.1 1 = .ok (.getfield 30, 3) := by decide +kernel
theorem dX6_rate_4 : decode mX6_rate.2.1 4 = .ok (.iload_n 2, 1) := by decide +kernel
theorem dX6_rate_5 : decode mX6_rate.2.1 5 = .ok (.invokevirtual 99, 3) := by decide +kernel
theorem dX6_rate_8 : decode mX6_rate.2.1 8 = .ok (.ifCond .ne 6, 3) := by decide +kernel
theorem dX6_rate_11 : decode mX6_rate.2.1 11 = .ok (.ldc 103, 2) := by decide +kernel
theorem dX6_rate_13 : decode mX6_rate.2.1 13 = .ok (.ireturn, 1) := by decide +kernel
theorem dX6_rate_14 : decode mX6_rate.2.1 14 = .ok (.iload_n 1, 1) := by decide +kernel
theorem dX6_rate_15 : decode mX6_rate.2.1 15 = .ok (.tableswitch 73 0 5 #[37, 43, 49, 55, 61, 67], 37) := by decide +kernel
theorem dX6_rate_52 : decode mX6_rate.2.1 52 = .ok (.aload_n 0, 1) := by decide +kernel
theorem dX6_rate_53 : decode mX6_rate.2.1 53 = .ok (.iload_n 2, 1) := by decide +kernel
theorem dX6_rate_54 : decode mX6_rate.2.1 54 = .ok (.invokevirtual 246, 3) := by decide +kernel
theorem dX6_rate_57 : decode mX6_rate.2.1 57 = .ok (.ireturn, 1) := by decide +kernel
theorem dX6_rate_58 : decode mX6_rate.2.1 58 = .ok (.aload_n 0, 1) := by decide +kernel
theorem dX6_rate_59 : decode mX6_rate.2.1 59 = .ok (.iload_n 2, 1) := by decide +kernel
theorem dX6_rate_60 : decode mX6_rate.2.1 60 = .ok (.invokevirtual 249, 3) := by decide +kernel
theorem dX6_rate_63 : decode mX6_rate.2.1 63 = .ok (.ireturn, 1) := by decide +kernel
theorem dX6_rate_64 : decode mX6_rate.2.1 64 = .ok (.aload_n 0, 1) := by decide +kernel
theorem dX6_rate_65 : decode mX6_rate.2.1 65 = .ok (.iload_n 2, 1) := by decide +kernel
theorem dX6_rate_66 : decode mX6_rate.2.1 66 = .ok (.invokevirtual 252, 3) := by decide +kernel
theorem dX6_rate_69 : decode mX6_rate.2.1 69 = .ok (.ireturn, 1) := by decide +kernel
theorem dX6_rate_70 : decode mX6_rate.2.1 70 = .ok (.aload_n 0, 1) := by decide +kernel
theorem dX6_rate_71 : decode mX6_rate.2.1 71 = .ok (.iload_n 2, 1) := by decide +kernel
theorem dX6_rate_72 : decode mX6_rate.2.1 72 = .ok (.invokevirtual 255, 3) := by decide +kernel
theorem dX6_rate_75 : decode mX6_rate.2.1 75 = .ok (.ireturn, 1) := by decide +kernel
theorem dX6_rate_76 : decode mX6_rate.2.1 76 = .ok (.aload_n 0, 1) := by decide +kernel
theorem dX6_rate_77 : decode mX6_rate.2.1 77 = .ok (.iload_n 2, 1) := by decide +kernel
theorem dX6_rate_78 : decode mX6_rate.2.1 78 = .ok (.invokevirtual 258, 3) := by decide +kernel
theorem dX6_rate_81 : decode mX6_rate.2.1 81 = .ok (.ireturn, 1) := by decide +kernel
theorem dX6_rate_82 : decode mX6_rate.2.1 82 = .ok (.aload_n 0, 1) := by decide +kernel
theorem dX6_rate_83 : decode mX6_rate.2.1 83 = .ok (.iload_n 2, 1) := by decide +kernel
theorem dX6_rate_84 : decode mX6_rate.2.1 84 = .ok (.invokevirtual 261, 3) := by decide +kernel
theorem dX6_rate_87 : decode mX6_rate.2.1 87 = .ok (.ireturn, 1) := by decide +kernel
theorem dX6_rate_88 : decode mX6_rate.2.1 88 = .ok (.ldc 103, 2) := by decide +kernel
theorem dX6_rate_90 : decode mX6_rate.2.1 90 = .ok (.ireturn, 1) := by decide +kernel
theorem dX6_keep_0 : decode mX6_keep.2.1 0 = .ok (.iload_n 1, 1) := by decide +kernel
theorem dX6_keep_1 : decode mX6_keep.2.1 1 = .ok (.iconst 0, 1) := by decide +kernel
theorem dX6_keep_2 : decode mX6_keep.2.1 2 = .ok (.iconst 1, 1) := by decide +kernel
theorem dX6_keep_3 : decode mX6_keep.2.1 3 = .ok (.invokestatic 71, 3) := by decide +kernel
theorem dX6_keep_6 : decode mX6_keep.2.1 6 = .ok (.ifCond .ne 5, 3) := by decide +kernel
theorem dX6_keep_9 : decode mX6_keep.2.1 9 = .ok (.iconst (-1), 1) := by decide +kernel
theorem dX6_keep_10 : decode mX6_keep.2.1 10 = .ok (.ireturn, 1) := by decide +kernel
theorem dX6_keep_11 : decode mX6_keep.2.1 11 = .ok (.aload_n 0, 1) := by decide +kernel
theorem dX6_keep_12 : decode mX6_keep.2.1 12 = .ok (.getfield 61, 3) := by decide +kernel
theorem dX6_keep_15 : decode mX6_keep.2.1 15 = .ok (.iload_n 1, 1) := by decide +kernel
theorem dX6_keep_16 : decode mX6_keep.2.1 16 = .ok (.aload_n 0, 1) := by decide +kernel
theorem dX6_keep_17 : decode mX6_keep.2.1 17 = .ok (.getfield 40, 3) := by decide +kernel
theorem dX6_keep_20 : decode mX6_keep.2.1 20 = .ok (.invokevirtual 264, 3) := by decide +kernel
theorem dX6_keep_23 : decode mX6_keep.2.1 23 = .ok (.aload_n 0, 1) := by decide +kernel
theorem dX6_keep_24 : decode mX6_keep.2.1 24 = .ok (.dup, 1) := by decide +kernel
theorem dX6_keep_25 : decode mX6_keep.2.1 25 = .ok (.getfield 90, 3) := by decide +kernel
theorem dX6_keep_28 : decode mX6_keep.2.1 28 = .ok (.iload_n 1, 1) := by decide +kernel
theorem dX6_keep_29 : decode mX6_keep.2.1 29 = .ok (.invokestatic 178, 3) := by decide +kernel
theorem dX6_keep_32 : decode mX6_keep.2.1 32 = .ok (.ior, 1) := by decide +kernel
theorem dX6_keep_33 : decode mX6_keep.2.1 33 = .ok (.putfield 90, 3) := by decide +kernel
theorem dX6_keep_36 : decode mX6_keep.2.1 36 = .ok (.aload_n 0, 1) := by decide +kernel
theorem dX6_keep_37 : decode mX6_keep.2.1 37 = .ok (.getfield 40, 3) := by decide +kernel
theorem dX6_keep_40 : decode mX6_keep.2.1 40 = .ok (.getfield 147, 3) := by decide +kernel
theorem dX6_keep_43 : decode mX6_keep.2.1 43 = .ok (.ireturn, 1) := by decide +kernel
theorem dX6_back_0 : decode mX6_back.2.1 0 = .ok (.iload_n 1, 1) := by decide +kernel
theorem dX6_back_1 : decode mX6_back.2.1 1 = .ok (.iconst 0, 1) := by decide +kernel
theorem dX6_back_2 : decode mX6_back.2.1 2 = .ok (.iconst 1, 1) := by decide +kernel
theorem dX6_back_3 : decode mX6_back.2.1 3 = .ok (.invokestatic 71, 3) := by decide +kernel
theorem dX6_back_6 : decode mX6_back.2.1 6 = .ok (.ifCond .ne 5, 3) := by decide +kernel
theorem dX6_back_9 : decode mX6_back.2.1 9 = .ok (.iconst (-1), 1) := by decide +kernel
theorem dX6_back_10 : decode mX6_back.2.1 10 = .ok (.ireturn, 1) := by decide +kernel
theorem dX6_back_11 : decode mX6_back.2.1 11 = .ok (.aload_n 0, 1) := by decide +kernel
theorem dX6_back_12 : decode mX6_back.2.1 12 = .ok (.getfield 90, 3) := by decide +kernel
theorem dX6_back_15 : decode mX6_back.2.1 15 = .ok (.iload_n 1, 1) := by decide +kernel
theorem dX6_back_16 : decode mX6_back.2.1 16 = .ok (.invokestatic 174, 3) := by decide +kernel
theorem dX6_back_19 : decode mX6_back.2.1 19 = .ok (.ifCond .ne 6, 3) := by decide +kernel
theorem dX6_back_22 : decode mX6_back.2.1 22 = .ok (.bipush (-2), 2) := by decide +kernel
theorem dX6_back_24 : decode mX6_back.2.1 24 = .ok (.ireturn, 1) := by decide +kernel
theorem dX6_back_25 : decode mX6_back.2.1 25 = .ok (.aload_n 0, 1) := by decide +kernel
theorem dX6_back_26 : decode mX6_back.2.1 26 = .ok (.getfield 61, 3) := by decide +kernel
theorem dX6_back_29 : decode mX6_back.2.1 29 = .ok (.iload_n 1, 1) := by decide +kernel
theorem dX6_back_30 : decode mX6_back.2.1 30 = .ok (.aload_n 0, 1) := by decide +kernel
theorem dX6_back_31 : decode mX6_back.2.1 31 = .ok (.getfield 40, 3) := by decide +kernel
theorem dX6_back_34 : decode mX6_back.2.1 34 = .ok (.invokevirtual 267, 3) := by decide +kernel
theorem dX6_back_37 : decode mX6_back.2.1 37 = .ok (.aload_n 0, 1) := by decide +kernel
theorem dX6_back_38 : decode mX6_back.2.1 38 = .ok (.getfield 51, 3) := by decide +kernel
theorem dX6_back_41 : decode mX6_back.2.1 41 = .ok (.invokevirtual 87, 3) := by decide +kernel
theorem dX6_back_44 : decode mX6_back.2.1 44 = .ok (.aload_n 0, 1) := by decide +kernel
theorem dX6_back_45 : decode mX6_back.2.1 45 = .ok (.getfield 40, 3) := by decide +kernel
theorem dX6_back_48 : decode mX6_back.2.1 48 = .ok (.getfield 147, 3) := by decide +kernel
theorem dX6_back_51 : decode mX6_back.2.1 51 = .ok (.ireturn, 1) := by decide +kernel
theorem dX6_count_0 : decode mX6_count.2.1 0 = .ok (.iload_n 1, 1) := by decide +kernel
theorem dX6_count_1 : decode mX6_count.2.1 1 = .ok (.tableswitch 93 0 6 #[43, 51, 59, 67, 75, 83, 88], 43) := by decide +kernel
theorem dX6_count_44 : decode mX6_count.2.1 44 = .ok (.aload_n 0, 1) := by decide +kernel
theorem dX6_count_45 : decode mX6_count.2.1 45 = .ok (.getfield 30, 3) := by decide +kernel
theorem dX6_count_48 : decode mX6_count.2.1 48 = .ok (.getfield 214, 3) := by decide +kernel
theorem dX6_count_51 : decode mX6_count.2.1 51 = .ok (.ireturn, 1) := by decide +kernel
theorem dX6_count_52 : decode mX6_count.2.1 52 = .ok (.aload_n 0, 1) := by decide +kernel
theorem dX6_count_53 : decode mX6_count.2.1 53 = .ok (.getfield 30, 3) := by decide +kernel
theorem dX6_count_56 : decode mX6_count.2.1 56 = .ok (.getfield 189, 3) := by decide +kernel
theorem dX6_count_59 : decode mX6_count.2.1 59 = .ok (.ireturn, 1) := by decide +kernel
theorem dX6_count_60 : decode mX6_count.2.1 60 = .ok (.aload_n 0, 1) := by decide +kernel
theorem dX6_count_61 : decode mX6_count.2.1 61 = .ok (.getfield 30, 3) := by decide +kernel
theorem dX6_count_64 : decode mX6_count.2.1 64 = .ok (.getfield 237, 3) := by decide +kernel
theorem dX6_count_67 : decode mX6_count.2.1 67 = .ok (.ireturn, 1) := by decide +kernel
theorem dX6_count_68 : decode mX6_count.2.1 68 = .ok (.aload_n 0, 1) := by decide +kernel
theorem dX6_count_69 : decode mX6_count.2.1 69 = .ok (.getfield 30, 3) := by decide +kernel
theorem dX6_count_72 : decode mX6_count.2.1 72 = .ok (.getfield 270, 3) := by decide +kernel
theorem dX6_count_75 : decode mX6_count.2.1 75 = .ok (.ireturn, 1) := by decide +kernel
theorem dX6_count_76 : decode mX6_count.2.1 76 = .ok (.aload_n 0, 1) := by decide +kernel
theorem dX6_count_77 : decode mX6_count.2.1 77 = .ok (.getfield 30, 3) := by decide +kernel
theorem dX6_count_80 : decode mX6_count.2.1 80 = .ok (.getfield 273, 3) := by decide +kernel
theorem dX6_count_83 : decode mX6_count.2.1 83 = .ok (.ireturn, 1) := by decide +kernel
theorem dX6_count_84 : decode mX6_count.2.1 84 = .ok (.aload_n 0, 1) := by decide +kernel
theorem dX6_count_85 : decode mX6_count.2.1 85 = .ok (.getfield 93, 3) := by decide +kernel
theorem dX6_count_88 : decode mX6_count.2.1 88 = .ok (.ireturn, 1) := by decide +kernel
theorem dX6_count_89 : decode mX6_count.2.1 89 = .ok (.aload_n 0, 1) := by decide +kernel
theorem dX6_count_90 : decode mX6_count.2.1 90 = .ok (.getfield 75, 3) := by decide +kernel
theorem dX6_count_93 : decode mX6_count.2.1 93 = .ok (.ireturn, 1) := by decide +kernel
theorem dX6_count_94 : decode mX6_count.2.1 94 = .ok (.iconst (-1), 1) := by decide +kernel
theorem dX6_count_95 : decode mX6_count.2.1 95 = .ok (.ireturn, 1) := by decide +kernel
theorem dX6_trace_0 : decode mX6_trace.2.1 0 = .ok (.aload_n 0, 1) := by decide +kernel
theorem dX6_trace_1 : decode mX6_trace.2.1 1 = .ok (.getfield 274, 3) := by decide +kernel
theorem dX6_trace_4 : decode mX6_trace.2.1 4 = .ok (.lreturn, 1) := by decide +kernel
theorem dX6_isWithin_0 : decode mX6_isWithin.2.1 0 = .ok (.iload_n 0, 1) := by decide +kernel
theorem dX6_isWithin_1 : decode mX6_isWithin.2.1 1 = .ok (.iload_n 1, 1) := by decide +kernel
theorem dX6_isWithin_2 : decode mX6_isWithin.2.1 2 = .ok (.if_icmp .lt 12, 3) := by decide +kernel
theorem dX6_isWithin_5 : decode mX6_isWithin.2.1 5 = .ok (.iload_n 0, 1) := by decide +kernel
theorem dX6_isWithin_6 : decode mX6_isWithin.2.1 6 = .ok (.iload_n 2, 1) := by decide +kernel
theorem dX6_isWithin_7 : decode mX6_isWithin.2.1 7 = .ok (.if_icmp .gt 7, 3) := by decide +kernel
theorem dX6_isWithin_10 : decode mX6_isWithin.2.1 10 = .ok (.iconst 1, 1) := by decide +kernel
theorem dX6_isWithin_11 : decode mX6_isWithin.2.1 11 = .ok (.goto 4, 3) := by decide +kernel
theorem dX6_isWithin_14 : decode mX6_isWithin.2.1 14 = .ok (.iconst 0, 1) := by decide +kernel
theorem dX6_isWithin_15 : decode mX6_isWithin.2.1 15 = .ok (.ireturn, 1) := by decide +kernel
theorem dX6_bit_0 : decode mX6_bit.2.1 0 = .ok (.iconst 1, 1) := by decide +kernel
theorem dX6_bit_1 : decode mX6_bit.2.1 1 = .ok (.iload_n 0, 1) := by decide +kernel
theorem dX6_bit_2 : decode mX6_bit.2.1 2 = .ok (.ishl, 1) := by decide +kernel
theorem dX6_bit_3 : decode mX6_bit.2.1 3 = .ok (.ireturn, 1) := by decide +kernel
theorem dX6_isIn_0 : decode mX6_isIn.2.1 0 = .ok (.iload_n 0, 1) := by decide +kernel
theorem dX6_isIn_1 : decode mX6_isIn.2.1 1 = .ok (.iconst 1, 1) := by decide +kernel
theorem dX6_isIn_2 : decode mX6_isIn.2.1 2 = .ok (.iload_n 1, 1) := by decide +kernel
theorem dX6_isIn_3 : decode mX6_isIn.2.1 3 = .ok (.ishl, 1) := by decide +kernel
theorem dX6_isIn_4 : decode mX6_isIn.2.1 4 = .ok (.iand, 1) := by decide +kernel
end
section
theorem dX6_isIn_5 : decode mX6_isIn.2.1 5 = .ok (.ifCond .eq 7, 3) := by decide +kernel
theorem dX6_isIn_8 : decode mX6_isIn.2.1 8 = .ok (.iconst 1, 1) := by decide +kernel
theorem dX6_isIn_9 : decode mX6_isIn.2.1 9 = .ok (.goto 4, 3) := by decide +kernel
theorem dX6_isIn_12 : decode mX6_isIn.2.1 12 = .ok (.iconst 0, 1) := by decide +kernel
theorem dX6_isIn_13 : decode mX6_isIn.2.1 13 = .ok (.ireturn, 1) := by decide +kernel
theorem dX6_allOf_0 : decode mX6_allOf.2.1 0 = .ok (.iconst 1, 1) := by decide +kernel
theorem dX6_allOf_1 : decode mX6_allOf.2.1 1 = .ok (.iload_n 0, 1) := by decide +kernel
theorem dX6_allOf_2 : decode mX6_allOf.2.1 2 = .ok (.ishl, 1) := by decide +kernel
theorem dX6_allOf_3 : decode mX6_allOf.2.1 3 = .ok (.iconst 1, 1) := by decide +kernel
theorem dX6_allOf_4 : decode mX6_allOf.2.1 4 = .ok (.isub, 1) := by decide +kernel
theorem dX6_allOf_5 : decode mX6_allOf.2.1 5 = .ok (.ireturn, 1) := by decide +kernel
theorem dX6_power_0 : decode mX6_power.2.1 0 = .ok (.iconst 1, 1) := by decide +kernel
theorem dX6_power_1 : decode mX6_power.2.1 1 = .ok (.istore_n 2, 1) := by decide +kernel
theorem dX6_power_2 : decode mX6_power.2.1 2 = .ok (.iconst 0, 1) := by decide +kernel
theorem dX6_power_3 : decode mX6_power.2.1 3 = .ok (.istore_n 3, 1) := by decide +kernel
theorem dX6_power_4 : decode mX6_power.2.1 4 = .ok (.iload_n 3, 1) := by decide +kernel
theorem dX6_power_5 : decode mX6_power.2.1 5 = .ok (.iload_n 1, 1) := by decide +kernel
theorem dX6_power_6 : decode mX6_power.2.1 6 = .ok (.if_icmp .ge 13, 3) := by decide +kernel
theorem dX6_power_9 : decode mX6_power.2.1 9 = .ok (.iload_n 2, 1) := by decide +kernel
theorem dX6_power_10 : decode mX6_power.2.1 10 = .ok (.iload_n 0, 1) := by decide +kernel
theorem dX6_power_11 : decode mX6_power.2.1 11 = .ok (.imul, 1) := by decide +kernel
theorem dX6_power_12 : decode mX6_power.2.1 12 = .ok (.istore_n 2, 1) := by decide +kernel
theorem dX6_power_13 : decode mX6_power.2.1 13 = .ok (.iinc 3 1, 3) := by decide +kernel
theorem dX6_power_16 : decode mX6_power.2.1 16 = .ok (.goto (-12), 3) := by decide +kernel
theorem dX6_power_19 : decode mX6_power.2.1 19 = .ok (.iload_n 2, 1) := by decide +kernel
theorem dX6_power_20 : decode mX6_power.2.1 20 = .ok (.ireturn, 1) := by decide +kernel
theorem dX6_commonDivisor_0 : decode mX6_commonDivisor.2.1 0 = .ok (.iload_n 1, 1) := by decide +kernel
theorem dX6_commonDivisor_1 : decode mX6_commonDivisor.2.1 1 = .ok (.istore_n 2, 1) := by decide +kernel
theorem dX6_commonDivisor_2 : decode mX6_commonDivisor.2.1 2 = .ok (.iload_n 0, 1) := by decide +kernel
theorem dX6_commonDivisor_3 : decode mX6_commonDivisor.2.1 3 = .ok (.istore_n 3, 1) := by decide +kernel
theorem dX6_commonDivisor_4 : decode mX6_commonDivisor.2.1 4 = .ok (.iconst 0, 1) := by decide +kernel
theorem dX6_commonDivisor_5 : decode mX6_commonDivisor.2.1 5 = .ok (.istore 4, 2) := by decide +kernel
theorem dX6_commonDivisor_7 : decode mX6_commonDivisor.2.1 7 = .ok (.iload 4, 2) := by decide +kernel
theorem dX6_commonDivisor_9 : decode mX6_commonDivisor.2.1 9 = .ok (.bipush 64, 2) := by decide +kernel
theorem dX6_commonDivisor_11 : decode mX6_commonDivisor.2.1 11 = .ok (.if_icmp .ge 23, 3) := by decide +kernel
theorem dX6_commonDivisor_14 : decode mX6_commonDivisor.2.1 14 = .ok (.iload_n 3, 1) := by decide +kernel
theorem dX6_commonDivisor_15 : decode mX6_commonDivisor.2.1 15 = .ok (.ifCond .le 19, 3) := by decide +kernel
theorem dX6_commonDivisor_18 : decode mX6_commonDivisor.2.1 18 = .ok (.iload_n 2, 1) := by decide +kernel
theorem dX6_commonDivisor_19 : decode mX6_commonDivisor.2.1 19 = .ok (.iload_n 3, 1) := by decide +kernel
theorem dX6_commonDivisor_20 : decode mX6_commonDivisor.2.1 20 = .ok (.irem, 1) := by decide +kernel
theorem dX6_commonDivisor_21 : decode mX6_commonDivisor.2.1 21 = .ok (.istore 5, 2) := by decide +kernel
theorem dX6_commonDivisor_23 : decode mX6_commonDivisor.2.1 23 = .ok (.iload_n 3, 1) := by decide +kernel
theorem dX6_commonDivisor_24 : decode mX6_commonDivisor.2.1 24 = .ok (.istore_n 2, 1) := by decide +kernel
theorem dX6_commonDivisor_25 : decode mX6_commonDivisor.2.1 25 = .ok (.iload 5, 2) := by decide +kernel
theorem dX6_commonDivisor_27 : decode mX6_commonDivisor.2.1 27 = .ok (.istore_n 3, 1) := by decide +kernel
theorem dX6_commonDivisor_28 : decode mX6_commonDivisor.2.1 28 = .ok (.iinc 4 1, 3) := by decide +kernel
theorem dX6_commonDivisor_31 : decode mX6_commonDivisor.2.1 31 = .ok (.goto (-24), 3) := by decide +kernel
theorem dX6_commonDivisor_34 : decode mX6_commonDivisor.2.1 34 = .ok (.iconst 1, 1) := by decide +kernel
theorem dX6_commonDivisor_35 : decode mX6_commonDivisor.2.1 35 = .ok (.iload_n 2, 1) := by decide +kernel
theorem dX6_commonDivisor_36 : decode mX6_commonDivisor.2.1 36 = .ok (.invokestatic 217, 3) := by decide +kernel
theorem dX6_commonDivisor_39 : decode mX6_commonDivisor.2.1 39 = .ok (.ireturn, 1) := by decide +kernel
theorem dX6_needleBy_0 : decode mX6_needleBy.2.1 0 = .ok (.iload_n 1, 1) := by decide +kernel
theorem dX6_needleBy_1 : decode mX6_needleBy.2.1 1 = .ok (.istore_n 3, 1) := by decide +kernel
theorem dX6_needleBy_2 : decode mX6_needleBy.2.1 2 = .ok (.iload_n 1, 1) := by decide +kernel
theorem dX6_needleBy_3 : decode mX6_needleBy.2.1 3 = .ok (.iload_n 2, 1) := by decide +kernel
theorem dX6_needleBy_4 : decode mX6_needleBy.2.1 4 = .ok (.aload_n 0, 1) := by decide +kernel
theorem dX6_needleBy_5 : decode mX6_needleBy.2.1 5 = .ok (.getfield 40, 3) := by decide +kernel
theorem dX6_needleBy_8 : decode mX6_needleBy.2.1 8 = .ok (.getfield 153, 3) := by decide +kernel
theorem dX6_needleBy_11 : decode mX6_needleBy.2.1 11 = .ok (.isub, 1) := by decide +kernel
theorem dX6_needleBy_12 : decode mX6_needleBy.2.1 12 = .ok (.if_icmp .ge 16, 3) := by decide +kernel
theorem dX6_needleBy_15 : decode mX6_needleBy.2.1 15 = .ok (.iload_n 2, 1) := by decide +kernel
theorem dX6_needleBy_16 : decode mX6_needleBy.2.1 16 = .ok (.aload_n 0, 1) := by decide +kernel
theorem dX6_needleBy_17 : decode mX6_needleBy.2.1 17 = .ok (.getfield 40, 3) := by decide +kernel
theorem dX6_needleBy_20 : decode mX6_needleBy.2.1 20 = .ok (.getfield 153, 3) := by decide +kernel
theorem dX6_needleBy_23 : decode mX6_needleBy.2.1 23 = .ok (.isub, 1) := by decide +kernel
theorem dX6_needleBy_24 : decode mX6_needleBy.2.1 24 = .ok (.istore_n 3, 1) := by decide +kernel
theorem dX6_needleBy_25 : decode mX6_needleBy.2.1 25 = .ok (.goto 26, 3) := by decide +kernel
theorem dX6_needleBy_28 : decode mX6_needleBy.2.1 28 = .ok (.iload_n 1, 1) := by decide +kernel
theorem dX6_needleBy_29 : decode mX6_needleBy.2.1 29 = .ok (.iload_n 2, 1) := by decide +kernel
theorem dX6_needleBy_30 : decode mX6_needleBy.2.1 30 = .ok (.aload_n 0, 1) := by decide +kernel
theorem dX6_needleBy_31 : decode mX6_needleBy.2.1 31 = .ok (.getfield 40, 3) := by decide +kernel
theorem dX6_needleBy_34 : decode mX6_needleBy.2.1 34 = .ok (.getfield 153, 3) := by decide +kernel
theorem dX6_needleBy_37 : decode mX6_needleBy.2.1 37 = .ok (.iadd, 1) := by decide +kernel
theorem dX6_needleBy_38 : decode mX6_needleBy.2.1 38 = .ok (.if_icmp .le 13, 3) := by decide +kernel
theorem dX6_needleBy_41 : decode mX6_needleBy.2.1 41 = .ok (.iload_n 2, 1) := by decide +kernel
theorem dX6_needleBy_42 : decode mX6_needleBy.2.1 42 = .ok (.aload_n 0, 1) := by decide +kernel
theorem dX6_needleBy_43 : decode mX6_needleBy.2.1 43 = .ok (.getfield 40, 3) := by decide +kernel
theorem dX6_needleBy_46 : decode mX6_needleBy.2.1 46 = .ok (.getfield 153, 3) := by decide +kernel
theorem dX6_needleBy_49 : decode mX6_needleBy.2.1 49 = .ok (.iadd, 1) := by decide +kernel
theorem dX6_needleBy_50 : decode mX6_needleBy.2.1 50 = .ok (.istore_n 3, 1) := by decide +kernel
theorem dX6_needleBy_51 : decode mX6_needleBy.2.1 51 = .ok (.iload_n 3, 1) := by decide +kernel
theorem dX6_needleBy_52 : decode mX6_needleBy.2.1 52 = .ok (.aload_n 0, 1) := by decide +kernel
theorem dX6_needleBy_53 : decode mX6_needleBy.2.1 53 = .ok (.getfield 30, 3) := by decide +kernel
theorem dX6_needleBy_56 : decode mX6_needleBy.2.1 56 = .ok (.getfield 270, 3) := by decide +kernel
theorem dX6_needleBy_59 : decode mX6_needleBy.2.1 59 = .ok (.invokestatic 278, 3) := by decide +kernel
theorem dX6_needleBy_62 : decode mX6_needleBy.2.1 62 = .ok (.ireturn, 1) := by decide +kernel
theorem dX6_burdenOf_0 : decode mX6_burdenOf.2.1 0 = .ok (.aload_n 0, 1) := by decide +kernel
theorem dX6_burdenOf_1 : decode mX6_burdenOf.2.1 1 = .ok (.getfield 30, 3) := by decide +kernel
theorem dX6_burdenOf_4 : decode mX6_burdenOf.2.1 4 = .ok (.getfield 117, 3) := by decide +kernel
theorem dX6_burdenOf_7 : decode mX6_burdenOf.2.1 7 = .ok (.iload_n 1, 1) := by decide +kernel
theorem dX6_burdenOf_8 : decode mX6_burdenOf.2.1 8 = .ok (.invokevirtual 107, 3) := by decide +kernel
theorem dX6_burdenOf_11 : decode mX6_burdenOf.2.1 11 = .ok (.aload_n 0, 1) := by decide +kernel
theorem dX6_burdenOf_12 : decode mX6_burdenOf.2.1 12 = .ok (.getfield 40, 3) := by decide +kernel
theorem dX6_burdenOf_15 : decode mX6_burdenOf.2.1 15 = .ok (.getfield 120, 3) := by decide +kernel
theorem dX6_burdenOf_18 : decode mX6_burdenOf.2.1 18 = .ok (.iload_n 1, 1) := by decide +kernel
theorem dX6_burdenOf_19 : decode mX6_burdenOf.2.1 19 = .ok (.invokevirtual 107, 3) := by decide +kernel
theorem dX6_burdenOf_22 : decode mX6_burdenOf.2.1 22 = .ok (.iadd, 1) := by decide +kernel
theorem dX6_burdenOf_23 : decode mX6_burdenOf.2.1 23 = .ok (.aload_n 0, 1) := by decide +kernel
theorem dX6_burdenOf_24 : decode mX6_burdenOf.2.1 24 = .ok (.getfield 30, 3) := by decide +kernel
theorem dX6_burdenOf_27 : decode mX6_burdenOf.2.1 27 = .ok (.getfield 104, 3) := by decide +kernel
theorem dX6_burdenOf_30 : decode mX6_burdenOf.2.1 30 = .ok (.aload_n 0, 1) := by decide +kernel
theorem dX6_burdenOf_31 : decode mX6_burdenOf.2.1 31 = .ok (.getfield 40, 3) := by decide +kernel
theorem dX6_burdenOf_34 : decode mX6_burdenOf.2.1 34 = .ok (.getfield 123, 3) := by decide +kernel
theorem dX6_burdenOf_37 : decode mX6_burdenOf.2.1 37 = .ok (.iload_n 1, 1) := by decide +kernel
theorem dX6_burdenOf_38 : decode mX6_burdenOf.2.1 38 = .ok (.invokevirtual 107, 3) := by decide +kernel
theorem dX6_burdenOf_41 : decode mX6_burdenOf.2.1 41 = .ok (.invokevirtual 126, 3) := by decide +kernel
theorem dX6_burdenOf_44 : decode mX6_burdenOf.2.1 44 = .ok (.iadd, 1) := by decide +kernel
theorem dX6_burdenOf_45 : decode mX6_burdenOf.2.1 45 = .ok (.ireturn, 1) := by decide +kernel
theorem dX6_loadBy_0 : decode mX6_loadBy.2.1 0 = .ok (.iconst 0, 1) := by decide +kernel
theorem dX6_loadBy_1 : decode mX6_loadBy.2.1 1 = .ok (.iload_n 0, 1) := by decide +kernel
theorem dX6_loadBy_2 : decode mX6_loadBy.2.1 2 = .ok (.iload_n 1, 1) := by decide +kernel
theorem dX6_loadBy_3 : decode mX6_loadBy.2.1 3 = .ok (.iadd, 1) := by decide +kernel
theorem dX6_loadBy_4 : decode mX6_loadBy.2.1 4 = .ok (.invokestatic 217, 3) := by decide +kernel
theorem dX6_loadBy_7 : decode mX6_loadBy.2.1 7 = .ok (.ireturn, 1) := by decide +kernel
theorem dX6_loadOf_0 : decode mX6_loadOf.2.1 0 = .ok (.aload_n 0, 1) := by decide +kernel
theorem dX6_loadOf_1 : decode mX6_loadOf.2.1 1 = .ok (.iload_n 1, 1) := by decide +kernel
theorem dX6_loadOf_2 : decode mX6_loadOf.2.1 2 = .ok (.invokevirtual 192, 3) := by decide +kernel
theorem dX6_loadOf_5 : decode mX6_loadOf.2.1 5 = .ok (.aload_n 0, 1) := by decide +kernel
theorem dX6_loadOf_6 : decode mX6_loadOf.2.1 6 = .ok (.getfield 40, 3) := by decide +kernel
theorem dX6_loadOf_9 : decode mX6_loadOf.2.1 9 = .ok (.getfield 150, 3) := by decide +kernel
theorem dX6_loadOf_12 : decode mX6_loadOf.2.1 12 = .ok (.invokestatic 281, 3) := by decide +kernel
theorem dX6_loadOf_15 : decode mX6_loadOf.2.1 15 = .ok (.ireturn, 1) := by decide +kernel
theorem dX6_readingOf_0 : decode mX6_readingOf.2.1 0 = .ok (.aload_n 0, 1) := by decide +kernel
theorem dX6_readingOf_1 : decode mX6_readingOf.2.1 1 = .ok (.aload_n 0, 1) := by decide +kernel
theorem dX6_readingOf_2 : decode mX6_readingOf.2.1 2 = .ok (.getfield 40, 3) := by decide +kernel
theorem dX6_readingOf_5 : decode mX6_readingOf.2.1 5 = .ok (.getfield 147, 3) := by decide +kernel
theorem dX6_readingOf_8 : decode mX6_readingOf.2.1 8 = .ok (.aload_n 0, 1) := by decide +kernel
theorem dX6_readingOf_9 : decode mX6_readingOf.2.1 9 = .ok (.iload_n 1, 1) := by decide +kernel
theorem dX6_readingOf_10 : decode mX6_readingOf.2.1 10 = .ok (.invokevirtual 129, 3) := by decide +kernel
theorem dX6_readingOf_13 : decode mX6_readingOf.2.1 13 = .ok (.invokevirtual 170, 3) := by decide +kernel
theorem dX6_readingOf_16 : decode mX6_readingOf.2.1 16 = .ok (.ireturn, 1) := by decide +kernel
theorem dX6_errorOf_0 : decode mX6_errorOf.2.1 0 = .ok (.aload_n 0, 1) := by decide +kernel
theorem dX6_errorOf_1 : decode mX6_errorOf.2.1 1 = .ok (.getfield 40, 3) := by decide +kernel
theorem dX6_errorOf_4 : decode mX6_errorOf.2.1 4 = .ok (.iload_n 1, 1) := by decide +kernel
theorem dX6_errorOf_5 : decode mX6_errorOf.2.1 5 = .ok (.invokevirtual 163, 3) := by decide +kernel
theorem dX6_errorOf_8 : decode mX6_errorOf.2.1 8 = .ok (.ifCond .eq 23, 3) := by decide +kernel
theorem dX6_errorOf_11 : decode mX6_errorOf.2.1 11 = .ok (.aload_n 0, 1) := by decide +kernel
theorem dX6_errorOf_12 : decode mX6_errorOf.2.1 12 = .ok (.getfield 40, 3) := by decide +kernel
theorem dX6_errorOf_15 : decode mX6_errorOf.2.1 15 = .ok (.getfield 132, 3) := by decide +kernel
theorem dX6_errorOf_18 : decode mX6_errorOf.2.1 18 = .ok (.iload_n 1, 1) := by decide +kernel
theorem dX6_errorOf_19 : decode mX6_errorOf.2.1 19 = .ok (.invokevirtual 107, 3) := by decide +kernel
theorem dX6_errorOf_22 : decode mX6_errorOf.2.1 22 = .ok (.aload_n 0, 1) := by decide +kernel
theorem dX6_errorOf_23 : decode mX6_errorOf.2.1 23 = .ok (.iload_n 1, 1) := by decide +kernel
theorem dX6_errorOf_24 : decode mX6_errorOf.2.1 24 = .ok (.invokevirtual 192, 3) := by decide +kernel
theorem dX6_errorOf_27 : decode mX6_errorOf.2.1 27 = .ok (.isub, 1) := by decide +kernel
theorem dX6_errorOf_28 : decode mX6_errorOf.2.1 28 = .ok (.goto 5, 3) := by decide +kernel
theorem dX6_errorOf_31 : decode mX6_errorOf.2.1 31 = .ok (.ldc 103, 2) := by decide +kernel
theorem dX6_errorOf_33 : decode mX6_errorOf.2.1 33 = .ok (.ireturn, 1) := by decide +kernel
theorem dX6_whoIsChalked_0 : decode mX6_whoIsChalked.2.1 0 = .ok (.iconst 0, 1) := by decide +kernel
theorem dX6_whoIsChalked_1 : decode mX6_whoIsChalked.2.1 1 = .ok (.istore_n 1, 1) := by decide +kernel
theorem dX6_whoIsChalked_2 : decode mX6_whoIsChalked.2.1 2 = .ok (.iconst 0, 1) := by decide +kernel
theorem dX6_whoIsChalked_3 : decode mX6_whoIsChalked.2.1 3 = .ok (.istore_n 2, 1) := by decide +kernel
theorem dX6_whoIsChalked_4 : decode mX6_whoIsChalked.2.1 4 = .ok (.iload_n 2, 1) := by decide +kernel
theorem dX6_whoIsChalked_5 : decode mX6_whoIsChalked.2.1 5 = .ok (.aload_n 0, 1) := by decide +kernel
theorem dX6_whoIsChalked_6 : decode mX6_whoIsChalked.2.1 6 = .ok (.getfield 30, 3) := by decide +kernel
theorem dX6_whoIsChalked_9 : decode mX6_whoIsChalked.2.1 9 = .ok (.getfield 189, 3) := by decide +kernel
theorem dX6_whoIsChalked_12 : decode mX6_whoIsChalked.2.1 12 = .ok (.if_icmp .ge 27, 3) := by decide +kernel
theorem dX6_whoIsChalked_15 : decode mX6_whoIsChalked.2.1 15 = .ok (.aload_n 0, 1) := by decide +kernel
theorem dX6_whoIsChalked_16 : decode mX6_whoIsChalked.2.1 16 = .ok (.getfield 40, 3) := by decide +kernel
theorem dX6_whoIsChalked_19 : decode mX6_whoIsChalked.2.1 19 = .ok (.iload_n 2, 1) := by decide +kernel
theorem dX6_whoIsChalked_20 : decode mX6_whoIsChalked.2.1 20 = .ok (.invokevirtual 163, 3) := by decide +kernel
theorem dX6_whoIsChalked_23 : decode mX6_whoIsChalked.2.1 23 = .ok (.ifCond .eq 10, 3) := by decide +kernel
theorem dX6_whoIsChalked_26 : decode mX6_whoIsChalked.2.1 26 = .ok (.iload_n 1, 1) := by decide +kernel
theorem dX6_whoIsChalked_27 : decode mX6_whoIsChalked.2.1 27 = .ok (.iload_n 2, 1) := by decide +kernel
theorem dX6_whoIsChalked_28 : decode mX6_whoIsChalked.2.1 28 = .ok (.invokestatic 178, 3) := by decide +kernel
theorem dX6_whoIsChalked_31 : decode mX6_whoIsChalked.2.1 31 = .ok (.ior, 1) := by decide +kernel
theorem dX6_whoIsChalked_32 : decode mX6_whoIsChalked.2.1 32 = .ok (.istore_n 1, 1) := by decide +kernel
theorem dX6_whoIsChalked_33 : decode mX6_whoIsChalked.2.1 33 = .ok (.iinc 2 1, 3) := by decide +kernel
theorem dX6_whoIsChalked_36 : decode mX6_whoIsChalked.2.1 36 = .ok (.goto (-32), 3) := by decide +kernel
theorem dX6_whoIsChalked_39 : decode mX6_whoIsChalked.2.1 39 = .ok (.iload_n 1, 1) := by decide +kernel
theorem dX6_whoIsChalked_40 : decode mX6_whoIsChalked.2.1 40 = .ok (.ireturn, 1) := by decide +kernel
theorem dX6_whoDid_0 : decode mX6_whoDid.2.1 0 = .ok (.iconst 0, 1) := by decide +kernel
theorem dX6_whoDid_1 : decode mX6_whoDid.2.1 1 = .ok (.istore_n 2, 1) := by decide +kernel
theorem dX6_whoDid_2 : decode mX6_whoDid.2.1 2 = .ok (.iconst 0, 1) := by decide +kernel
theorem dX6_whoDid_3 : decode mX6_whoDid.2.1 3 = .ok (.istore_n 3, 1) := by decide +kernel
theorem dX6_whoDid_4 : decode mX6_whoDid.2.1 4 = .ok (.iload_n 3, 1) := by decide +kernel
theorem dX6_whoDid_5 : decode mX6_whoDid.2.1 5 = .ok (.aload_n 0, 1) := by decide +kernel
theorem dX6_whoDid_6 : decode mX6_whoDid.2.1 6 = .ok (.getfield 30, 3) := by decide +kernel
theorem dX6_whoDid_9 : decode mX6_whoDid.2.1 9 = .ok (.getfield 189, 3) := by decide +kernel
theorem dX6_whoDid_12 : decode mX6_whoDid.2.1 12 = .ok (.if_icmp .ge 34, 3) := by decide +kernel
theorem dX6_whoDid_15 : decode mX6_whoDid.2.1 15 = .ok (.aload_n 0, 1) := by decide +kernel
theorem dX6_whoDid_16 : decode mX6_whoDid.2.1 16 = .ok (.getfield 40, 3) := by decide +kernel
theorem dX6_whoDid_19 : decode mX6_whoDid.2.1 19 = .ok (.getfield 123, 3) := by decide +kernel
theorem dX6_whoDid_22 : decode mX6_whoDid.2.1 22 = .ok (.iload_n 3, 1) := by decide +kernel
theorem dX6_whoDid_23 : decode mX6_whoDid.2.1 23 = .ok (.invokevirtual 107, 3) := by decide +kernel
theorem dX6_whoDid_26 : decode mX6_whoDid.2.1 26 = .ok (.iload_n 1, 1) := by decide +kernel
theorem dX6_whoDid_27 : decode mX6_whoDid.2.1 27 = .ok (.invokestatic 174, 3) := by decide +kernel
theorem dX6_whoDid_30 : decode mX6_whoDid.2.1 30 = .ok (.ifCond .eq 10, 3) := by decide +kernel
theorem dX6_whoDid_33 : decode mX6_whoDid.2.1 33 = .ok (.iload_n 2, 1) := by decide +kernel
theorem dX6_whoDid_34 : decode mX6_whoDid.2.1 34 = .ok (.iload_n 3, 1) := by decide +kernel
theorem dX6_whoDid_35 : decode mX6_whoDid.2.1 35 = .ok (.invokestatic 178, 3) := by decide +kernel
theorem dX6_whoDid_38 : decode mX6_whoDid.2.1 38 = .ok (.ior, 1) := by decide +kernel
theorem dX6_whoDid_39 : decode mX6_whoDid.2.1 39 = .ok (.istore_n 2, 1) := by decide +kernel
theorem dX6_whoDid_40 : decode mX6_whoDid.2.1 40 = .ok (.iinc 3 1, 3) := by decide +kernel
theorem dX6_whoDid_43 : decode mX6_whoDid.2.1 43 = .ok (.goto (-39), 3) := by decide +kernel
theorem dX6_whoDid_46 : decode mX6_whoDid.2.1 46 = .ok (.iload_n 2, 1) := by decide +kernel
theorem dX6_whoDid_47 : decode mX6_whoDid.2.1 47 = .ok (.ireturn, 1) := by decide +kernel
theorem dX6_leastError_0 : decode mX6_leastError.2.1 0 = .ok (.iload_n 1, 1) := by decide +kernel
theorem dX6_leastError_1 : decode mX6_leastError.2.1 1 = .ok (.ifCond .eq 10, 3) := by decide +kernel
theorem dX6_leastError_4 : decode mX6_leastError.2.1 4 = .ok (.iload 4, 2) := by decide +kernel
theorem dX6_leastError_6 : decode mX6_leastError.2.1 6 = .ok (.bipush 6, 2) := by decide +kernel
theorem dX6_leastError_8 : decode mX6_leastError.2.1 8 = .ok (.if_icmp .lt 5, 3) := by decide +kernel
theorem dX6_leastError_11 : decode mX6_leastError.2.1 11 = .ok (.iconst 0, 1) := by decide +kernel
theorem dX6_leastError_12 : decode mX6_leastError.2.1 12 = .ok (.ireturn, 1) := by decide +kernel
theorem dX6_leastError_13 : decode mX6_leastError.2.1 13 = .ok (.ldc_w 284, 3) := by decide +kernel
theorem dX6_leastError_16 : decode mX6_leastError.2.1 16 = .ok (.istore 5, 2) := by decide +kernel
theorem dX6_leastError_18 : decode mX6_leastError.2.1 18 = .ok (.iconst 0, 1) := by decide +kernel
theorem dX6_leastError_19 : decode mX6_leastError.2.1 19 = .ok (.istore 6, 2) := by decide +kernel
theorem dX6_leastError_21 : decode mX6_leastError.2.1 21 = .ok (.iload 6, 2) := by decide +kernel
theorem dX6_leastError_23 : decode mX6_leastError.2.1 23 = .ok (.aload_n 0, 1) := by decide +kernel
theorem dX6_leastError_24 : decode mX6_leastError.2.1 24 = .ok (.getfield 30, 3) := by decide +kernel
theorem dX6_leastError_27 : decode mX6_leastError.2.1 27 = .ok (.getfield 189, 3) := by decide +kernel
theorem dX6_leastError_30 : decode mX6_leastError.2.1 30 = .ok (.if_icmp .ge 36, 3) := by decide +kernel
theorem dX6_leastError_33 : decode mX6_leastError.2.1 33 = .ok (.iload_n 1, 1) := by decide +kernel
theorem dX6_leastError_34 : decode mX6_leastError.2.1 34 = .ok (.iload 6, 2) := by decide +kernel
theorem dX6_leastError_36 : decode mX6_leastError.2.1 36 = .ok (.invokestatic 174, 3) := by decide +kernel
theorem dX6_leastError_39 : decode mX6_leastError.2.1 39 = .ok (.ifCond .eq 21, 3) := by decide +kernel
theorem dX6_leastError_42 : decode mX6_leastError.2.1 42 = .ok (.iload 5, 2) := by decide +kernel
theorem dX6_leastError_44 : decode mX6_leastError.2.1 44 = .ok (.aload_n 0, 1) := by decide +kernel
theorem dX6_leastError_45 : decode mX6_leastError.2.1 45 = .ok (.iload 6, 2) := by decide +kernel
theorem dX6_leastError_47 : decode mX6_leastError.2.1 47 = .ok (.iload_n 1, 1) := by decide +kernel
theorem dX6_leastError_48 : decode mX6_leastError.2.1 48 = .ok (.iload_n 2, 1) := by decide +kernel
theorem dX6_leastError_49 : decode mX6_leastError.2.1 49 = .ok (.iload_n 3, 1) := by decide +kernel
theorem dX6_leastError_50 : decode mX6_leastError.2.1 50 = .ok (.iload 4, 2) := by decide +kernel
theorem dX6_leastError_52 : decode mX6_leastError.2.1 52 = .ok (.invokevirtual 285, 3) := by decide +kernel
theorem dX6_leastError_55 : decode mX6_leastError.2.1 55 = .ok (.invokestatic 278, 3) := by decide +kernel
theorem dX6_leastError_58 : decode mX6_leastError.2.1 58 = .ok (.istore 5, 2) := by decide +kernel
theorem dX6_leastError_60 : decode mX6_leastError.2.1 60 = .ok (.iinc 6 1, 3) := by decide +kernel
theorem dX6_leastError_63 : decode mX6_leastError.2.1 63 = .ok (.goto (-42), 3) := by decide +kernel
theorem dX6_leastError_66 : decode mX6_leastError.2.1 66 = .ok (.iload 5, 2) := by decide +kernel
theorem dX6_leastError_68 : decode mX6_leastError.2.1 68 = .ok (.ireturn, 1) := by decide +kernel
theorem dX6_leastErrorFrom_0 : decode mX6_leastErrorFrom.2.1 0 = .ok (.aload_n 0, 1) := by decide +kernel
theorem dX6_leastErrorFrom_1 : decode mX6_leastErrorFrom.2.1 1 = .ok (.getfield 55, 3) := by decide +kernel
theorem dX6_leastErrorFrom_4 : decode mX6_leastErrorFrom.2.1 4 = .ok (.iload_n 1, 1) := by decide +kernel
theorem dX6_leastErrorFrom_5 : decode mX6_leastErrorFrom.2.1 5 = .ok (.invokevirtual 107, 3) := by decide +kernel
theorem dX6_leastErrorFrom_8 : decode mX6_leastErrorFrom.2.1 8 = .ok (.iload 4, 2) := by decide +kernel
theorem dX6_leastErrorFrom_10 : decode mX6_leastErrorFrom.2.1 10 = .ok (.invokestatic 281, 3) := by decide +kernel
theorem dX6_leastErrorFrom_13 : decode mX6_leastErrorFrom.2.1 13 = .ok (.istore 6, 2) := by decide +kernel
theorem dX6_leastErrorFrom_15 : decode mX6_leastErrorFrom.2.1 15 = .ok (.aload_n 0, 1) := by decide +kernel
theorem dX6_leastErrorFrom_16 : decode mX6_leastErrorFrom.2.1 16 = .ok (.iload_n 3, 1) := by decide +kernel
theorem dX6_leastErrorFrom_17 : decode mX6_leastErrorFrom.2.1 17 = .ok (.iload 6, 2) := by decide +kernel
theorem dX6_leastErrorFrom_19 : decode mX6_leastErrorFrom.2.1 19 = .ok (.invokevirtual 170, 3) := by decide +kernel
theorem dX6_leastErrorFrom_22 : decode mX6_leastErrorFrom.2.1 22 = .ok (.istore 7, 2) := by decide +kernel
theorem dX6_leastErrorFrom_24 : decode mX6_leastErrorFrom.2.1 24 = .ok (.aload_n 0, 1) := by decide +kernel
theorem dX6_leastErrorFrom_25 : decode mX6_leastErrorFrom.2.1 25 = .ok (.iload_n 2, 1) := by decide +kernel
theorem dX6_leastErrorFrom_26 : decode mX6_leastErrorFrom.2.1 26 = .ok (.iload_n 1, 1) := by decide +kernel
theorem dX6_leastErrorFrom_27 : decode mX6_leastErrorFrom.2.1 27 = .ok (.invokestatic 178, 3) := by decide +kernel
theorem dX6_leastErrorFrom_30 : decode mX6_leastErrorFrom.2.1 30 = .ok (.iconst (-1), 1) := by decide +kernel
theorem dX6_leastErrorFrom_31 : decode mX6_leastErrorFrom.2.1 31 = .ok (.ixor, 1) := by decide +kernel
theorem dX6_leastErrorFrom_32 : decode mX6_leastErrorFrom.2.1 32 = .ok (.iand, 1) := by decide +kernel
theorem dX6_leastErrorFrom_33 : decode mX6_leastErrorFrom.2.1 33 = .ok (.aload_n 0, 1) := by decide +kernel
theorem dX6_leastErrorFrom_34 : decode mX6_leastErrorFrom.2.1 34 = .ok (.iload 7, 2) := by decide +kernel
theorem dX6_leastErrorFrom_36 : decode mX6_leastErrorFrom.2.1 36 = .ok (.iconst 0, 1) := by decide +kernel
theorem dX6_leastErrorFrom_37 : decode mX6_leastErrorFrom.2.1 37 = .ok (.invokevirtual 170, 3) := by decide +kernel
theorem dX6_leastErrorFrom_40 : decode mX6_leastErrorFrom.2.1 40 = .ok (.iconst 0, 1) := by decide +kernel
theorem dX6_leastErrorFrom_41 : decode mX6_leastErrorFrom.2.1 41 = .ok (.iload 5, 2) := by decide +kernel
theorem dX6_leastErrorFrom_43 : decode mX6_leastErrorFrom.2.1 43 = .ok (.iconst 1, 1) := by decide +kernel
theorem dX6_leastErrorFrom_44 : decode mX6_leastErrorFrom.2.1 44 = .ok (.iadd, 1) := by decide +kernel
theorem dX6_leastErrorFrom_45 : decode mX6_leastErrorFrom.2.1 45 = .ok (.invokevirtual 198, 3) := by decide +kernel
theorem dX6_leastErrorFrom_48 : decode mX6_leastErrorFrom.2.1 48 = .ok (.istore 8, 2) := by decide +kernel
theorem dX6_leastErrorFrom_50 : decode mX6_leastErrorFrom.2.1 50 = .ok (.iload 7, 2) := by decide +kernel
theorem dX6_leastErrorFrom_52 : decode mX6_leastErrorFrom.2.1 52 = .ok (.iload 6, 2) := by decide +kernel
theorem dX6_leastErrorFrom_54 : decode mX6_leastErrorFrom.2.1 54 = .ok (.isub, 1) := by decide +kernel
theorem dX6_leastErrorFrom_55 : decode mX6_leastErrorFrom.2.1 55 = .ok (.invokestatic 289, 3) := by decide +kernel
theorem dX6_leastErrorFrom_58 : decode mX6_leastErrorFrom.2.1 58 = .ok (.iload 8, 2) := by decide +kernel
theorem dX6_leastErrorFrom_60 : decode mX6_leastErrorFrom.2.1 60 = .ok (.iadd, 1) := by decide +kernel
theorem dX6_leastErrorFrom_61 : decode mX6_leastErrorFrom.2.1 61 = .ok (.ireturn, 1) := by decide +kernel
theorem dX6_inOrder_0 : decode mX6_inOrder.2.1 0 = .ok (.iload_n 2, 1) := by decide +kernel
theorem dX6_inOrder_1 : decode mX6_inOrder.2.1 1 = .ok (.istore_n 3, 1) := by decide +kernel
theorem dX6_inOrder_2 : decode mX6_inOrder.2.1 2 = .ok (.aload_n 0, 1) := by decide +kernel
theorem dX6_inOrder_3 : decode mX6_inOrder.2.1 3 = .ok (.getfield 40, 3) := by decide +kernel
theorem dX6_inOrder_6 : decode mX6_inOrder.2.1 6 = .ok (.getfield 147, 3) := by decide +kernel
theorem dX6_inOrder_9 : decode mX6_inOrder.2.1 9 = .ok (.istore 4, 2) := by decide +kernel
theorem dX6_inOrder_11 : decode mX6_inOrder.2.1 11 = .ok (.aload_n 0, 1) := by decide +kernel
theorem dX6_inOrder_12 : decode mX6_inOrder.2.1 12 = .ok (.getfield 40, 3) := by decide +kernel
theorem dX6_inOrder_15 : decode mX6_inOrder.2.1 15 = .ok (.getfield 150, 3) := by decide +kernel
theorem dX6_inOrder_18 : decode mX6_inOrder.2.1 18 = .ok (.istore 5, 2) := by decide +kernel
theorem dX6_inOrder_20 : decode mX6_inOrder.2.1 20 = .ok (.bipush (-9), 2) := by decide +kernel
theorem dX6_inOrder_22 : decode mX6_inOrder.2.1 22 = .ok (.istore 6, 2) := by decide +kernel
theorem dX6_inOrder_24 : decode mX6_inOrder.2.1 24 = .ok (.iconst 0, 1) := by decide +kernel
theorem dX6_inOrder_25 : decode mX6_inOrder.2.1 25 = .ok (.istore 7, 2) := by decide +kernel
theorem dX6_inOrder_27 : decode mX6_inOrder.2.1 27 = .ok (.iload 7, 2) := by decide +kernel
theorem dX6_inOrder_29 : decode mX6_inOrder.2.1 29 = .ok (.iload_n 1, 1) := by decide +kernel
theorem dX6_inOrder_30 : decode mX6_inOrder.2.1 30 = .ok (.if_icmp .gt 72, 3) := by decide +kernel
theorem dX6_inOrder_33 : decode mX6_inOrder.2.1 33 = .ok (.aload_n 0, 1) := by decide +kernel
theorem dX6_inOrder_34 : decode mX6_inOrder.2.1 34 = .ok (.iload_n 3, 1) := by decide +kernel
theorem dX6_inOrder_35 : decode mX6_inOrder.2.1 35 = .ok (.iload 4, 2) := by decide +kernel
theorem dX6_inOrder_37 : decode mX6_inOrder.2.1 37 = .ok (.iload 5, 2) := by decide +kernel
theorem dX6_inOrder_39 : decode mX6_inOrder.2.1 39 = .ok (.iload 7, 2) := by decide +kernel
theorem dX6_inOrder_41 : decode mX6_inOrder.2.1 41 = .ok (.invokevirtual 292, 3) := by decide +kernel
theorem dX6_inOrder_44 : decode mX6_inOrder.2.1 44 = .ok (.istore 6, 2) := by decide +kernel
theorem dX6_inOrder_46 : decode mX6_inOrder.2.1 46 = .ok (.iload 6, 2) := by decide +kernel
theorem dX6_inOrder_48 : decode mX6_inOrder.2.1 48 = .ok (.bipush (-9), 2) := by decide +kernel
theorem dX6_inOrder_50 : decode mX6_inOrder.2.1 50 = .ok (.if_icmp .ne 6, 3) := by decide +kernel
theorem dX6_inOrder_53 : decode mX6_inOrder.2.1 53 = .ok (.bipush (-9), 2) := by decide +kernel
theorem dX6_inOrder_55 : decode mX6_inOrder.2.1 55 = .ok (.ireturn, 1) := by decide +kernel
theorem dX6_inOrder_56 : decode mX6_inOrder.2.1 56 = .ok (.aload_n 0, 1) := by decide +kernel
theorem dX6_inOrder_57 : decode mX6_inOrder.2.1 57 = .ok (.aload_n 0, 1) := by decide +kernel
theorem dX6_inOrder_58 : decode mX6_inOrder.2.1 58 = .ok (.iload 4, 2) := by decide +kernel
theorem dX6_inOrder_60 : decode mX6_inOrder.2.1 60 = .ok (.aload_n 0, 1) := by decide +kernel
theorem dX6_inOrder_61 : decode mX6_inOrder.2.1 61 = .ok (.getfield 55, 3) := by decide +kernel
theorem dX6_inOrder_64 : decode mX6_inOrder.2.1 64 = .ok (.iload 6, 2) := by decide +kernel
theorem dX6_inOrder_66 : decode mX6_inOrder.2.1 66 = .ok (.invokevirtual 107, 3) := by decide +kernel
theorem dX6_inOrder_69 : decode mX6_inOrder.2.1 69 = .ok (.iload 5, 2) := by decide +kernel
theorem dX6_inOrder_71 : decode mX6_inOrder.2.1 71 = .ok (.invokestatic 281, 3) := by decide +kernel
theorem dX6_inOrder_74 : decode mX6_inOrder.2.1 74 = .ok (.invokevirtual 170, 3) := by decide +kernel
theorem dX6_inOrder_77 : decode mX6_inOrder.2.1 77 = .ok (.iconst 0, 1) := by decide +kernel
theorem dX6_inOrder_78 : decode mX6_inOrder.2.1 78 = .ok (.invokevirtual 170, 3) := by decide +kernel
theorem dX6_inOrder_81 : decode mX6_inOrder.2.1 81 = .ok (.istore 4, 2) := by decide +kernel
theorem dX6_inOrder_83 : decode mX6_inOrder.2.1 83 = .ok (.iconst 0, 1) := by decide +kernel
theorem dX6_inOrder_84 : decode mX6_inOrder.2.1 84 = .ok (.istore 5, 2) := by decide +kernel
theorem dX6_inOrder_86 : decode mX6_inOrder.2.1 86 = .ok (.iload_n 3, 1) := by decide +kernel
theorem dX6_inOrder_87 : decode mX6_inOrder.2.1 87 = .ok (.iload 6, 2) := by decide +kernel
theorem dX6_inOrder_89 : decode mX6_inOrder.2.1 89 = .ok (.invokestatic 178, 3) := by decide +kernel
theorem dX6_inOrder_92 : decode mX6_inOrder.2.1 92 = .ok (.iconst (-1), 1) := by decide +kernel
theorem dX6_inOrder_93 : decode mX6_inOrder.2.1 93 = .ok (.ixor, 1) := by decide +kernel
theorem dX6_inOrder_94 : decode mX6_inOrder.2.1 94 = .ok (.iand, 1) := by decide +kernel
theorem dX6_inOrder_95 : decode mX6_inOrder.2.1 95 = .ok (.istore_n 3, 1) := by decide +kernel
theorem dX6_inOrder_96 : decode mX6_inOrder.2.1 96 = .ok (.iinc 7 1, 3) := by decide +kernel
theorem dX6_inOrder_99 : decode mX6_inOrder.2.1 99 = .ok (.goto (-72), 3) := by decide +kernel
theorem dX6_inOrder_102 : decode mX6_inOrder.2.1 102 = .ok (.iload 6, 2) := by decide +kernel
theorem dX6_inOrder_104 : decode mX6_inOrder.2.1 104 = .ok (.ireturn, 1) := by decide +kernel
theorem dX6_bestNext_0 : decode mX6_bestNext.2.1 0 = .ok (.bipush (-9), 2) := by decide +kernel
theorem dX6_bestNext_2 : decode mX6_bestNext.2.1 2 = .ok (.istore 5, 2) := by decide +kernel
theorem dX6_bestNext_4 : decode mX6_bestNext.2.1 4 = .ok (.ldc_w 284, 3) := by decide +kernel
theorem dX6_bestNext_7 : decode mX6_bestNext.2.1 7 = .ok (.istore 6, 2) := by decide +kernel
theorem dX6_bestNext_9 : decode mX6_bestNext.2.1 9 = .ok (.iconst 0, 1) := by decide +kernel
theorem dX6_bestNext_10 : decode mX6_bestNext.2.1 10 = .ok (.istore 7, 2) := by decide +kernel
theorem dX6_bestNext_12 : decode mX6_bestNext.2.1 12 = .ok (.iload 7, 2) := by decide +kernel
theorem dX6_bestNext_14 : decode mX6_bestNext.2.1 14 = .ok (.aload_n 0, 1) := by decide +kernel
theorem dX6_bestNext_15 : decode mX6_bestNext.2.1 15 = .ok (.getfield 30, 3) := by decide +kernel
theorem dX6_bestNext_18 : decode mX6_bestNext.2.1 18 = .ok (.getfield 189, 3) := by decide +kernel
theorem dX6_bestNext_21 : decode mX6_bestNext.2.1 21 = .ok (.if_icmp .ge 52, 3) := by decide +kernel
theorem dX6_bestNext_24 : decode mX6_bestNext.2.1 24 = .ok (.iload_n 1, 1) := by decide +kernel
theorem dX6_bestNext_25 : decode mX6_bestNext.2.1 25 = .ok (.iload 7, 2) := by decide +kernel
theorem dX6_bestNext_27 : decode mX6_bestNext.2.1 27 = .ok (.invokestatic 174, 3) := by decide +kernel
theorem dX6_bestNext_30 : decode mX6_bestNext.2.1 30 = .ok (.ifCond .eq 17, 3) := by decide +kernel
theorem dX6_bestNext_33 : decode mX6_bestNext.2.1 33 = .ok (.aload_n 0, 1) := by decide +kernel
theorem dX6_bestNext_34 : decode mX6_bestNext.2.1 34 = .ok (.iload 7, 2) := by decide +kernel
theorem dX6_bestNext_36 : decode mX6_bestNext.2.1 36 = .ok (.iload_n 1, 1) := by decide +kernel
theorem dX6_bestNext_37 : decode mX6_bestNext.2.1 37 = .ok (.iload_n 2, 1) := by decide +kernel
theorem dX6_bestNext_38 : decode mX6_bestNext.2.1 38 = .ok (.iload_n 3, 1) := by decide +kernel
theorem dX6_bestNext_39 : decode mX6_bestNext.2.1 39 = .ok (.iload 4, 2) := by decide +kernel
theorem dX6_bestNext_41 : decode mX6_bestNext.2.1 41 = .ok (.invokevirtual 285, 3) := by decide +kernel
theorem dX6_bestNext_44 : decode mX6_bestNext.2.1 44 = .ok (.goto 6, 3) := by decide +kernel
theorem dX6_bestNext_47 : decode mX6_bestNext.2.1 47 = .ok (.ldc_w 284, 3) := by decide +kernel
theorem dX6_bestNext_50 : decode mX6_bestNext.2.1 50 = .ok (.istore 8, 2) := by decide +kernel
theorem dX6_bestNext_52 : decode mX6_bestNext.2.1 52 = .ok (.iload 8, 2) := by decide +kernel
theorem dX6_bestNext_54 : decode mX6_bestNext.2.1 54 = .ok (.iload 6, 2) := by decide +kernel
theorem dX6_bestNext_56 : decode mX6_bestNext.2.1 56 = .ok (.if_icmp .ge 11, 3) := by decide +kernel
theorem dX6_bestNext_59 : decode mX6_bestNext.2.1 59 = .ok (.iload 8, 2) := by decide +kernel
theorem dX6_bestNext_61 : decode mX6_bestNext.2.1 61 = .ok (.istore 6, 2) := by decide +kernel
theorem dX6_bestNext_63 : decode mX6_bestNext.2.1 63 = .ok (.iload 7, 2) := by decide +kernel
theorem dX6_bestNext_65 : decode mX6_bestNext.2.1 65 = .ok (.istore 5, 2) := by decide +kernel
theorem dX6_bestNext_67 : decode mX6_bestNext.2.1 67 = .ok (.iinc 7 1, 3) := by decide +kernel
theorem dX6_bestNext_70 : decode mX6_bestNext.2.1 70 = .ok (.goto (-58), 3) := by decide +kernel
theorem dX6_bestNext_73 : decode mX6_bestNext.2.1 73 = .ok (.iload 5, 2) := by decide +kernel
theorem dX6_bestNext_75 : decode mX6_bestNext.2.1 75 = .ok (.ireturn, 1) := by decide +kernel
theorem dX6_explainsAll_0 : decode mX6_explainsAll.2.1 0 = .ok (.aload_n 0, 1) := by decide +kernel
theorem dX6_explainsAll_1 : decode mX6_explainsAll.2.1 1 = .ok (.getfield 30, 3) := by decide +kernel
theorem dX6_explainsAll_4 : decode mX6_explainsAll.2.1 4 = .ok (.getfield 104, 3) := by decide +kernel
theorem dX6_explainsAll_7 : decode mX6_explainsAll.2.1 7 = .ok (.iload_n 1, 1) := by decide +kernel
theorem dX6_explainsAll_8 : decode mX6_explainsAll.2.1 8 = .ok (.invokevirtual 126, 3) := by decide +kernel
theorem dX6_explainsAll_11 : decode mX6_explainsAll.2.1 11 = .ok (.istore_n 2, 1) := by decide +kernel
theorem dX6_explainsAll_12 : decode mX6_explainsAll.2.1 12 = .ok (.iconst 0, 1) := by decide +kernel
theorem dX6_explainsAll_13 : decode mX6_explainsAll.2.1 13 = .ok (.istore_n 3, 1) := by decide +kernel
theorem dX6_explainsAll_14 : decode mX6_explainsAll.2.1 14 = .ok (.iload_n 3, 1) := by decide +kernel
theorem dX6_explainsAll_15 : decode mX6_explainsAll.2.1 15 = .ok (.aload_n 0, 1) := by decide +kernel
theorem dX6_explainsAll_16 : decode mX6_explainsAll.2.1 16 = .ok (.getfield 93, 3) := by decide +kernel
theorem dX6_explainsAll_19 : decode mX6_explainsAll.2.1 19 = .ok (.if_icmp .ge 39, 3) := by decide +kernel
theorem dX6_explainsAll_22 : decode mX6_explainsAll.2.1 22 = .ok (.aload_n 0, 1) := by decide +kernel
theorem dX6_explainsAll_23 : decode mX6_explainsAll.2.1 23 = .ok (.iconst 0, 1) := by decide +kernel
theorem dX6_explainsAll_24 : decode mX6_explainsAll.2.1 24 = .ok (.aload_n 0, 1) := by decide +kernel
theorem dX6_explainsAll_25 : decode mX6_explainsAll.2.1 25 = .ok (.getfield 65, 3) := by decide +kernel
theorem dX6_explainsAll_28 : decode mX6_explainsAll.2.1 28 = .ok (.iload_n 3, 1) := by decide +kernel
theorem dX6_explainsAll_29 : decode mX6_explainsAll.2.1 29 = .ok (.invokevirtual 107, 3) := by decide +kernel
theorem dX6_explainsAll_32 : decode mX6_explainsAll.2.1 32 = .ok (.iload_n 2, 1) := by decide +kernel
theorem dX6_explainsAll_33 : decode mX6_explainsAll.2.1 33 = .ok (.invokestatic 281, 3) := by decide +kernel
theorem dX6_explainsAll_36 : decode mX6_explainsAll.2.1 36 = .ok (.invokevirtual 170, 3) := by decide +kernel
theorem dX6_explainsAll_39 : decode mX6_explainsAll.2.1 39 = .ok (.aload_n 0, 1) := by decide +kernel
theorem dX6_explainsAll_40 : decode mX6_explainsAll.2.1 40 = .ok (.getfield 68, 3) := by decide +kernel
theorem dX6_explainsAll_43 : decode mX6_explainsAll.2.1 43 = .ok (.iload_n 3, 1) := by decide +kernel
theorem dX6_explainsAll_44 : decode mX6_explainsAll.2.1 44 = .ok (.invokevirtual 107, 3) := by decide +kernel
theorem dX6_explainsAll_47 : decode mX6_explainsAll.2.1 47 = .ok (.if_icmp .eq 5, 3) := by decide +kernel
theorem dX6_explainsAll_50 : decode mX6_explainsAll.2.1 50 = .ok (.iconst 0, 1) := by decide +kernel
theorem dX6_explainsAll_51 : decode mX6_explainsAll.2.1 51 = .ok (.ireturn, 1) := by decide +kernel
theorem dX6_explainsAll_52 : decode mX6_explainsAll.2.1 52 = .ok (.iinc 3 1, 3) := by decide +kernel
theorem dX6_explainsAll_55 : decode mX6_explainsAll.2.1 55 = .ok (.goto (-41), 3) := by decide +kernel
theorem dX6_explainsAll_58 : decode mX6_explainsAll.2.1 58 = .ok (.iconst 1, 1) := by decide +kernel
theorem dX6_explainsAll_59 : decode mX6_explainsAll.2.1 59 = .ok (.ireturn, 1) := by decide +kernel
theorem dX6_setsWith_0 : decode mX6_setsWith.2.1 0 = .ok (.iconst 0, 1) := by decide +kernel
theorem dX6_setsWith_1 : decode mX6_setsWith.2.1 1 = .ok (.istore_n 2, 1) := by decide +kernel
theorem dX6_setsWith_2 : decode mX6_setsWith.2.1 2 = .ok (.iconst 0, 1) := by decide +kernel
theorem dX6_setsWith_3 : decode mX6_setsWith.2.1 3 = .ok (.istore_n 3, 1) := by decide +kernel
theorem dX6_setsWith_4 : decode mX6_setsWith.2.1 4 = .ok (.iload_n 3, 1) := by decide +kernel
theorem dX6_setsWith_5 : decode mX6_setsWith.2.1 5 = .ok (.aload_n 0, 1) := by decide +kernel
theorem dX6_setsWith_6 : decode mX6_setsWith.2.1 6 = .ok (.getfield 30, 3) := by decide +kernel
theorem dX6_setsWith_9 : decode mX6_setsWith.2.1 9 = .ok (.getfield 214, 3) := by decide +kernel
theorem dX6_setsWith_12 : decode mX6_setsWith.2.1 12 = .ok (.invokestatic 195, 3) := by decide +kernel
theorem dX6_setsWith_15 : decode mX6_setsWith.2.1 15 = .ok (.if_icmp .gt 27, 3) := by decide +kernel
theorem dX6_setsWith_18 : decode mX6_setsWith.2.1 18 = .ok (.iload_n 3, 1) := by decide +kernel
theorem dX6_setsWith_19 : decode mX6_setsWith.2.1 19 = .ok (.iload_n 1, 1) := by decide +kernel
theorem dX6_setsWith_20 : decode mX6_setsWith.2.1 20 = .ok (.iand, 1) := by decide +kernel
theorem dX6_setsWith_21 : decode mX6_setsWith.2.1 21 = .ok (.iload_n 1, 1) := by decide +kernel
theorem dX6_setsWith_22 : decode mX6_setsWith.2.1 22 = .ok (.if_icmp .ne 14, 3) := by decide +kernel
theorem dX6_setsWith_25 : decode mX6_setsWith.2.1 25 = .ok (.aload_n 0, 1) := by decide +kernel
theorem dX6_setsWith_26 : decode mX6_setsWith.2.1 26 = .ok (.iload_n 3, 1) := by decide +kernel
theorem dX6_setsWith_27 : decode mX6_setsWith.2.1 27 = .ok (.invokevirtual 295, 3) := by decide +kernel
theorem dX6_setsWith_30 : decode mX6_setsWith.2.1 30 = .ok (.ifCond .eq 6, 3) := by decide +kernel
theorem dX6_setsWith_33 : decode mX6_setsWith.2.1 33 = .ok (.iinc 2 1, 3) := by decide +kernel
theorem dX6_setsWith_36 : decode mX6_setsWith.2.1 36 = .ok (.iinc 3 1, 3) := by decide +kernel
theorem dX6_setsWith_39 : decode mX6_setsWith.2.1 39 = .ok (.goto (-35), 3) := by decide +kernel
theorem dX6_setsWith_42 : decode mX6_setsWith.2.1 42 = .ok (.iload_n 2, 1) := by decide +kernel
theorem dX6_setsWith_43 : decode mX6_setsWith.2.1 43 = .ok (.ireturn, 1) := by decide +kernel
theorem dX6_deedsInAllSets_0 : decode mX6_deedsInAllSets.2.1 0 = .ok (.aload_n 0, 1) := by decide +kernel
theorem dX6_deedsInAllSets_1 : decode mX6_deedsInAllSets.2.1 1 = .ok (.iconst 0, 1) := by decide +kernel
theorem dX6_deedsInAllSets_2 : decode mX6_deedsInAllSets.2.1 2 = .ok (.invokevirtual 205, 3) := by decide +kernel
theorem dX6_deedsInAllSets_5 : decode mX6_deedsInAllSets.2.1 5 = .ok (.istore_n 1, 1) := by decide +kernel
theorem dX6_deedsInAllSets_6 : decode mX6_deedsInAllSets.2.1 6 = .ok (.iload_n 1, 1) := by decide +kernel
theorem dX6_deedsInAllSets_7 : decode mX6_deedsInAllSets.2.1 7 = .ok (.ifCond .ne 6, 3) := by decide +kernel
theorem dX6_deedsInAllSets_10 : decode mX6_deedsInAllSets.2.1 10 = .ok (.bipush (-9), 2) := by decide +kernel
theorem dX6_deedsInAllSets_12 : decode mX6_deedsInAllSets.2.1 12 = .ok (.ireturn, 1) := by decide +kernel
theorem dX6_deedsInAllSets_13 : decode mX6_deedsInAllSets.2.1 13 = .ok (.iconst 0, 1) := by decide +kernel
theorem dX6_deedsInAllSets_14 : decode mX6_deedsInAllSets.2.1 14 = .ok (.istore_n 2, 1) := by decide +kernel
theorem dX6_deedsInAllSets_15 : decode mX6_deedsInAllSets.2.1 15 = .ok (.iconst 0, 1) := by decide +kernel
theorem dX6_deedsInAllSets_16 : decode mX6_deedsInAllSets.2.1 16 = .ok (.istore_n 3, 1) := by decide +kernel
theorem dX6_deedsInAllSets_17 : decode mX6_deedsInAllSets.2.1 17 = .ok (.iload_n 3, 1) := by decide +kernel
theorem dX6_deedsInAllSets_18 : decode mX6_deedsInAllSets.2.1 18 = .ok (.aload_n 0, 1) := by decide +kernel
theorem dX6_deedsInAllSets_19 : decode mX6_deedsInAllSets.2.1 19 = .ok (.getfield 30, 3) := by decide +kernel
theorem dX6_deedsInAllSets_22 : decode mX6_deedsInAllSets.2.1 22 = .ok (.getfield 214, 3) := by decide +kernel
theorem dX6_deedsInAllSets_25 : decode mX6_deedsInAllSets.2.1 25 = .ok (.if_icmp .ge 28, 3) := by decide +kernel
theorem dX6_deedsInAllSets_28 : decode mX6_deedsInAllSets.2.1 28 = .ok (.aload_n 0, 1) := by decide +kernel
theorem dX6_deedsInAllSets_29 : decode mX6_deedsInAllSets.2.1 29 = .ok (.iload_n 3, 1) := by decide +kernel
theorem dX6_deedsInAllSets_30 : decode mX6_deedsInAllSets.2.1 30 = .ok (.invokestatic 178, 3) := by decide +kernel
theorem dX6_deedsInAllSets_33 : decode mX6_deedsInAllSets.2.1 33 = .ok (.invokevirtual 205, 3) := by decide +kernel
theorem dX6_deedsInAllSets_36 : decode mX6_deedsInAllSets.2.1 36 = .ok (.iload_n 1, 1) := by decide +kernel
theorem dX6_deedsInAllSets_37 : decode mX6_deedsInAllSets.2.1 37 = .ok (.if_icmp .ne 10, 3) := by decide +kernel
theorem dX6_deedsInAllSets_40 : decode mX6_deedsInAllSets.2.1 40 = .ok (.iload_n 2, 1) := by decide +kernel
theorem dX6_deedsInAllSets_41 : decode mX6_deedsInAllSets.2.1 41 = .ok (.iload_n 3, 1) := by decide +kernel
theorem dX6_deedsInAllSets_42 : decode mX6_deedsInAllSets.2.1 42 = .ok (.invokestatic 178, 3) := by decide +kernel
theorem dX6_deedsInAllSets_45 : decode mX6_deedsInAllSets.2.1 45 = .ok (.ior, 1) := by decide +kernel
theorem dX6_deedsInAllSets_46 : decode mX6_deedsInAllSets.2.1 46 = .ok (.istore_n 2, 1) := by decide +kernel
theorem dX6_deedsInAllSets_47 : decode mX6_deedsInAllSets.2.1 47 = .ok (.iinc 3 1, 3) := by decide +kernel
theorem dX6_deedsInAllSets_50 : decode mX6_deedsInAllSets.2.1 50 = .ok (.goto (-33), 3) := by decide +kernel
theorem dX6_deedsInAllSets_53 : decode mX6_deedsInAllSets.2.1 53 = .ok (.iload_n 2, 1) := by decide +kernel
theorem dX6_deedsInAllSets_54 : decode mX6_deedsInAllSets.2.1 54 = .ok (.ireturn, 1) := by decide +kernel
theorem dX6_deedsInSomeSets_0 : decode mX6_deedsInSomeSets.2.1 0 = .ok (.iconst 0, 1) := by decide +kernel
theorem dX6_deedsInSomeSets_1 : decode mX6_deedsInSomeSets.2.1 1 = .ok (.istore_n 1, 1) := by decide +kernel
theorem dX6_deedsInSomeSets_2 : decode mX6_deedsInSomeSets.2.1 2 = .ok (.iconst 0, 1) := by decide +kernel
theorem dX6_deedsInSomeSets_3 : decode mX6_deedsInSomeSets.2.1 3 = .ok (.istore_n 2, 1) := by decide +kernel
theorem dX6_deedsInSomeSets_4 : decode mX6_deedsInSomeSets.2.1 4 = .ok (.iload_n 2, 1) := by decide +kernel
theorem dX6_deedsInSomeSets_5 : decode mX6_deedsInSomeSets.2.1 5 = .ok (.aload_n 0, 1) := by decide +kernel
theorem dX6_deedsInSomeSets_6 : decode mX6_deedsInSomeSets.2.1 6 = .ok (.getfield 30, 3) := by decide +kernel
theorem dX6_deedsInSomeSets_9 : decode mX6_deedsInSomeSets.2.1 9 = .ok (.getfield 214, 3) := by decide +kernel
theorem dX6_deedsInSomeSets_12 : decode mX6_deedsInSomeSets.2.1 12 = .ok (.if_icmp .ge 27, 3) := by decide +kernel
theorem dX6_deedsInSomeSets_15 : decode mX6_deedsInSomeSets.2.1 15 = .ok (.aload_n 0, 1) := by decide +kernel
theorem dX6_deedsInSomeSets_16 : decode mX6_deedsInSomeSets.2.1 16 = .ok (.iload_n 2, 1) := by decide +kernel
theorem dX6_deedsInSomeSets_17 : decode mX6_deedsInSomeSets.2.1 17 = .ok (.invokestatic 178, 3) := by decide +kernel
theorem dX6_deedsInSomeSets_20 : decode mX6_deedsInSomeSets.2.1 20 = .ok (.invokevirtual 205, 3) := by decide +kernel
theorem dX6_deedsInSomeSets_23 : decode mX6_deedsInSomeSets.2.1 23 = .ok (.ifCond .le 10, 3) := by decide +kernel
theorem dX6_deedsInSomeSets_26 : decode mX6_deedsInSomeSets.2.1 26 = .ok (.iload_n 1, 1) := by decide +kernel
theorem dX6_deedsInSomeSets_27 : decode mX6_deedsInSomeSets.2.1 27 = .ok (.iload_n 2, 1) := by decide +kernel
theorem dX6_deedsInSomeSets_28 : decode mX6_deedsInSomeSets.2.1 28 = .ok (.invokestatic 178, 3) := by decide +kernel
theorem dX6_deedsInSomeSets_31 : decode mX6_deedsInSomeSets.2.1 31 = .ok (.ior, 1) := by decide +kernel
theorem dX6_deedsInSomeSets_32 : decode mX6_deedsInSomeSets.2.1 32 = .ok (.istore_n 1, 1) := by decide +kernel
theorem dX6_deedsInSomeSets_33 : decode mX6_deedsInSomeSets.2.1 33 = .ok (.iinc 2 1, 3) := by decide +kernel
theorem dX6_deedsInSomeSets_36 : decode mX6_deedsInSomeSets.2.1 36 = .ok (.goto (-32), 3) := by decide +kernel
theorem dX6_deedsInSomeSets_39 : decode mX6_deedsInSomeSets.2.1 39 = .ok (.iload_n 1, 1) := by decide +kernel
theorem dX6_deedsInSomeSets_40 : decode mX6_deedsInSomeSets.2.1 40 = .ok (.ireturn, 1) := by decide +kernel
theorem dX6_wayOf_0 : decode mX6_wayOf.2.1 0 = .ok (.iload_n 0, 1) := by decide +kernel
theorem dX6_wayOf_1 : decode mX6_wayOf.2.1 1 = .ok (.bipush 6, 2) := by decide +kernel
theorem dX6_wayOf_3 : decode mX6_wayOf.2.1 3 = .ok (.ishl, 1) := by decide +kernel
theorem dX6_wayOf_4 : decode mX6_wayOf.2.1 4 = .ok (.iload_n 1, 1) := by decide +kernel
theorem dX6_wayOf_5 : decode mX6_wayOf.2.1 5 = .ok (.ior, 1) := by decide +kernel
theorem dX6_wayOf_6 : decode mX6_wayOf.2.1 6 = .ok (.ireturn, 1) := by decide +kernel
theorem dX6_fourOf_0 : decode mX6_fourOf.2.1 0 = .ok (.iload_n 0, 1) := by decide +kernel
theorem dX6_fourOf_1 : decode mX6_fourOf.2.1 1 = .ok (.bipush 6, 2) := by decide +kernel
theorem dX6_fourOf_3 : decode mX6_fourOf.2.1 3 = .ok (.ishr, 1) := by decide +kernel
theorem dX6_fourOf_4 : decode mX6_fourOf.2.1 4 = .ok (.ireturn, 1) := by decide +kernel
theorem dX6_leftOf_0 : decode mX6_leftOf.2.1 0 = .ok (.iload_n 0, 1) := by decide +kernel
theorem dX6_leftOf_1 : decode mX6_leftOf.2.1 1 = .ok (.bipush 6, 2) := by decide +kernel
theorem dX6_leftOf_3 : decode mX6_leftOf.2.1 3 = .ok (.invokestatic 195, 3) := by decide +kernel
theorem dX6_leftOf_6 : decode mX6_leftOf.2.1 6 = .ok (.iand, 1) := by decide +kernel
theorem dX6_leftOf_7 : decode mX6_leftOf.2.1 7 = .ok (.ireturn, 1) := by decide +kernel
theorem dX6_unevenness_0 : decode mX6_unevenness.2.1 0 = .ok (.iload_n 1, 1) := by decide +kernel
theorem dX6_unevenness_1 : decode mX6_unevenness.2.1 1 = .ok (.invokestatic 228, 3) := by decide +kernel
theorem dX6_unevenness_4 : decode mX6_unevenness.2.1 4 = .ok (.istore_n 2, 1) := by decide +kernel
theorem dX6_unevenness_5 : decode mX6_unevenness.2.1 5 = .ok (.iload_n 1, 1) := by decide +kernel
theorem dX6_unevenness_6 : decode mX6_unevenness.2.1 6 = .ok (.invokestatic 225, 3) := by decide +kernel
theorem dX6_unevenness_9 : decode mX6_unevenness.2.1 9 = .ok (.iload_n 2, 1) := by decide +kernel
theorem dX6_unevenness_10 : decode mX6_unevenness.2.1 10 = .ok (.iconst (-1), 1) := by decide +kernel
theorem dX6_unevenness_11 : decode mX6_unevenness.2.1 11 = .ok (.ixor, 1) := by decide +kernel
theorem dX6_unevenness_12 : decode mX6_unevenness.2.1 12 = .ok (.iand, 1) := by decide +kernel
theorem dX6_unevenness_13 : decode mX6_unevenness.2.1 13 = .ok (.istore_n 3, 1) := by decide +kernel
theorem dX6_unevenness_14 : decode mX6_unevenness.2.1 14 = .ok (.aload_n 0, 1) := by decide +kernel
theorem dX6_unevenness_15 : decode mX6_unevenness.2.1 15 = .ok (.getfield 30, 3) := by decide +kernel
theorem dX6_unevenness_18 : decode mX6_unevenness.2.1 18 = .ok (.getfield 144, 3) := by decide +kernel
theorem dX6_unevenness_21 : decode mX6_unevenness.2.1 21 = .ok (.iload_n 2, 1) := by decide +kernel
theorem dX6_unevenness_22 : decode mX6_unevenness.2.1 22 = .ok (.invokevirtual 126, 3) := by decide +kernel
theorem dX6_unevenness_25 : decode mX6_unevenness.2.1 25 = .ok (.aload_n 0, 1) := by decide +kernel
theorem dX6_unevenness_26 : decode mX6_unevenness.2.1 26 = .ok (.getfield 30, 3) := by decide +kernel
theorem dX6_unevenness_29 : decode mX6_unevenness.2.1 29 = .ok (.getfield 144, 3) := by decide +kernel
theorem dX6_unevenness_32 : decode mX6_unevenness.2.1 32 = .ok (.iload_n 3, 1) := by decide +kernel
theorem dX6_unevenness_33 : decode mX6_unevenness.2.1 33 = .ok (.invokevirtual 126, 3) := by decide +kernel
theorem dX6_unevenness_36 : decode mX6_unevenness.2.1 36 = .ok (.isub, 1) := by decide +kernel
theorem dX6_unevenness_37 : decode mX6_unevenness.2.1 37 = .ok (.invokestatic 289, 3) := by decide +kernel
theorem dX6_unevenness_40 : decode mX6_unevenness.2.1 40 = .ok (.ireturn, 1) := by decide +kernel
theorem dX6_isBetter_0 : decode mX6_isBetter.2.1 0 = .ok (.aload_n 0, 1) := by decide +kernel
theorem dX6_isBetter_1 : decode mX6_isBetter.2.1 1 = .ok (.iload_n 1, 1) := by decide +kernel
theorem dX6_isBetter_2 : decode mX6_isBetter.2.1 2 = .ok (.invokevirtual 231, 3) := by decide +kernel
theorem dX6_isBetter_5 : decode mX6_isBetter.2.1 5 = .ok (.istore_n 3, 1) := by decide +kernel
theorem dX6_isBetter_6 : decode mX6_isBetter.2.1 6 = .ok (.aload_n 0, 1) := by decide +kernel
theorem dX6_isBetter_7 : decode mX6_isBetter.2.1 7 = .ok (.iload_n 2, 1) := by decide +kernel
theorem dX6_isBetter_8 : decode mX6_isBetter.2.1 8 = .ok (.invokevirtual 231, 3) := by decide +kernel
theorem dX6_isBetter_11 : decode mX6_isBetter.2.1 11 = .ok (.istore 4, 2) := by decide +kernel
theorem dX6_isBetter_13 : decode mX6_isBetter.2.1 13 = .ok (.iload_n 3, 1) := by decide +kernel
theorem dX6_isBetter_14 : decode mX6_isBetter.2.1 14 = .ok (.iload 4, 2) := by decide +kernel
theorem dX6_isBetter_16 : decode mX6_isBetter.2.1 16 = .ok (.if_icmp .eq 15, 3) := by decide +kernel
theorem dX6_isBetter_19 : decode mX6_isBetter.2.1 19 = .ok (.iload_n 3, 1) := by decide +kernel
theorem dX6_isBetter_20 : decode mX6_isBetter.2.1 20 = .ok (.iload 4, 2) := by decide +kernel
theorem dX6_isBetter_22 : decode mX6_isBetter.2.1 22 = .ok (.if_icmp .ge 7, 3) := by decide +kernel
theorem dX6_isBetter_25 : decode mX6_isBetter.2.1 25 = .ok (.iconst 1, 1) := by decide +kernel
theorem dX6_isBetter_26 : decode mX6_isBetter.2.1 26 = .ok (.goto 4, 3) := by decide +kernel
theorem dX6_isBetter_29 : decode mX6_isBetter.2.1 29 = .ok (.iconst 0, 1) := by decide +kernel
theorem dX6_isBetter_30 : decode mX6_isBetter.2.1 30 = .ok (.ireturn, 1) := by decide +kernel
theorem dX6_isBetter_31 : decode mX6_isBetter.2.1 31 = .ok (.aload_n 0, 1) := by decide +kernel
theorem dX6_isBetter_32 : decode mX6_isBetter.2.1 32 = .ok (.getfield 30, 3) := by decide +kernel
theorem dX6_isBetter_35 : decode mX6_isBetter.2.1 35 = .ok (.getfield 144, 3) := by decide +kernel
theorem dX6_isBetter_38 : decode mX6_isBetter.2.1 38 = .ok (.iload_n 1, 1) := by decide +kernel
theorem dX6_isBetter_39 : decode mX6_isBetter.2.1 39 = .ok (.invokestatic 225, 3) := by decide +kernel
theorem dX6_isBetter_42 : decode mX6_isBetter.2.1 42 = .ok (.invokevirtual 126, 3) := by decide +kernel
theorem dX6_isBetter_45 : decode mX6_isBetter.2.1 45 = .ok (.aload_n 0, 1) := by decide +kernel
theorem dX6_isBetter_46 : decode mX6_isBetter.2.1 46 = .ok (.getfield 30, 3) := by decide +kernel
theorem dX6_isBetter_49 : decode mX6_isBetter.2.1 49 = .ok (.getfield 144, 3) := by decide +kernel
theorem dX6_isBetter_52 : decode mX6_isBetter.2.1 52 = .ok (.iload_n 2, 1) := by decide +kernel
theorem dX6_isBetter_53 : decode mX6_isBetter.2.1 53 = .ok (.invokestatic 225, 3) := by decide +kernel
theorem dX6_isBetter_56 : decode mX6_isBetter.2.1 56 = .ok (.invokevirtual 126, 3) := by decide +kernel
theorem dX6_isBetter_59 : decode mX6_isBetter.2.1 59 = .ok (.if_icmp .ge 7, 3) := by decide +kernel
theorem dX6_isBetter_62 : decode mX6_isBetter.2.1 62 = .ok (.iconst 1, 1) := by decide +kernel
theorem dX6_isBetter_63 : decode mX6_isBetter.2.1 63 = .ok (.goto 4, 3) := by decide +kernel
theorem dX6_isBetter_66 : decode mX6_isBetter.2.1 66 = .ok (.iconst 0, 1) := by decide +kernel
theorem dX6_isBetter_67 : decode mX6_isBetter.2.1 67 = .ok (.ireturn, 1) := by decide +kernel
theorem dX6_bestWay_0 : decode mX6_bestWay.2.1 0 = .ok (.bipush (-9), 2) := by decide +kernel
theorem dX6_bestWay_2 : decode mX6_bestWay.2.1 2 = .ok (.istore_n 2, 1) := by decide +kernel
theorem dX6_bestWay_3 : decode mX6_bestWay.2.1 3 = .ok (.iconst 0, 1) := by decide +kernel
theorem dX6_bestWay_4 : decode mX6_bestWay.2.1 4 = .ok (.istore_n 3, 1) := by decide +kernel
theorem dX6_bestWay_5 : decode mX6_bestWay.2.1 5 = .ok (.iload_n 3, 1) := by decide +kernel
theorem dX6_bestWay_6 : decode mX6_bestWay.2.1 6 = .ok (.aload_n 0, 1) := by decide +kernel
theorem dX6_bestWay_7 : decode mX6_bestWay.2.1 7 = .ok (.getfield 30, 3) := by decide +kernel
theorem dX6_bestWay_10 : decode mX6_bestWay.2.1 10 = .ok (.getfield 237, 3) := by decide +kernel
theorem dX6_bestWay_13 : decode mX6_bestWay.2.1 13 = .ok (.invokestatic 195, 3) := by decide +kernel
theorem dX6_bestWay_16 : decode mX6_bestWay.2.1 16 = .ok (.if_icmp .gt 39, 3) := by decide +kernel
theorem dX6_bestWay_19 : decode mX6_bestWay.2.1 19 = .ok (.iload_n 3, 1) := by decide +kernel
theorem dX6_bestWay_20 : decode mX6_bestWay.2.1 20 = .ok (.invokestatic 181, 3) := by decide +kernel
theorem dX6_bestWay_23 : decode mX6_bestWay.2.1 23 = .ok (.iconst 4, 1) := by decide +kernel
theorem dX6_bestWay_24 : decode mX6_bestWay.2.1 24 = .ok (.if_icmp .ne 25, 3) := by decide +kernel
theorem dX6_bestWay_27 : decode mX6_bestWay.2.1 27 = .ok (.aload_n 0, 1) := by decide +kernel
theorem dX6_bestWay_28 : decode mX6_bestWay.2.1 28 = .ok (.getfield 30, 3) := by decide +kernel
theorem dX6_bestWay_31 : decode mX6_bestWay.2.1 31 = .ok (.getfield 144, 3) := by decide +kernel
theorem dX6_bestWay_34 : decode mX6_bestWay.2.1 34 = .ok (.iload_n 3, 1) := by decide +kernel
theorem dX6_bestWay_35 : decode mX6_bestWay.2.1 35 = .ok (.invokevirtual 126, 3) := by decide +kernel
theorem dX6_bestWay_38 : decode mX6_bestWay.2.1 38 = .ok (.iload_n 1, 1) := by decide +kernel
theorem dX6_bestWay_39 : decode mX6_bestWay.2.1 39 = .ok (.if_icmp .lt 10, 3) := by decide +kernel
theorem dX6_bestWay_42 : decode mX6_bestWay.2.1 42 = .ok (.aload_n 0, 1) := by decide +kernel
theorem dX6_bestWay_43 : decode mX6_bestWay.2.1 43 = .ok (.iload_n 3, 1) := by decide +kernel
theorem dX6_bestWay_44 : decode mX6_bestWay.2.1 44 = .ok (.iload_n 2, 1) := by decide +kernel
theorem dX6_bestWay_45 : decode mX6_bestWay.2.1 45 = .ok (.invokevirtual 298, 3) := by decide +kernel
theorem dX6_bestWay_48 : decode mX6_bestWay.2.1 48 = .ok (.istore_n 2, 1) := by decide +kernel
theorem dX6_bestWay_49 : decode mX6_bestWay.2.1 49 = .ok (.iinc 3 1, 3) := by decide +kernel
theorem dX6_bestWay_52 : decode mX6_bestWay.2.1 52 = .ok (.goto (-47), 3) := by decide +kernel
theorem dX6_bestWay_55 : decode mX6_bestWay.2.1 55 = .ok (.iload_n 2, 1) := by decide +kernel
theorem dX6_bestWay_56 : decode mX6_bestWay.2.1 56 = .ok (.ireturn, 1) := by decide +kernel
theorem dX6_betterWay_0 : decode mX6_betterWay.2.1 0 = .ok (.iload_n 2, 1) := by decide +kernel
theorem dX6_betterWay_1 : decode mX6_betterWay.2.1 1 = .ok (.istore_n 3, 1) := by decide +kernel
theorem dX6_betterWay_2 : decode mX6_betterWay.2.1 2 = .ok (.iconst 0, 1) := by decide +kernel
theorem dX6_betterWay_3 : decode mX6_betterWay.2.1 3 = .ok (.istore 4, 2) := by decide +kernel
theorem dX6_betterWay_5 : decode mX6_betterWay.2.1 5 = .ok (.iload 4, 2) := by decide +kernel
theorem dX6_betterWay_7 : decode mX6_betterWay.2.1 7 = .ok (.iload_n 1, 1) := by decide +kernel
theorem dX6_betterWay_8 : decode mX6_betterWay.2.1 8 = .ok (.if_icmp .ge 66, 3) := by decide +kernel
theorem dX6_betterWay_11 : decode mX6_betterWay.2.1 11 = .ok (.iload 4, 2) := by decide +kernel
theorem dX6_betterWay_13 : decode mX6_betterWay.2.1 13 = .ok (.iload_n 1, 1) := by decide +kernel
theorem dX6_betterWay_14 : decode mX6_betterWay.2.1 14 = .ok (.iconst (-1), 1) := by decide +kernel
theorem dX6_betterWay_15 : decode mX6_betterWay.2.1 15 = .ok (.ixor, 1) := by decide +kernel
theorem dX6_betterWay_16 : decode mX6_betterWay.2.1 16 = .ok (.iand, 1) := by decide +kernel
theorem dX6_betterWay_17 : decode mX6_betterWay.2.1 17 = .ok (.ifCond .ne 16, 3) := by decide +kernel
theorem dX6_betterWay_20 : decode mX6_betterWay.2.1 20 = .ok (.iload 4, 2) := by decide +kernel
theorem dX6_betterWay_22 : decode mX6_betterWay.2.1 22 = .ok (.invokestatic 181, 3) := by decide +kernel
theorem dX6_betterWay_25 : decode mX6_betterWay.2.1 25 = .ok (.iconst 2, 1) := by decide +kernel
theorem dX6_betterWay_26 : decode mX6_betterWay.2.1 26 = .ok (.if_icmp .ne 7, 3) := by decide +kernel
theorem dX6_betterWay_29 : decode mX6_betterWay.2.1 29 = .ok (.iconst 1, 1) := by decide +kernel
theorem dX6_betterWay_30 : decode mX6_betterWay.2.1 30 = .ok (.goto 4, 3) := by decide +kernel
theorem dX6_betterWay_33 : decode mX6_betterWay.2.1 33 = .ok (.iconst 0, 1) := by decide +kernel
theorem dX6_betterWay_34 : decode mX6_betterWay.2.1 34 = .ok (.istore 5, 2) := by decide +kernel
theorem dX6_betterWay_36 : decode mX6_betterWay.2.1 36 = .ok (.iload 5, 2) := by decide +kernel
theorem dX6_betterWay_38 : decode mX6_betterWay.2.1 38 = .ok (.ifCond .eq 30, 3) := by decide +kernel
theorem dX6_betterWay_41 : decode mX6_betterWay.2.1 41 = .ok (.iload_n 3, 1) := by decide +kernel
theorem dX6_betterWay_42 : decode mX6_betterWay.2.1 42 = .ok (.bipush (-9), 2) := by decide +kernel
theorem dX6_betterWay_44 : decode mX6_betterWay.2.1 44 = .ok (.if_icmp .eq 17, 3) := by decide +kernel
theorem dX6_betterWay_47 : decode mX6_betterWay.2.1 47 = .ok (.aload_n 0, 1) := by decide +kernel
theorem dX6_betterWay_48 : decode mX6_betterWay.2.1 48 = .ok (.iload_n 1, 1) := by decide +kernel
end
section
theorem dX6_betterWay_49 : decode mX6_betterWay.2.1 49 = .ok (.iload 4, 2) := by decide +kernel
theorem dX6_betterWay_51 : decode mX6_betterWay.2.1 51 = .ok (.invokestatic 301, 3) := by decide +kernel
theorem dX6_betterWay_54 : decode mX6_betterWay.2.1 54 = .ok (.iload_n 3, 1) := by decide +kernel
theorem dX6_betterWay_55 : decode mX6_betterWay.2.1 55 = .ok (.invokevirtual 304, 3) := by decide +kernel
theorem dX6_betterWay_58 : decode mX6_betterWay.2.1 58 = .ok (.ifCond .eq 10, 3) := by decide +kernel
theorem dX6_betterWay_61 : decode mX6_betterWay.2.1 61 = .ok (.iload_n 1, 1) := by decide +kernel
theorem dX6_betterWay_62 : decode mX6_betterWay.2.1 62 = .ok (.iload 4, 2) := by decide +kernel
theorem dX6_betterWay_64 : decode mX6_betterWay.2.1 64 = .ok (.invokestatic 301, 3) := by decide +kernel
theorem dX6_betterWay_67 : decode mX6_betterWay.2.1 67 = .ok (.istore_n 3, 1) := by decide +kernel
theorem dX6_betterWay_68 : decode mX6_betterWay.2.1 68 = .ok (.iinc 4 1, 3) := by decide +kernel
theorem dX6_betterWay_71 : decode mX6_betterWay.2.1 71 = .ok (.goto (-66), 3) := by decide +kernel
theorem dX6_betterWay_74 : decode mX6_betterWay.2.1 74 = .ok (.iload_n 3, 1) := by decide +kernel
theorem dX6_betterWay_75 : decode mX6_betterWay.2.1 75 = .ok (.ireturn, 1) := by decide +kernel
theorem dX6_partLeaning_0 : decode mX6_partLeaning.2.1 0 = .ok (.iconst 0, 1) := by decide +kernel
theorem dX6_partLeaning_1 : decode mX6_partLeaning.2.1 1 = .ok (.istore_n 3, 1) := by decide +kernel
theorem dX6_partLeaning_2 : decode mX6_partLeaning.2.1 2 = .ok (.iconst 0, 1) := by decide +kernel
theorem dX6_partLeaning_3 : decode mX6_partLeaning.2.1 3 = .ok (.istore 4, 2) := by decide +kernel
theorem dX6_partLeaning_5 : decode mX6_partLeaning.2.1 5 = .ok (.iload 4, 2) := by decide +kernel
theorem dX6_partLeaning_7 : decode mX6_partLeaning.2.1 7 = .ok (.aload_n 0, 1) := by decide +kernel
theorem dX6_partLeaning_8 : decode mX6_partLeaning.2.1 8 = .ok (.getfield 30, 3) := by decide +kernel
theorem dX6_partLeaning_11 : decode mX6_partLeaning.2.1 11 = .ok (.getfield 237, 3) := by decide +kernel
theorem dX6_partLeaning_14 : decode mX6_partLeaning.2.1 14 = .ok (.invokestatic 195, 3) := by decide +kernel
theorem dX6_partLeaning_17 : decode mX6_partLeaning.2.1 17 = .ok (.if_icmp .gt 49, 3) := by decide +kernel
theorem dX6_partLeaning_20 : decode mX6_partLeaning.2.1 20 = .ok (.iload 4, 2) := by decide +kernel
theorem dX6_partLeaning_22 : decode mX6_partLeaning.2.1 22 = .ok (.invokestatic 181, 3) := by decide +kernel
theorem dX6_partLeaning_25 : decode mX6_partLeaning.2.1 25 = .ok (.istore 5, 2) := by decide +kernel
theorem dX6_partLeaning_27 : decode mX6_partLeaning.2.1 27 = .ok (.iload 5, 2) := by decide +kernel
theorem dX6_partLeaning_29 : decode mX6_partLeaning.2.1 29 = .ok (.iload_n 2, 1) := by decide +kernel
theorem dX6_partLeaning_30 : decode mX6_partLeaning.2.1 30 = .ok (.if_icmp .gt 30, 3) := by decide +kernel
theorem dX6_partLeaning_33 : decode mX6_partLeaning.2.1 33 = .ok (.iload_n 3, 1) := by decide +kernel
theorem dX6_partLeaning_34 : decode mX6_partLeaning.2.1 34 = .ok (.iload_n 1, 1) := by decide +kernel
theorem dX6_partLeaning_35 : decode mX6_partLeaning.2.1 35 = .ok (.iload 5, 2) := by decide +kernel
theorem dX6_partLeaning_37 : decode mX6_partLeaning.2.1 37 = .ok (.invokestatic 240, 3) := by decide +kernel
theorem dX6_partLeaning_40 : decode mX6_partLeaning.2.1 40 = .ok (.bipush 10, 2) := by decide +kernel
theorem dX6_partLeaning_42 : decode mX6_partLeaning.2.1 42 = .ok (.iload_n 1, 1) := by decide +kernel
theorem dX6_partLeaning_43 : decode mX6_partLeaning.2.1 43 = .ok (.isub, 1) := by decide +kernel
theorem dX6_partLeaning_44 : decode mX6_partLeaning.2.1 44 = .ok (.aload_n 0, 1) := by decide +kernel
theorem dX6_partLeaning_45 : decode mX6_partLeaning.2.1 45 = .ok (.getfield 30, 3) := by decide +kernel
theorem dX6_partLeaning_48 : decode mX6_partLeaning.2.1 48 = .ok (.getfield 237, 3) := by decide +kernel
theorem dX6_partLeaning_51 : decode mX6_partLeaning.2.1 51 = .ok (.iload 5, 2) := by decide +kernel
theorem dX6_partLeaning_53 : decode mX6_partLeaning.2.1 53 = .ok (.isub, 1) := by decide +kernel
theorem dX6_partLeaning_54 : decode mX6_partLeaning.2.1 54 = .ok (.invokestatic 240, 3) := by decide +kernel
theorem dX6_partLeaning_57 : decode mX6_partLeaning.2.1 57 = .ok (.imul, 1) := by decide +kernel
theorem dX6_partLeaning_58 : decode mX6_partLeaning.2.1 58 = .ok (.iadd, 1) := by decide +kernel
theorem dX6_partLeaning_59 : decode mX6_partLeaning.2.1 59 = .ok (.istore_n 3, 1) := by decide +kernel
theorem dX6_partLeaning_60 : decode mX6_partLeaning.2.1 60 = .ok (.iinc 4 1, 3) := by decide +kernel
theorem dX6_partLeaning_63 : decode mX6_partLeaning.2.1 63 = .ok (.goto (-58), 3) := by decide +kernel
theorem dX6_partLeaning_66 : decode mX6_partLeaning.2.1 66 = .ok (.iload_n 3, 1) := by decide +kernel
theorem dX6_partLeaning_67 : decode mX6_partLeaning.2.1 67 = .ok (.ireturn, 1) := by decide +kernel
theorem dX6_rateAsDeed_0 : decode mX6_rateAsDeed.2.1 0 = .ok (.aload_n 0, 1) := by decide +kernel
theorem dX6_rateAsDeed_1 : decode mX6_rateAsDeed.2.1 1 = .ok (.dup, 1) := by decide +kernel
theorem dX6_rateAsDeed_2 : decode mX6_rateAsDeed.2.1 2 = .ok (.getfield 274, 3) := by decide +kernel
theorem dX6_rateAsDeed_5 : decode mX6_rateAsDeed.2.1 5 = .ok (.lconst 1, 1) := by decide +kernel
theorem dX6_rateAsDeed_6 : decode mX6_rateAsDeed.2.1 6 = .ok (.ladd, 1) := by decide +kernel
theorem dX6_rateAsDeed_7 : decode mX6_rateAsDeed.2.1 7 = .ok (.putfield 274, 3) := by decide +kernel
theorem dX6_rateAsDeed_10 : decode mX6_rateAsDeed.2.1 10 = .ok (.aload_n 0, 1) := by decide +kernel
theorem dX6_rateAsDeed_11 : decode mX6_rateAsDeed.2.1 11 = .ok (.getfield 30, 3) := by decide +kernel
theorem dX6_rateAsDeed_14 : decode mX6_rateAsDeed.2.1 14 = .ok (.getfield 104, 3) := by decide +kernel
theorem dX6_rateAsDeed_17 : decode mX6_rateAsDeed.2.1 17 = .ok (.iload_n 1, 1) := by decide +kernel
theorem dX6_rateAsDeed_18 : decode mX6_rateAsDeed.2.1 18 = .ok (.invokevirtual 107, 3) := by decide +kernel
theorem dX6_rateAsDeed_21 : decode mX6_rateAsDeed.2.1 21 = .ok (.ireturn, 1) := by decide +kernel
theorem dX6_rateAsDebt_0 : decode mX6_rateAsDebt.2.1 0 = .ok (.aload_n 0, 1) := by decide +kernel
theorem dX6_rateAsDebt_1 : decode mX6_rateAsDebt.2.1 1 = .ok (.dup, 1) := by decide +kernel
theorem dX6_rateAsDebt_2 : decode mX6_rateAsDebt.2.1 2 = .ok (.getfield 274, 3) := by decide +kernel
theorem dX6_rateAsDebt_5 : decode mX6_rateAsDebt.2.1 5 = .ok (.ldc2_w 307, 3) := by decide +kernel
theorem dX6_rateAsDebt_8 : decode mX6_rateAsDebt.2.1 8 = .ok (.ladd, 1) := by decide +kernel
theorem dX6_rateAsDebt_9 : decode mX6_rateAsDebt.2.1 9 = .ok (.putfield 274, 3) := by decide +kernel
theorem dX6_rateAsDebt_12 : decode mX6_rateAsDebt.2.1 12 = .ok (.aload_n 0, 1) := by decide +kernel
theorem dX6_rateAsDebt_13 : decode mX6_rateAsDebt.2.1 13 = .ok (.iload_n 1, 1) := by decide +kernel
theorem dX6_rateAsDebt_14 : decode mX6_rateAsDebt.2.1 14 = .ok (.invokevirtual 246, 3) := by decide +kernel
theorem dX6_rateAsDebt_17 : decode mX6_rateAsDebt.2.1 17 = .ok (.aload_n 0, 1) := by decide +kernel
theorem dX6_rateAsDebt_18 : decode mX6_rateAsDebt.2.1 18 = .ok (.iload_n 1, 1) := by decide +kernel
theorem dX6_rateAsDebt_19 : decode mX6_rateAsDebt.2.1 19 = .ok (.invokevirtual 111, 3) := by decide +kernel
theorem dX6_rateAsDebt_22 : decode mX6_rateAsDebt.2.1 22 = .ok (.invokestatic 181, 3) := by decide +kernel
theorem dX6_rateAsDebt_25 : decode mX6_rateAsDebt.2.1 25 = .ok (.iadd, 1) := by decide +kernel
theorem dX6_rateAsDebt_26 : decode mX6_rateAsDebt.2.1 26 = .ok (.ireturn, 1) := by decide +kernel
theorem dX6_rateAsLie_0 : decode mX6_rateAsLie.2.1 0 = .ok (.aload_n 0, 1) := by decide +kernel
theorem dX6_rateAsLie_1 : decode mX6_rateAsLie.2.1 1 = .ok (.dup, 1) := by decide +kernel
theorem dX6_rateAsLie_2 : decode mX6_rateAsLie.2.1 2 = .ok (.getfield 274, 3) := by decide +kernel
theorem dX6_rateAsLie_5 : decode mX6_rateAsLie.2.1 5 = .ok (.ldc2_w 309, 3) := by decide +kernel
theorem dX6_rateAsLie_8 : decode mX6_rateAsLie.2.1 8 = .ok (.ladd, 1) := by decide +kernel
theorem dX6_rateAsLie_9 : decode mX6_rateAsLie.2.1 9 = .ok (.putfield 274, 3) := by decide +kernel
theorem dX6_rateAsLie_12 : decode mX6_rateAsLie.2.1 12 = .ok (.aload_n 0, 1) := by decide +kernel
theorem dX6_rateAsLie_13 : decode mX6_rateAsLie.2.1 13 = .ok (.iload_n 1, 1) := by decide +kernel
theorem dX6_rateAsLie_14 : decode mX6_rateAsLie.2.1 14 = .ok (.invokevirtual 246, 3) := by decide +kernel
theorem dX6_rateAsLie_17 : decode mX6_rateAsLie.2.1 17 = .ok (.aload_n 0, 1) := by decide +kernel
theorem dX6_rateAsLie_18 : decode mX6_rateAsLie.2.1 18 = .ok (.getfield 40, 3) := by decide +kernel
theorem dX6_rateAsLie_21 : decode mX6_rateAsLie.2.1 21 = .ok (.getfield 153, 3) := by decide +kernel
theorem dX6_rateAsLie_24 : decode mX6_rateAsLie.2.1 24 = .ok (.isub, 1) := by decide +kernel
theorem dX6_rateAsLie_25 : decode mX6_rateAsLie.2.1 25 = .ok (.ireturn, 1) := by decide +kernel
theorem dX6_rateAsOath_0 : decode mX6_rateAsOath.2.1 0 = .ok (.aload_n 0, 1) := by decide +kernel
theorem dX6_rateAsOath_1 : decode mX6_rateAsOath.2.1 1 = .ok (.dup, 1) := by decide +kernel
theorem dX6_rateAsOath_2 : decode mX6_rateAsOath.2.1 2 = .ok (.getfield 274, 3) := by decide +kernel
theorem dX6_rateAsOath_5 : decode mX6_rateAsOath.2.1 5 = .ok (.ldc2_w 311, 3) := by decide +kernel
theorem dX6_rateAsOath_8 : decode mX6_rateAsOath.2.1 8 = .ok (.ladd, 1) := by decide +kernel
theorem dX6_rateAsOath_9 : decode mX6_rateAsOath.2.1 9 = .ok (.putfield 274, 3) := by decide +kernel
theorem dX6_rateAsOath_12 : decode mX6_rateAsOath.2.1 12 = .ok (.iconst 2, 1) := by decide +kernel
theorem dX6_rateAsOath_13 : decode mX6_rateAsOath.2.1 13 = .ok (.aload_n 0, 1) := by decide +kernel
theorem dX6_rateAsOath_14 : decode mX6_rateAsOath.2.1 14 = .ok (.iload_n 1, 1) := by decide +kernel
theorem dX6_rateAsOath_15 : decode mX6_rateAsOath.2.1 15 = .ok (.invokevirtual 249, 3) := by decide +kernel
theorem dX6_rateAsOath_18 : decode mX6_rateAsOath.2.1 18 = .ok (.imul, 1) := by decide +kernel
theorem dX6_rateAsOath_19 : decode mX6_rateAsOath.2.1 19 = .ok (.ireturn, 1) := by decide +kernel
theorem dX6_rateAsKiss_0 : decode mX6_rateAsKiss.2.1 0 = .ok (.aload_n 0, 1) := by decide +kernel
theorem dX6_rateAsKiss_1 : decode mX6_rateAsKiss.2.1 1 = .ok (.dup, 1) := by decide +kernel
theorem dX6_rateAsKiss_2 : decode mX6_rateAsKiss.2.1 2 = .ok (.getfield 274, 3) := by decide +kernel
theorem dX6_rateAsKiss_5 : decode mX6_rateAsKiss.2.1 5 = .ok (.ldc2_w 313, 3) := by decide +kernel
theorem dX6_rateAsKiss_8 : decode mX6_rateAsKiss.2.1 8 = .ok (.ladd, 1) := by decide +kernel
theorem dX6_rateAsKiss_9 : decode mX6_rateAsKiss.2.1 9 = .ok (.putfield 274, 3) := by decide +kernel
theorem dX6_rateAsKiss_12 : decode mX6_rateAsKiss.2.1 12 = .ok (.aload_n 0, 1) := by decide +kernel
theorem dX6_rateAsKiss_13 : decode mX6_rateAsKiss.2.1 13 = .ok (.iload_n 1, 1) := by decide +kernel
theorem dX6_rateAsKiss_14 : decode mX6_rateAsKiss.2.1 14 = .ok (.invokevirtual 252, 3) := by decide +kernel
theorem dX6_rateAsKiss_17 : decode mX6_rateAsKiss.2.1 17 = .ok (.iload_n 1, 1) := by decide +kernel
theorem dX6_rateAsKiss_18 : decode mX6_rateAsKiss.2.1 18 = .ok (.iadd, 1) := by decide +kernel
theorem dX6_rateAsKiss_19 : decode mX6_rateAsKiss.2.1 19 = .ok (.ireturn, 1) := by decide +kernel
theorem dX6_rateAsTheft_0 : decode mX6_rateAsTheft.2.1 0 = .ok (.aload_n 0, 1) := by decide +kernel
theorem dX6_rateAsTheft_1 : decode mX6_rateAsTheft.2.1 1 = .ok (.dup, 1) := by decide +kernel
theorem dX6_rateAsTheft_2 : decode mX6_rateAsTheft.2.1 2 = .ok (.getfield 274, 3) := by decide +kernel
theorem dX6_rateAsTheft_5 : decode mX6_rateAsTheft.2.1 5 = .ok (.ldc2_w 315, 3) := by decide +kernel
theorem dX6_rateAsTheft_8 : decode mX6_rateAsTheft.2.1 8 = .ok (.ladd, 1) := by decide +kernel
theorem dX6_rateAsTheft_9 : decode mX6_rateAsTheft.2.1 9 = .ok (.putfield 274, 3) := by decide +kernel
theorem dX6_rateAsTheft_12 : decode mX6_rateAsTheft.2.1 12 = .ok (.aload_n 0, 1) := by decide +kernel
theorem dX6_rateAsTheft_13 : decode mX6_rateAsTheft.2.1 13 = .ok (.iload_n 1, 1) := by decide +kernel
theorem dX6_rateAsTheft_14 : decode mX6_rateAsTheft.2.1 14 = .ok (.invokevirtual 246, 3) := by decide +kernel
theorem dX6_rateAsTheft_17 : decode mX6_rateAsTheft.2.1 17 = .ok (.aload_n 0, 1) := by decide +kernel
theorem dX6_rateAsTheft_18 : decode mX6_rateAsTheft.2.1 18 = .ok (.getfield 40, 3) := by decide +kernel
theorem dX6_rateAsTheft_21 : decode mX6_rateAsTheft.2.1 21 = .ok (.getfield 147, 3) := by decide +kernel
theorem dX6_rateAsTheft_24 : decode mX6_rateAsTheft.2.1 24 = .ok (.iadd, 1) := by decide +kernel
theorem dX6_rateAsTheft_25 : decode mX6_rateAsTheft.2.1 25 = .ok (.ireturn, 1) := by decide +kernel
theorem dX7_init_0 : decode mX7_init.2.1 0 = .ok (.aload_n 0, 1) := by decide +kernel
theorem dX7_init_1 : decode mX7_init.2.1 1 = .ok (.invokespecial 1, 3) := by decide +kernel
theorem dX7_init_4 : decode mX7_init.2.1 4 = .ok (.aload_n 0, 1) := by decide +kernel
theorem dX7_init_5 : decode mX7_init.2.1 5 = .ok (.bipush 6, 2) := by decide +kernel
theorem dX7_init_7 : decode mX7_init.2.1 7 = .ok (.newarray .int, 2) := by decide +kernel
theorem dX7_init_9 : decode mX7_init.2.1 9 = .ok (.putfield 7, 3) := by decide +kernel
theorem dX7_init_12 : decode mX7_init.2.1 12 = .ok (.aload_n 0, 1) := by decide +kernel
theorem dX7_init_13 : decode mX7_init.2.1 13 = .ok (.bipush 6, 2) := by decide +kernel
theorem dX7_init_15 : decode mX7_init.2.1 15 = .ok (.newarray .int, 2) := by decide +kernel
theorem dX7_init_17 : decode mX7_init.2.1 17 = .ok (.putfield 13, 3) := by decide +kernel
theorem dX7_init_20 : decode mX7_init.2.1 20 = .ok (.aload_n 0, 1) := by decide +kernel
theorem dX7_init_21 : decode mX7_init.2.1 21 = .ok (.bipush 6, 2) := by decide +kernel
theorem dX7_init_23 : decode mX7_init.2.1 23 = .ok (.newarray .int, 2) := by decide +kernel
theorem dX7_init_25 : decode mX7_init.2.1 25 = .ok (.putfield 16, 3) := by decide +kernel
theorem dX7_init_28 : decode mX7_init.2.1 28 = .ok (.aload_n 0, 1) := by decide +kernel
theorem dX7_init_29 : decode mX7_init.2.1 29 = .ok (.bipush 80, 2) := by decide +kernel
theorem dX7_init_31 : decode mX7_init.2.1 31 = .ok (.putfield 19, 3) := by decide +kernel
theorem dX7_init_34 : decode mX7_init.2.1 34 = .ok (.aload_n 0, 1) := by decide +kernel
theorem dX7_init_35 : decode mX7_init.2.1 35 = .ok (.iconst 2, 1) := by decide +kernel
theorem dX7_init_36 : decode mX7_init.2.1 36 = .ok (.putfield 23, 3) := by decide +kernel
theorem dX7_init_39 : decode mX7_init.2.1 39 = .ok (.aload_n 0, 1) := by decide +kernel
theorem dX7_init_40 : decode mX7_init.2.1 40 = .ok (.bipush 21, 2) := by decide +kernel
theorem dX7_init_42 : decode mX7_init.2.1 42 = .ok (.newarray .int, 2) := by decide +kernel
theorem dX7_init_44 : decode mX7_init.2.1 44 = .ok (.putfield 26, 3) := by decide +kernel
theorem dX7_init_47 : decode mX7_init.2.1 47 = .ok (.aload_n 0, 1) := by decide +kernel
theorem dX7_init_48 : decode mX7_init.2.1 48 = .ok (.sipush 210, 3) := by decide +kernel
theorem dX7_init_51 : decode mX7_init.2.1 51 = .ok (.newarray .int, 2) := by decide +kernel
theorem dX7_init_53 : decode mX7_init.2.1 53 = .ok (.putfield 29, 3) := by decide +kernel
theorem dX7_init_56 : decode mX7_init.2.1 56 = .ok (.aload_n 0, 1) := by decide +kernel
theorem dX7_init_57 : decode mX7_init.2.1 57 = .ok (.bipush 42, 2) := by decide +kernel
theorem dX7_init_59 : decode mX7_init.2.1 59 = .ok (.newarray .int, 2) := by decide +kernel
theorem dX7_init_61 : decode mX7_init.2.1 61 = .ok (.putfield 32, 3) := by decide +kernel
theorem dX7_init_64 : decode mX7_init.2.1 64 = .ok (.aload_n 0, 1) := by decide +kernel
theorem dX7_init_65 : decode mX7_init.2.1 65 = .ok (.iconst 2, 1) := by decide +kernel
theorem dX7_init_66 : decode mX7_init.2.1 66 = .ok (.newarray .boolean, 2) := by decide +kernel
theorem dX7_init_68 : decode mX7_init.2.1 68 = .ok (.putfield 35, 3) := by decide +kernel
theorem dX7_init_71 : decode mX7_init.2.1 71 = .ok (.aload_n 0, 1) := by decide +kernel
theorem dX7_init_72 : decode mX7_init.2.1 72 = .ok (.bipush 12, 2) := by decide +kernel
theorem dX7_init_74 : decode mX7_init.2.1 74 = .ok (.newarray .int, 2) := by decide +kernel
theorem dX7_init_76 : decode mX7_init.2.1 76 = .ok (.putfield 39, 3) := by decide +kernel
theorem dX7_init_79 : decode mX7_init.2.1 79 = .ok (.aload_n 0, 1) := by decide +kernel
theorem dX7_init_80 : decode mX7_init.2.1 80 = .ok (.sipush 150, 3) := by decide +kernel
theorem dX7_init_83 : decode mX7_init.2.1 83 = .ok (.newarray .int, 2) := by decide +kernel
theorem dX7_init_85 : decode mX7_init.2.1 85 = .ok (.putfield 42, 3) := by decide +kernel
theorem dX7_init_88 : decode mX7_init.2.1 88 = .ok (.aload_n 0, 1) := by decide +kernel
theorem dX7_init_89 : decode mX7_init.2.1 89 = .ok (.bipush 6, 2) := by decide +kernel
theorem dX7_init_91 : decode mX7_init.2.1 91 = .ok (.newarray .int, 2) := by decide +kernel
theorem dX7_init_93 : decode mX7_init.2.1 93 = .ok (.putfield 45, 3) := by decide +kernel
theorem dX7_init_96 : decode mX7_init.2.1 96 = .ok (.aload_n 0, 1) := by decide +kernel
theorem dX7_init_97 : decode mX7_init.2.1 97 = .ok (.bipush 6, 2) := by decide +kernel
theorem dX7_init_99 : decode mX7_init.2.1 99 = .ok (.newarray .int, 2) := by decide +kernel
theorem dX7_init_101 : decode mX7_init.2.1 101 = .ok (.putfield 48, 3) := by decide +kernel
theorem dX7_init_104 : decode mX7_init.2.1 104 = .ok (.aload_n 0, 1) := by decide +kernel
theorem dX7_init_105 : decode mX7_init.2.1 105 = .ok (.bipush 6, 2) := by decide +kernel
theorem dX7_init_107 : decode mX7_init.2.1 107 = .ok (.newarray .int, 2) := by decide +kernel
theorem dX7_init_109 : decode mX7_init.2.1 109 = .ok (.putfield 51, 3) := by decide +kernel
theorem dX7_init_112 : decode mX7_init.2.1 112 = .ok (.aload_n 0, 1) := by decide +kernel
theorem dX7_init_113 : decode mX7_init.2.1 113 = .ok (.bipush 6, 2) := by decide +kernel
theorem dX7_init_115 : decode mX7_init.2.1 115 = .ok (.newarray .int, 2) := by decide +kernel
theorem dX7_init_117 : decode mX7_init.2.1 117 = .ok (.putfield 54, 3) := by decide +kernel
theorem dX7_init_120 : decode mX7_init.2.1 120 = .ok (.aload_n 0, 1) := by decide +kernel
theorem dX7_init_121 : decode mX7_init.2.1 121 = .ok (.bipush 6, 2) := by decide +kernel
theorem dX7_init_123 : decode mX7_init.2.1 123 = .ok (.newarray .int, 2) := by decide +kernel
theorem dX7_init_125 : decode mX7_init.2.1 125 = .ok (.putfield 57, 3) := by decide +kernel
theorem dX7_init_128 : decode mX7_init.2.1 128 = .ok (.aload_n 0, 1) := by decide +kernel
theorem dX7_init_129 : decode mX7_init.2.1 129 = .ok (.bipush 21, 2) := by decide +kernel
theorem dX7_init_131 : decode mX7_init.2.1 131 = .ok (.newarray .int, 2) := by decide +kernel
theorem dX7_init_133 : decode mX7_init.2.1 133 = .ok (.putfield 60, 3) := by decide +kernel
theorem dX7_init_136 : decode mX7_init.2.1 136 = .ok (.aload_n 0, 1) := by decide +kernel
theorem dX7_init_137 : decode mX7_init.2.1 137 = .ok (.bipush 6, 2) := by decide +kernel
theorem dX7_init_139 : decode mX7_init.2.1 139 = .ok (.newarray .int, 2) := by decide +kernel
theorem dX7_init_141 : decode mX7_init.2.1 141 = .ok (.putfield 63, 3) := by decide +kernel
theorem dX7_init_144 : decode mX7_init.2.1 144 = .ok (.aload_n 0, 1) := by decide +kernel
theorem dX7_init_145 : decode mX7_init.2.1 145 = .ok (.bipush 6, 2) := by decide +kernel
theorem dX7_init_147 : decode mX7_init.2.1 147 = .ok (.newarray .int, 2) := by decide +kernel
theorem dX7_init_149 : decode mX7_init.2.1 149 = .ok (.putfield 66, 3) := by decide +kernel
theorem dX7_init_152 : decode mX7_init.2.1 152 = .ok (.aload_n 0, 1) := by decide +kernel
theorem dX7_init_153 : decode mX7_init.2.1 153 = .ok (.getfield 26, 3) := by decide +kernel
theorem dX7_init_156 : decode mX7_init.2.1 156 = .ok (.iconst 2, 1) := by decide +kernel
theorem dX7_init_157 : decode mX7_init.2.1 157 = .ok (.iconst 2, 1) := by decide +kernel
theorem dX7_init_158 : decode mX7_init.2.1 158 = .ok (.iastore, 1) := by decide +kernel
theorem dX7_init_159 : decode mX7_init.2.1 159 = .ok (.return_, 1) := by decide +kernel
theorem dX7_in_0 : decode mX7_in.2.1 0 = .ok (.iload_n 0, 1) := by decide +kernel
theorem dX7_in_1 : decode mX7_in.2.1 1 = .ok (.iload_n 1, 1) := by decide +kernel
theorem dX7_in_2 : decode mX7_in.2.1 2 = .ok (.if_icmp .lt 12, 3) := by decide +kernel
theorem dX7_in_5 : decode mX7_in.2.1 5 = .ok (.iload_n 0, 1) := by decide +kernel
theorem dX7_in_6 : decode mX7_in.2.1 6 = .ok (.iload_n 2, 1) := by decide +kernel
theorem dX7_in_7 : decode mX7_in.2.1 7 = .ok (.if_icmp .gt 7, 3) := by decide +kernel
theorem dX7_in_10 : decode mX7_in.2.1 10 = .ok (.iconst 1, 1) := by decide +kernel
theorem dX7_in_11 : decode mX7_in.2.1 11 = .ok (.goto 4, 3) := by decide +kernel
theorem dX7_in_14 : decode mX7_in.2.1 14 = .ok (.iconst 0, 1) := by decide +kernel
theorem dX7_in_15 : decode mX7_in.2.1 15 = .ok (.ireturn, 1) := by decide +kernel
theorem dX7_has_0 : decode mX7_has.2.1 0 = .ok (.iload_n 0, 1) := by decide +kernel
theorem dX7_has_1 : decode mX7_has.2.1 1 = .ok (.iload_n 1, 1) := by decide +kernel
theorem dX7_has_2 : decode mX7_has.2.1 2 = .ok (.ishr, 1) := by decide +kernel
theorem dX7_has_3 : decode mX7_has.2.1 3 = .ok (.iconst 1, 1) := by decide +kernel
theorem dX7_has_4 : decode mX7_has.2.1 4 = .ok (.iand, 1) := by decide +kernel
theorem dX7_has_5 : decode mX7_has.2.1 5 = .ok (.iconst 1, 1) := by decide +kernel
theorem dX7_has_6 : decode mX7_has.2.1 6 = .ok (.if_icmp .ne 7, 3) := by decide +kernel
theorem dX7_has_9 : decode mX7_has.2.1 9 = .ok (.iconst 1, 1) := by decide +kernel
theorem dX7_has_10 : decode mX7_has.2.1 10 = .ok (.goto 4, 3) := by decide +kernel
theorem dX7_has_13 : decode mX7_has.2.1 13 = .ok (.iconst 0, 1) := by decide +kernel
theorem dX7_has_14 : decode mX7_has.2.1 14 = .ok (.ireturn, 1) := by decide +kernel
theorem dX7_bits_0 : decode mX7_bits.2.1 0 = .ok (.iconst 0, 1) := by decide +kernel
theorem dX7_bits_1 : decode mX7_bits.2.1 1 = .ok (.istore_n 1, 1) := by decide +kernel
theorem dX7_bits_2 : decode mX7_bits.2.1 2 = .ok (.iconst 0, 1) := by decide +kernel
theorem dX7_bits_3 : decode mX7_bits.2.1 3 = .ok (.istore_n 2, 1) := by decide +kernel
theorem dX7_bits_4 : decode mX7_bits.2.1 4 = .ok (.iload_n 2, 1) := by decide +kernel
theorem dX7_bits_5 : decode mX7_bits.2.1 5 = .ok (.bipush 6, 2) := by decide +kernel
theorem dX7_bits_7 : decode mX7_bits.2.1 7 = .ok (.if_icmp .ge 17, 3) := by decide +kernel
theorem dX7_bits_10 : decode mX7_bits.2.1 10 = .ok (.iload_n 1, 1) := by decide +kernel
theorem dX7_bits_11 : decode mX7_bits.2.1 11 = .ok (.iload_n 0, 1) := by decide +kernel
theorem dX7_bits_12 : decode mX7_bits.2.1 12 = .ok (.iload_n 2, 1) := by decide +kernel
theorem dX7_bits_13 : decode mX7_bits.2.1 13 = .ok (.ishr, 1) := by decide +kernel
theorem dX7_bits_14 : decode mX7_bits.2.1 14 = .ok (.iconst 1, 1) := by decide +kernel
theorem dX7_bits_15 : decode mX7_bits.2.1 15 = .ok (.iand, 1) := by decide +kernel
theorem dX7_bits_16 : decode mX7_bits.2.1 16 = .ok (.iadd, 1) := by decide +kernel
theorem dX7_bits_17 : decode mX7_bits.2.1 17 = .ok (.istore_n 1, 1) := by decide +kernel
theorem dX7_bits_18 : decode mX7_bits.2.1 18 = .ok (.iinc 2 1, 3) := by decide +kernel
theorem dX7_bits_21 : decode mX7_bits.2.1 21 = .ok (.goto (-17), 3) := by decide +kernel
theorem dX7_bits_24 : decode mX7_bits.2.1 24 = .ok (.iload_n 1, 1) := by decide +kernel
theorem dX7_bits_25 : decode mX7_bits.2.1 25 = .ok (.ireturn, 1) := by decide +kernel
theorem dX7_size_0 : decode mX7_size.2.1 0 = .ok (.iload_n 0, 1) := by decide +kernel
theorem dX7_size_1 : decode mX7_size.2.1 1 = .ok (.ifCond .ge 8, 3) := by decide +kernel
theorem dX7_size_4 : decode mX7_size.2.1 4 = .ok (.iload_n 0, 1) := by decide +kernel
theorem dX7_size_5 : decode mX7_size.2.1 5 = .ok (.ineg, 1) := by decide +kernel
theorem dX7_size_6 : decode mX7_size.2.1 6 = .ok (.goto 4, 3) := by decide +kernel
theorem dX7_size_9 : decode mX7_size.2.1 9 = .ok (.iload_n 0, 1) := by decide +kernel
theorem dX7_size_10 : decode mX7_size.2.1 10 = .ok (.ireturn, 1) := by decide +kernel
theorem dX7_isDeed_0 : decode mX7_isDeed.2.1 0 = .ok (.iload_n 1, 1) := by decide +kernel
theorem dX7_isDeed_1 : decode mX7_isDeed.2.1 1 = .ok (.iconst 0, 1) := by decide +kernel
theorem dX7_isDeed_2 : decode mX7_isDeed.2.1 2 = .ok (.aload_n 0, 1) := by decide +kernel
theorem dX7_isDeed_3 : decode mX7_isDeed.2.1 3 = .ok (.getfield 69, 3) := by decide +kernel
theorem dX7_isDeed_6 : decode mX7_isDeed.2.1 6 = .ok (.iconst 1, 1) := by decide +kernel
theorem dX7_isDeed_7 : decode mX7_isDeed.2.1 7 = .ok (.isub, 1) := by decide +kernel
theorem dX7_isDeed_8 : decode mX7_isDeed.2.1 8 = .ok (.invokestatic 72, 3) := by decide +kernel
theorem dX7_isDeed_11 : decode mX7_isDeed.2.1 11 = .ok (.ireturn, 1) := by decide +kernel
theorem dX7_isDead_0 : decode mX7_isDead.2.1 0 = .ok (.iload_n 1, 1) := by decide +kernel
theorem dX7_isDead_1 : decode mX7_isDead.2.1 1 = .ok (.iconst 0, 1) := by decide +kernel
theorem dX7_isDead_2 : decode mX7_isDead.2.1 2 = .ok (.aload_n 0, 1) := by decide +kernel
theorem dX7_isDead_3 : decode mX7_isDead.2.1 3 = .ok (.getfield 76, 3) := by decide +kernel
theorem dX7_isDead_6 : decode mX7_isDead.2.1 6 = .ok (.iconst 1, 1) := by decide +kernel
theorem dX7_isDead_7 : decode mX7_isDead.2.1 7 = .ok (.isub, 1) := by decide +kernel
theorem dX7_isDead_8 : decode mX7_isDead.2.1 8 = .ok (.invokestatic 72, 3) := by decide +kernel
theorem dX7_isDead_11 : decode mX7_isDead.2.1 11 = .ok (.ireturn, 1) := by decide +kernel
theorem dX7_copy_0 : decode mX7_copy.2.1 0 = .ok (.iconst 0, 1) := by decide +kernel
theorem dX7_copy_1 : decode mX7_copy.2.1 1 = .ok (.istore 4, 2) := by decide +kernel
theorem dX7_copy_3 : decode mX7_copy.2.1 3 = .ok (.iload 4, 2) := by decide +kernel
theorem dX7_copy_5 : decode mX7_copy.2.1 5 = .ok (.bipush 21, 2) := by decide +kernel
theorem dX7_copy_7 : decode mX7_copy.2.1 7 = .ok (.if_icmp .ge 21, 3) := by decide +kernel
theorem dX7_copy_10 : decode mX7_copy.2.1 10 = .ok (.aload_n 0, 1) := by decide +kernel
theorem dX7_copy_11 : decode mX7_copy.2.1 11 = .ok (.iload_n 1, 1) := by decide +kernel
theorem dX7_copy_12 : decode mX7_copy.2.1 12 = .ok (.iload 4, 2) := by decide +kernel
theorem dX7_copy_14 : decode mX7_copy.2.1 14 = .ok (.iadd, 1) := by decide +kernel
theorem dX7_copy_15 : decode mX7_copy.2.1 15 = .ok (.aload_n 2, 1) := by decide +kernel
theorem dX7_copy_16 : decode mX7_copy.2.1 16 = .ok (.iload_n 3, 1) := by decide +kernel
theorem dX7_copy_17 : decode mX7_copy.2.1 17 = .ok (.iload 4, 2) := by decide +kernel
theorem dX7_copy_19 : decode mX7_copy.2.1 19 = .ok (.iadd, 1) := by decide +kernel
theorem dX7_copy_20 : decode mX7_copy.2.1 20 = .ok (.iaload, 1) := by decide +kernel
theorem dX7_copy_21 : decode mX7_copy.2.1 21 = .ok (.iastore, 1) := by decide +kernel
theorem dX7_copy_22 : decode mX7_copy.2.1 22 = .ok (.iinc 4 1, 3) := by decide +kernel
theorem dX7_copy_25 : decode mX7_copy.2.1 25 = .ok (.goto (-22), 3) := by decide +kernel
theorem dX7_copy_28 : decode mX7_copy.2.1 28 = .ok (.return_, 1) := by decide +kernel
theorem dX7_type_0 : decode mX7_type.2.1 0 = .ok (.iload_n 1, 1) := by decide +kernel
theorem dX7_type_1 : decode mX7_type.2.1 1 = .ok (.iconst 0, 1) := by decide +kernel
theorem dX7_type_2 : decode mX7_type.2.1 2 = .ok (.sipush 255, 3) := by decide +kernel
theorem dX7_type_5 : decode mX7_type.2.1 5 = .ok (.invokestatic 72, 3) := by decide +kernel
theorem dX7_type_8 : decode mX7_type.2.1 8 = .ok (.ifCond .ne 5, 3) := by decide +kernel
theorem dX7_type_11 : decode mX7_type.2.1 11 = .ok (.iconst (-1), 1) := by decide +kernel
theorem dX7_type_12 : decode mX7_type.2.1 12 = .ok (.ireturn, 1) := by decide +kernel
theorem dX7_type_13 : decode mX7_type.2.1 13 = .ok (.aload_n 0, 1) := by decide +kernel
theorem dX7_type_14 : decode mX7_type.2.1 14 = .ok (.getfield 79, 3) := by decide +kernel
theorem dX7_type_17 : decode mX7_type.2.1 17 = .ok (.sipush 150, 3) := by decide +kernel
theorem dX7_type_20 : decode mX7_type.2.1 20 = .ok (.if_icmp .ne 6, 3) := by decide +kernel
theorem dX7_type_23 : decode mX7_type.2.1 23 = .ok (.bipush (-3), 2) := by decide +kernel
theorem dX7_type_25 : decode mX7_type.2.1 25 = .ok (.ireturn, 1) := by decide +kernel
theorem dX7_type_26 : decode mX7_type.2.1 26 = .ok (.aload_n 0, 1) := by decide +kernel
theorem dX7_type_27 : decode mX7_type.2.1 27 = .ok (.getfield 42, 3) := by decide +kernel
theorem dX7_type_30 : decode mX7_type.2.1 30 = .ok (.aload_n 0, 1) := by decide +kernel
theorem dX7_type_31 : decode mX7_type.2.1 31 = .ok (.getfield 79, 3) := by decide +kernel
theorem dX7_type_34 : decode mX7_type.2.1 34 = .ok (.iload_n 1, 1) := by decide +kernel
theorem dX7_type_35 : decode mX7_type.2.1 35 = .ok (.iastore, 1) := by decide +kernel
theorem dX7_type_36 : decode mX7_type.2.1 36 = .ok (.aload_n 0, 1) := by decide +kernel
theorem dX7_type_37 : decode mX7_type.2.1 37 = .ok (.dup, 1) := by decide +kernel
theorem dX7_type_38 : decode mX7_type.2.1 38 = .ok (.getfield 79, 3) := by decide +kernel
theorem dX7_type_41 : decode mX7_type.2.1 41 = .ok (.iconst 1, 1) := by decide +kernel
theorem dX7_type_42 : decode mX7_type.2.1 42 = .ok (.iadd, 1) := by decide +kernel
theorem dX7_type_43 : decode mX7_type.2.1 43 = .ok (.putfield 79, 3) := by decide +kernel
theorem dX7_type_46 : decode mX7_type.2.1 46 = .ok (.aload_n 0, 1) := by decide +kernel
theorem dX7_type_47 : decode mX7_type.2.1 47 = .ok (.getfield 79, 3) := by decide +kernel
theorem dX7_type_50 : decode mX7_type.2.1 50 = .ok (.ireturn, 1) := by decide +kernel
theorem dX7_clear_0 : decode mX7_clear.2.1 0 = .ok (.aload_n 0, 1) := by decide +kernel
theorem dX7_clear_1 : decode mX7_clear.2.1 1 = .ok (.getfield 79, 3) := by decide +kernel
theorem dX7_clear_4 : decode mX7_clear.2.1 4 = .ok (.istore_n 1, 1) := by decide +kernel
theorem dX7_clear_5 : decode mX7_clear.2.1 5 = .ok (.aload_n 0, 1) := by decide +kernel
theorem dX7_clear_6 : decode mX7_clear.2.1 6 = .ok (.iconst 0, 1) := by decide +kernel
theorem dX7_clear_7 : decode mX7_clear.2.1 7 = .ok (.putfield 79, 3) := by decide +kernel
theorem dX7_clear_10 : decode mX7_clear.2.1 10 = .ok (.iload_n 1, 1) := by decide +kernel
theorem dX7_clear_11 : decode mX7_clear.2.1 11 = .ok (.ireturn, 1) := by decide +kernel
theorem dX7_letterAt_0 : decode mX7_letterAt.2.1 0 = .ok (.iload_n 1, 1) := by decide +kernel
theorem dX7_letterAt_1 : decode mX7_letterAt.2.1 1 = .ok (.aload_n 0, 1) := by decide +kernel
theorem dX7_letterAt_2 : decode mX7_letterAt.2.1 2 = .ok (.getfield 79, 3) := by decide +kernel
theorem dX7_letterAt_5 : decode mX7_letterAt.2.1 5 = .ok (.if_icmp .ge 12, 3) := by decide +kernel
theorem dX7_letterAt_8 : decode mX7_letterAt.2.1 8 = .ok (.aload_n 0, 1) := by decide +kernel
theorem dX7_letterAt_9 : decode mX7_letterAt.2.1 9 = .ok (.getfield 42, 3) := by decide +kernel
theorem dX7_letterAt_12 : decode mX7_letterAt.2.1 12 = .ok (.iload_n 1, 1) := by decide +kernel
theorem dX7_letterAt_13 : decode mX7_letterAt.2.1 13 = .ok (.iaload, 1) := by decide +kernel
theorem dX7_letterAt_14 : decode mX7_letterAt.2.1 14 = .ok (.goto 4, 3) := by decide +kernel
theorem dX7_letterAt_17 : decode mX7_letterAt.2.1 17 = .ok (.iconst (-1), 1) := by decide +kernel
theorem dX7_letterAt_18 : decode mX7_letterAt.2.1 18 = .ok (.ireturn, 1) := by decide +kernel
theorem dX7_isFigure_0 : decode mX7_isFigure.2.1 0 = .ok (.iload_n 0, 1) := by decide +kernel
theorem dX7_isFigure_1 : decode mX7_isFigure.2.1 1 = .ok (.bipush 48, 2) := by decide +kernel
theorem dX7_isFigure_3 : decode mX7_isFigure.2.1 3 = .ok (.bipush 57, 2) := by decide +kernel
theorem dX7_isFigure_5 : decode mX7_isFigure.2.1 5 = .ok (.invokestatic 72, 3) := by decide +kernel
theorem dX7_isFigure_8 : decode mX7_isFigure.2.1 8 = .ok (.ireturn, 1) := by decide +kernel
theorem dX7_next_0 : decode mX7_next.2.1 0 = .ok (.aload_n 0, 1) := by decide +kernel
theorem dX7_next_1 : decode mX7_next.2.1 1 = .ok (.aload_n 0, 1) := by decide +kernel
theorem dX7_next_2 : decode mX7_next.2.1 2 = .ok (.getfield 82, 3) := by decide +kernel
theorem dX7_next_5 : decode mX7_next.2.1 5 = .ok (.invokevirtual 85, 3) := by decide +kernel
theorem dX7_next_8 : decode mX7_next.2.1 8 = .ok (.bipush 32, 2) := by decide +kernel
theorem dX7_next_10 : decode mX7_next.2.1 10 = .ok (.if_icmp .ne 16, 3) := by decide +kernel
theorem dX7_next_13 : decode mX7_next.2.1 13 = .ok (.aload_n 0, 1) := by decide +kernel
theorem dX7_next_14 : decode mX7_next.2.1 14 = .ok (.dup, 1) := by decide +kernel
theorem dX7_next_15 : decode mX7_next.2.1 15 = .ok (.getfield 82, 3) := by decide +kernel
theorem dX7_next_18 : decode mX7_next.2.1 18 = .ok (.iconst 1, 1) := by decide +kernel
theorem dX7_next_19 : decode mX7_next.2.1 19 = .ok (.iadd, 1) := by decide +kernel
theorem dX7_next_20 : decode mX7_next.2.1 20 = .ok (.putfield 82, 3) := by decide +kernel
theorem dX7_next_23 : decode mX7_next.2.1 23 = .ok (.goto (-23), 3) := by decide +kernel
theorem dX7_next_26 : decode mX7_next.2.1 26 = .ok (.aload_n 0, 1) := by decide +kernel
theorem dX7_next_27 : decode mX7_next.2.1 27 = .ok (.aload_n 0, 1) := by decide +kernel
theorem dX7_next_28 : decode mX7_next.2.1 28 = .ok (.getfield 82, 3) := by decide +kernel
theorem dX7_next_31 : decode mX7_next.2.1 31 = .ok (.putfield 89, 3) := by decide +kernel
theorem dX7_next_34 : decode mX7_next.2.1 34 = .ok (.aload_n 0, 1) := by decide +kernel
theorem dX7_next_35 : decode mX7_next.2.1 35 = .ok (.aload_n 0, 1) := by decide +kernel
theorem dX7_next_36 : decode mX7_next.2.1 36 = .ok (.getfield 82, 3) := by decide +kernel
theorem dX7_next_39 : decode mX7_next.2.1 39 = .ok (.invokevirtual 85, 3) := by decide +kernel
theorem dX7_next_42 : decode mX7_next.2.1 42 = .ok (.istore_n 1, 1) := by decide +kernel
theorem dX7_next_43 : decode mX7_next.2.1 43 = .ok (.aload_n 0, 1) := by decide +kernel
theorem dX7_next_44 : decode mX7_next.2.1 44 = .ok (.iconst 0, 1) := by decide +kernel
theorem dX7_next_45 : decode mX7_next.2.1 45 = .ok (.putfield 92, 3) := by decide +kernel
theorem dX7_next_48 : decode mX7_next.2.1 48 = .ok (.iload_n 1, 1) := by decide +kernel
theorem dX7_next_49 : decode mX7_next.2.1 49 = .ok (.ifCond .ge 11, 3) := by decide +kernel
theorem dX7_next_52 : decode mX7_next.2.1 52 = .ok (.aload_n 0, 1) := by decide +kernel
theorem dX7_next_53 : decode mX7_next.2.1 53 = .ok (.iconst 0, 1) := by decide +kernel
theorem dX7_next_54 : decode mX7_next.2.1 54 = .ok (.putfield 95, 3) := by decide +kernel
theorem dX7_next_57 : decode mX7_next.2.1 57 = .ok (.goto 180, 3) := by decide +kernel
theorem dX7_next_60 : decode mX7_next.2.1 60 = .ok (.iload_n 1, 1) := by decide +kernel
theorem dX7_next_61 : decode mX7_next.2.1 61 = .ok (.invokestatic 98, 3) := by decide +kernel
theorem dX7_next_64 : decode mX7_next.2.1 64 = .ok (.ifCond .eq 109, 3) := by decide +kernel
theorem dX7_next_67 : decode mX7_next.2.1 67 = .ok (.aload_n 0, 1) := by decide +kernel
theorem dX7_next_68 : decode mX7_next.2.1 68 = .ok (.aload_n 0, 1) := by decide +kernel
theorem dX7_next_69 : decode mX7_next.2.1 69 = .ok (.getfield 82, 3) := by decide +kernel
theorem dX7_next_72 : decode mX7_next.2.1 72 = .ok (.invokevirtual 85, 3) := by decide +kernel
theorem dX7_next_75 : decode mX7_next.2.1 75 = .ok (.invokestatic 98, 3) := by decide +kernel
theorem dX7_next_78 : decode mX7_next.2.1 78 = .ok (.ifCond .eq 55, 3) := by decide +kernel
theorem dX7_next_81 : decode mX7_next.2.1 81 = .ok (.aload_n 0, 1) := by decide +kernel
theorem dX7_next_82 : decode mX7_next.2.1 82 = .ok (.aload_n 0, 1) := by decide +kernel
theorem dX7_next_83 : decode mX7_next.2.1 83 = .ok (.getfield 92, 3) := by decide +kernel
theorem dX7_next_86 : decode mX7_next.2.1 86 = .ok (.bipush 99, 2) := by decide +kernel
theorem dX7_next_88 : decode mX7_next.2.1 88 = .ok (.if_icmp .le 10, 3) := by decide +kernel
theorem dX7_next_91 : decode mX7_next.2.1 91 = .ok (.aload_n 0, 1) := by decide +kernel
theorem dX7_next_92 : decode mX7_next.2.1 92 = .ok (.getfield 92, 3) := by decide +kernel
theorem dX7_next_95 : decode mX7_next.2.1 95 = .ok (.goto 22, 3) := by decide +kernel
theorem dX7_next_98 : decode mX7_next.2.1 98 = .ok (.bipush 10, 2) := by decide +kernel
theorem dX7_next_100 : decode mX7_next.2.1 100 = .ok (.aload_n 0, 1) := by decide +kernel
theorem dX7_next_101 : decode mX7_next.2.1 101 = .ok (.getfield 92, 3) := by decide +kernel
theorem dX7_next_104 : decode mX7_next.2.1 104 = .ok (.imul, 1) := by decide +kernel
theorem dX7_next_105 : decode mX7_next.2.1 105 = .ok (.aload_n 0, 1) := by decide +kernel
theorem dX7_next_106 : decode mX7_next.2.1 106 = .ok (.aload_n 0, 1) := by decide +kernel
theorem dX7_next_107 : decode mX7_next.2.1 107 = .ok (.getfield 82, 3) := by decide +kernel
theorem dX7_next_110 : decode mX7_next.2.1 110 = .ok (.invokevirtual 85, 3) := by decide +kernel
theorem dX7_next_113 : decode mX7_next.2.1 113 = .ok (.iadd, 1) := by decide +kernel
theorem dX7_next_114 : decode mX7_next.2.1 114 = .ok (.bipush 48, 2) := by decide +kernel
theorem dX7_next_116 : decode mX7_next.2.1 116 = .ok (.isub, 1) := by decide +kernel
theorem dX7_next_117 : decode mX7_next.2.1 117 = .ok (.putfield 92, 3) := by decide +kernel
theorem dX7_next_120 : decode mX7_next.2.1 120 = .ok (.aload_n 0, 1) := by decide +kernel
theorem dX7_next_121 : decode mX7_next.2.1 121 = .ok (.dup, 1) := by decide +kernel
theorem dX7_next_122 : decode mX7_next.2.1 122 = .ok (.getfield 82, 3) := by decide +kernel
theorem dX7_next_125 : decode mX7_next.2.1 125 = .ok (.iconst 1, 1) := by decide +kernel
theorem dX7_next_126 : decode mX7_next.2.1 126 = .ok (.iadd, 1) := by decide +kernel
theorem dX7_next_127 : decode mX7_next.2.1 127 = .ok (.putfield 82, 3) := by decide +kernel
theorem dX7_next_130 : decode mX7_next.2.1 130 = .ok (.goto (-63), 3) := by decide +kernel
theorem dX7_next_133 : decode mX7_next.2.1 133 = .ok (.aload_n 0, 1) := by decide +kernel
theorem dX7_next_134 : decode mX7_next.2.1 134 = .ok (.aload_n 0, 1) := by decide +kernel
theorem dX7_next_135 : decode mX7_next.2.1 135 = .ok (.getfield 92, 3) := by decide +kernel
theorem dX7_next_138 : decode mX7_next.2.1 138 = .ok (.bipush 99, 2) := by decide +kernel
theorem dX7_next_140 : decode mX7_next.2.1 140 = .ok (.if_icmp .gt 22, 3) := by decide +kernel
theorem dX7_next_143 : decode mX7_next.2.1 143 = .ok (.iload_n 1, 1) := by decide +kernel
theorem dX7_next_144 : decode mX7_next.2.1 144 = .ok (.bipush 48, 2) := by decide +kernel
theorem dX7_next_146 : decode mX7_next.2.1 146 = .ok (.if_icmp .ne 20, 3) := by decide +kernel
theorem dX7_next_149 : decode mX7_next.2.1 149 = .ok (.aload_n 0, 1) := by decide +kernel
theorem dX7_next_150 : decode mX7_next.2.1 150 = .ok (.getfield 82, 3) := by decide +kernel
theorem dX7_next_153 : decode mX7_next.2.1 153 = .ok (.aload_n 0, 1) := by decide +kernel
theorem dX7_next_154 : decode mX7_next.2.1 154 = .ok (.getfield 89, 3) := by decide +kernel
theorem dX7_next_157 : decode mX7_next.2.1 157 = .ok (.isub, 1) := by decide +kernel
theorem dX7_next_158 : decode mX7_next.2.1 158 = .ok (.iconst 1, 1) := by decide +kernel
theorem dX7_next_159 : decode mX7_next.2.1 159 = .ok (.if_icmp .le 7, 3) := by decide +kernel
theorem dX7_next_162 : decode mX7_next.2.1 162 = .ok (.iconst 4, 1) := by decide +kernel
theorem dX7_next_163 : decode mX7_next.2.1 163 = .ok (.goto 4, 3) := by decide +kernel
theorem dX7_next_166 : decode mX7_next.2.1 166 = .ok (.iconst 2, 1) := by decide +kernel
theorem dX7_next_167 : decode mX7_next.2.1 167 = .ok (.putfield 95, 3) := by decide +kernel
theorem dX7_next_170 : decode mX7_next.2.1 170 = .ok (.goto 67, 3) := by decide +kernel
theorem dX7_next_173 : decode mX7_next.2.1 173 = .ok (.aload_n 0, 1) := by decide +kernel
theorem dX7_next_174 : decode mX7_next.2.1 174 = .ok (.iload_n 1, 1) := by decide +kernel
theorem dX7_next_175 : decode mX7_next.2.1 175 = .ok (.bipush 100, 2) := by decide +kernel
theorem dX7_next_177 : decode mX7_next.2.1 177 = .ok (.if_icmp .eq 27, 3) := by decide +kernel
theorem dX7_next_180 : decode mX7_next.2.1 180 = .ok (.iload_n 1, 1) := by decide +kernel
theorem dX7_next_181 : decode mX7_next.2.1 181 = .ok (.bipush 108, 2) := by decide +kernel
theorem dX7_next_183 : decode mX7_next.2.1 183 = .ok (.if_icmp .eq 21, 3) := by decide +kernel
theorem dX7_next_186 : decode mX7_next.2.1 186 = .ok (.iload_n 1, 1) := by decide +kernel
theorem dX7_next_187 : decode mX7_next.2.1 187 = .ok (.bipush 98, 2) := by decide +kernel
theorem dX7_next_189 : decode mX7_next.2.1 189 = .ok (.if_icmp .eq 15, 3) := by decide +kernel
theorem dX7_next_192 : decode mX7_next.2.1 192 = .ok (.iload_n 1, 1) := by decide +kernel
theorem dX7_next_193 : decode mX7_next.2.1 193 = .ok (.bipush 112, 2) := by decide +kernel
theorem dX7_next_195 : decode mX7_next.2.1 195 = .ok (.if_icmp .eq 9, 3) := by decide +kernel
theorem dX7_next_198 : decode mX7_next.2.1 198 = .ok (.iload_n 1, 1) := by decide +kernel
theorem dX7_next_199 : decode mX7_next.2.1 199 = .ok (.bipush 114, 2) := by decide +kernel
theorem dX7_next_201 : decode mX7_next.2.1 201 = .ok (.if_icmp .ne 7, 3) := by decide +kernel
theorem dX7_next_204 : decode mX7_next.2.1 204 = .ok (.iconst 1, 1) := by decide +kernel
theorem dX7_next_205 : decode mX7_next.2.1 205 = .ok (.goto 14, 3) := by decide +kernel
theorem dX7_next_208 : decode mX7_next.2.1 208 = .ok (.iload_n 1, 1) := by decide +kernel
theorem dX7_next_209 : decode mX7_next.2.1 209 = .ok (.bipush 59, 2) := by decide +kernel
theorem dX7_next_211 : decode mX7_next.2.1 211 = .ok (.if_icmp .ne 7, 3) := by decide +kernel
theorem dX7_next_214 : decode mX7_next.2.1 214 = .ok (.iconst 3, 1) := by decide +kernel
theorem dX7_next_215 : decode mX7_next.2.1 215 = .ok (.goto 4, 3) := by decide +kernel
theorem dX7_next_218 : decode mX7_next.2.1 218 = .ok (.iconst 4, 1) := by decide +kernel
theorem dX7_next_219 : decode mX7_next.2.1 219 = .ok (.putfield 95, 3) := by decide +kernel
theorem dX7_next_222 : decode mX7_next.2.1 222 = .ok (.aload_n 0, 1) := by decide +kernel
theorem dX7_next_223 : decode mX7_next.2.1 223 = .ok (.iload_n 1, 1) := by decide +kernel
theorem dX7_next_224 : decode mX7_next.2.1 224 = .ok (.putfield 92, 3) := by decide +kernel
theorem dX7_next_227 : decode mX7_next.2.1 227 = .ok (.aload_n 0, 1) := by decide +kernel
theorem dX7_next_228 : decode mX7_next.2.1 228 = .ok (.dup, 1) := by decide +kernel
theorem dX7_next_229 : decode mX7_next.2.1 229 = .ok (.getfield 82, 3) := by decide +kernel
theorem dX7_next_232 : decode mX7_next.2.1 232 = .ok (.iconst 1, 1) := by decide +kernel
theorem dX7_next_233 : decode mX7_next.2.1 233 = .ok (.iadd, 1) := by decide +kernel
theorem dX7_next_234 : decode mX7_next.2.1 234 = .ok (.putfield 82, 3) := by decide +kernel
theorem dX7_next_237 : decode mX7_next.2.1 237 = .ok (.return_, 1) := by decide +kernel
theorem dX7_takesNumber_0 : decode mX7_takesNumber.2.1 0 = .ok (.aload_n 0, 1) := by decide +kernel
theorem dX7_takesNumber_1 : decode mX7_takesNumber.2.1 1 = .ok (.getfield 102, 3) := by decide +kernel
theorem dX7_takesNumber_4 : decode mX7_takesNumber.2.1 4 = .ok (.ifCond .ne 27, 3) := by decide +kernel
theorem dX7_takesNumber_7 : decode mX7_takesNumber.2.1 7 = .ok (.aload_n 0, 1) := by decide +kernel
theorem dX7_takesNumber_8 : decode mX7_takesNumber.2.1 8 = .ok (.getfield 95, 3) := by decide +kernel
theorem dX7_takesNumber_11 : decode mX7_takesNumber.2.1 11 = .ok (.iconst 2, 1) := by decide +kernel
theorem dX7_takesNumber_12 : decode mX7_takesNumber.2.1 12 = .ok (.if_icmp .ne 19, 3) := by decide +kernel
theorem dX7_takesNumber_15 : decode mX7_takesNumber.2.1 15 = .ok (.aload_n 0, 1) := by decide +kernel
theorem dX7_takesNumber_16 : decode mX7_takesNumber.2.1 16 = .ok (.getfield 92, 3) := by decide +kernel
theorem dX7_takesNumber_19 : decode mX7_takesNumber.2.1 19 = .ok (.iload_n 1, 1) := by decide +kernel
theorem dX7_takesNumber_20 : decode mX7_takesNumber.2.1 20 = .ok (.iload_n 2, 1) := by decide +kernel
theorem dX7_takesNumber_21 : decode mX7_takesNumber.2.1 21 = .ok (.invokestatic 72, 3) := by decide +kernel
theorem dX7_takesNumber_24 : decode mX7_takesNumber.2.1 24 = .ok (.ifCond .eq 7, 3) := by decide +kernel
theorem dX7_takesNumber_27 : decode mX7_takesNumber.2.1 27 = .ok (.iconst 1, 1) := by decide +kernel
theorem dX7_takesNumber_28 : decode mX7_takesNumber.2.1 28 = .ok (.goto 4, 3) := by decide +kernel
theorem dX7_takesNumber_31 : decode mX7_takesNumber.2.1 31 = .ok (.iconst 0, 1) := by decide +kernel
theorem dX7_takesNumber_32 : decode mX7_takesNumber.2.1 32 = .ok (.istore_n 3, 1) := by decide +kernel
theorem dX7_takesNumber_33 : decode mX7_takesNumber.2.1 33 = .ok (.aload_n 0, 1) := by decide +kernel
theorem dX7_takesNumber_34 : decode mX7_takesNumber.2.1 34 = .ok (.iload_n 3, 1) := by decide +kernel
theorem dX7_takesNumber_35 : decode mX7_takesNumber.2.1 35 = .ok (.ifCond .ne 7, 3) := by decide +kernel
theorem dX7_takesNumber_38 : decode mX7_takesNumber.2.1 38 = .ok (.iconst 1, 1) := by decide +kernel
theorem dX7_takesNumber_39 : decode mX7_takesNumber.2.1 39 = .ok (.goto 4, 3) := by decide +kernel
theorem dX7_takesNumber_42 : decode mX7_takesNumber.2.1 42 = .ok (.iconst 0, 1) := by decide +kernel
theorem dX7_takesNumber_43 : decode mX7_takesNumber.2.1 43 = .ok (.putfield 102, 3) := by decide +kernel
theorem dX7_takesNumber_46 : decode mX7_takesNumber.2.1 46 = .ok (.aload_n 0, 1) := by decide +kernel
theorem dX7_takesNumber_47 : decode mX7_takesNumber.2.1 47 = .ok (.getfield 92, 3) := by decide +kernel
theorem dX7_takesNumber_50 : decode mX7_takesNumber.2.1 50 = .ok (.istore 4, 2) := by decide +kernel
theorem dX7_takesNumber_52 : decode mX7_takesNumber.2.1 52 = .ok (.iload_n 3, 1) := by decide +kernel
theorem dX7_takesNumber_53 : decode mX7_takesNumber.2.1 53 = .ok (.ifCond .eq 7, 3) := by decide +kernel
theorem dX7_takesNumber_56 : decode mX7_takesNumber.2.1 56 = .ok (.aload_n 0, 1) := by decide +kernel
theorem dX7_takesNumber_57 : decode mX7_takesNumber.2.1 57 = .ok (.invokevirtual 106, 3) := by decide +kernel
theorem dX7_takesNumber_60 : decode mX7_takesNumber.2.1 60 = .ok (.iload_n 3, 1) := by decide +kernel
theorem dX7_takesNumber_61 : decode mX7_takesNumber.2.1 61 = .ok (.ifCond .eq 8, 3) := by decide +kernel
theorem dX7_takesNumber_64 : decode mX7_takesNumber.2.1 64 = .ok (.iload 4, 2) := by decide +kernel
theorem dX7_takesNumber_66 : decode mX7_takesNumber.2.1 66 = .ok (.goto 4, 3) := by decide +kernel
theorem dX7_takesNumber_69 : decode mX7_takesNumber.2.1 69 = .ok (.iconst 0, 1) := by decide +kernel
theorem dX7_takesNumber_70 : decode mX7_takesNumber.2.1 70 = .ok (.ireturn, 1) := by decide +kernel
theorem dX7_readDead_0 : decode mX7_readDead.2.1 0 = .ok (.aload_n 0, 1) := by decide +kernel
theorem dX7_readDead_1 : decode mX7_readDead.2.1 1 = .ok (.getfield 48, 3) := by decide +kernel
theorem dX7_readDead_4 : decode mX7_readDead.2.1 4 = .ok (.aload_n 0, 1) := by decide +kernel
theorem dX7_readDead_5 : decode mX7_readDead.2.1 5 = .ok (.getfield 109, 3) := by decide +kernel
theorem dX7_readDead_8 : decode mX7_readDead.2.1 8 = .ok (.aload_n 0, 1) := by decide +kernel
theorem dX7_readDead_9 : decode mX7_readDead.2.1 9 = .ok (.iconst 1, 1) := by decide +kernel
theorem dX7_readDead_10 : decode mX7_readDead.2.1 10 = .ok (.bipush 40, 2) := by decide +kernel
theorem dX7_readDead_12 : decode mX7_readDead.2.1 12 = .ok (.invokevirtual 112, 3) := by decide +kernel
theorem dX7_readDead_15 : decode mX7_readDead.2.1 15 = .ok (.iastore, 1) := by decide +kernel
theorem dX7_readDead_16 : decode mX7_readDead.2.1 16 = .ok (.aload_n 0, 1) := by decide +kernel
theorem dX7_readDead_17 : decode mX7_readDead.2.1 17 = .ok (.getfield 51, 3) := by decide +kernel
theorem dX7_readDead_20 : decode mX7_readDead.2.1 20 = .ok (.aload_n 0, 1) := by decide +kernel
theorem dX7_readDead_21 : decode mX7_readDead.2.1 21 = .ok (.getfield 109, 3) := by decide +kernel
theorem dX7_readDead_24 : decode mX7_readDead.2.1 24 = .ok (.aload_n 0, 1) := by decide +kernel
theorem dX7_readDead_25 : decode mX7_readDead.2.1 25 = .ok (.iconst 0, 1) := by decide +kernel
theorem dX7_readDead_26 : decode mX7_readDead.2.1 26 = .ok (.bipush 9, 2) := by decide +kernel
theorem dX7_readDead_28 : decode mX7_readDead.2.1 28 = .ok (.invokevirtual 112, 3) := by decide +kernel
theorem dX7_readDead_31 : decode mX7_readDead.2.1 31 = .ok (.iastore, 1) := by decide +kernel
theorem dX7_readDead_32 : decode mX7_readDead.2.1 32 = .ok (.iconst 0, 1) := by decide +kernel
theorem dX7_readDead_33 : decode mX7_readDead.2.1 33 = .ok (.istore_n 1, 1) := by decide +kernel
theorem dX7_readDead_34 : decode mX7_readDead.2.1 34 = .ok (.aload_n 0, 1) := by decide +kernel
theorem dX7_readDead_35 : decode mX7_readDead.2.1 35 = .ok (.getfield 102, 3) := by decide +kernel
theorem dX7_readDead_38 : decode mX7_readDead.2.1 38 = .ok (.ifCond .ne 80, 3) := by decide +kernel
theorem dX7_readDead_41 : decode mX7_readDead.2.1 41 = .ok (.aload_n 0, 1) := by decide +kernel
theorem dX7_readDead_42 : decode mX7_readDead.2.1 42 = .ok (.getfield 95, 3) := by decide +kernel
theorem dX7_readDead_45 : decode mX7_readDead.2.1 45 = .ok (.iconst 2, 1) := by decide +kernel
theorem dX7_readDead_46 : decode mX7_readDead.2.1 46 = .ok (.if_icmp .ne 72, 3) := by decide +kernel
theorem dX7_readDead_49 : decode mX7_readDead.2.1 49 = .ok (.aload_n 0, 1) := by decide +kernel
theorem dX7_readDead_50 : decode mX7_readDead.2.1 50 = .ok (.aload_n 0, 1) := by decide +kernel
theorem dX7_readDead_51 : decode mX7_readDead.2.1 51 = .ok (.getfield 92, 3) := by decide +kernel
theorem dX7_readDead_54 : decode mX7_readDead.2.1 54 = .ok (.iconst 0, 1) := by decide +kernel
theorem dX7_readDead_55 : decode mX7_readDead.2.1 55 = .ok (.aload_n 0, 1) := by decide +kernel
theorem dX7_readDead_56 : decode mX7_readDead.2.1 56 = .ok (.getfield 116, 3) := by decide +kernel
theorem dX7_readDead_59 : decode mX7_readDead.2.1 59 = .ok (.iconst 1, 1) := by decide +kernel
theorem dX7_readDead_60 : decode mX7_readDead.2.1 60 = .ok (.isub, 1) := by decide +kernel
theorem dX7_readDead_61 : decode mX7_readDead.2.1 61 = .ok (.invokestatic 72, 3) := by decide +kernel
theorem dX7_readDead_64 : decode mX7_readDead.2.1 64 = .ok (.ifCond .eq 18, 3) := by decide +kernel
theorem dX7_readDead_67 : decode mX7_readDead.2.1 67 = .ok (.iload_n 1, 1) := by decide +kernel
theorem dX7_readDead_68 : decode mX7_readDead.2.1 68 = .ok (.aload_n 0, 1) := by decide +kernel
theorem dX7_readDead_69 : decode mX7_readDead.2.1 69 = .ok (.getfield 92, 3) := by decide +kernel
theorem dX7_readDead_72 : decode mX7_readDead.2.1 72 = .ok (.invokestatic 119, 3) := by decide +kernel
theorem dX7_readDead_75 : decode mX7_readDead.2.1 75 = .ok (.ifCond .eq 7, 3) := by decide +kernel
theorem dX7_readDead_78 : decode mX7_readDead.2.1 78 = .ok (.iconst 1, 1) := by decide +kernel
theorem dX7_readDead_79 : decode mX7_readDead.2.1 79 = .ok (.goto 4, 3) := by decide +kernel
theorem dX7_readDead_82 : decode mX7_readDead.2.1 82 = .ok (.iconst 0, 1) := by decide +kernel
theorem dX7_readDead_83 : decode mX7_readDead.2.1 83 = .ok (.putfield 102, 3) := by decide +kernel
theorem dX7_readDead_86 : decode mX7_readDead.2.1 86 = .ok (.aload_n 0, 1) := by decide +kernel
theorem dX7_readDead_87 : decode mX7_readDead.2.1 87 = .ok (.iconst 0, 1) := by decide +kernel
theorem dX7_readDead_88 : decode mX7_readDead.2.1 88 = .ok (.aload_n 0, 1) := by decide +kernel
theorem dX7_readDead_89 : decode mX7_readDead.2.1 89 = .ok (.getfield 116, 3) := by decide +kernel
theorem dX7_readDead_92 : decode mX7_readDead.2.1 92 = .ok (.iconst 1, 1) := by decide +kernel
theorem dX7_readDead_93 : decode mX7_readDead.2.1 93 = .ok (.isub, 1) := by decide +kernel
theorem dX7_readDead_94 : decode mX7_readDead.2.1 94 = .ok (.invokevirtual 112, 3) := by decide +kernel
theorem dX7_readDead_97 : decode mX7_readDead.2.1 97 = .ok (.istore_n 2, 1) := by decide +kernel
theorem dX7_readDead_98 : decode mX7_readDead.2.1 98 = .ok (.iload_n 1, 1) := by decide +kernel
theorem dX7_readDead_99 : decode mX7_readDead.2.1 99 = .ok (.aload_n 0, 1) := by decide +kernel
theorem dX7_readDead_100 : decode mX7_readDead.2.1 100 = .ok (.getfield 102, 3) := by decide +kernel
theorem dX7_readDead_103 : decode mX7_readDead.2.1 103 = .ok (.ifCond .eq 7, 3) := by decide +kernel
theorem dX7_readDead_106 : decode mX7_readDead.2.1 106 = .ok (.iconst 0, 1) := by decide +kernel
theorem dX7_readDead_107 : decode mX7_readDead.2.1 107 = .ok (.goto 6, 3) := by decide +kernel
theorem dX7_readDead_110 : decode mX7_readDead.2.1 110 = .ok (.iconst 1, 1) := by decide +kernel
theorem dX7_readDead_111 : decode mX7_readDead.2.1 111 = .ok (.iload_n 2, 1) := by decide +kernel
theorem dX7_readDead_112 : decode mX7_readDead.2.1 112 = .ok (.ishl, 1) := by decide +kernel
theorem dX7_readDead_113 : decode mX7_readDead.2.1 113 = .ok (.ior, 1) := by decide +kernel
theorem dX7_readDead_114 : decode mX7_readDead.2.1 114 = .ok (.istore_n 1, 1) := by decide +kernel
theorem dX7_readDead_115 : decode mX7_readDead.2.1 115 = .ok (.goto (-81), 3) := by decide +kernel
theorem dX7_readDead_118 : decode mX7_readDead.2.1 118 = .ok (.aload_n 0, 1) := by decide +kernel
theorem dX7_readDead_119 : decode mX7_readDead.2.1 119 = .ok (.getfield 54, 3) := by decide +kernel
theorem dX7_readDead_122 : decode mX7_readDead.2.1 122 = .ok (.aload_n 0, 1) := by decide +kernel
theorem dX7_readDead_123 : decode mX7_readDead.2.1 123 = .ok (.getfield 109, 3) := by decide +kernel
theorem dX7_readDead_126 : decode mX7_readDead.2.1 126 = .ok (.iload_n 1, 1) := by decide +kernel
theorem dX7_readDead_127 : decode mX7_readDead.2.1 127 = .ok (.iastore, 1) := by decide +kernel
theorem dX7_readDead_128 : decode mX7_readDead.2.1 128 = .ok (.aload_n 0, 1) := by decide +kernel
theorem dX7_readDead_129 : decode mX7_readDead.2.1 129 = .ok (.dup, 1) := by decide +kernel
theorem dX7_readDead_130 : decode mX7_readDead.2.1 130 = .ok (.getfield 109, 3) := by decide +kernel
theorem dX7_readDead_133 : decode mX7_readDead.2.1 133 = .ok (.iconst 1, 1) := by decide +kernel
theorem dX7_readDead_134 : decode mX7_readDead.2.1 134 = .ok (.iadd, 1) := by decide +kernel
theorem dX7_readDead_135 : decode mX7_readDead.2.1 135 = .ok (.putfield 109, 3) := by decide +kernel
theorem dX7_readDead_138 : decode mX7_readDead.2.1 138 = .ok (.return_, 1) := by decide +kernel
theorem dX7_mayBegin_0 : decode mX7_mayBegin.2.1 0 = .ok (.iload_n 1, 1) := by decide +kernel
theorem dX7_mayBegin_1 : decode mX7_mayBegin.2.1 1 = .ok (.lookupswitch 101 #[(98, 73), (100, 43), (108, 58), (112, 88)], 43) := by decide +kernel
theorem dX7_mayBegin_44 : decode mX7_mayBegin.2.1 44 = .ok (.aload_n 0, 1) := by decide +kernel
theorem dX7_mayBegin_45 : decode mX7_mayBegin.2.1 45 = .ok (.getfield 116, 3) := by decide +kernel
theorem dX7_mayBegin_48 : decode mX7_mayBegin.2.1 48 = .ok (.bipush 6, 2) := by decide +kernel
theorem dX7_mayBegin_50 : decode mX7_mayBegin.2.1 50 = .ok (.if_icmp .ge 7, 3) := by decide +kernel
theorem dX7_mayBegin_53 : decode mX7_mayBegin.2.1 53 = .ok (.iconst 1, 1) := by decide +kernel
theorem dX7_mayBegin_54 : decode mX7_mayBegin.2.1 54 = .ok (.goto 4, 3) := by decide +kernel
theorem dX7_mayBegin_57 : decode mX7_mayBegin.2.1 57 = .ok (.iconst 0, 1) := by decide +kernel
theorem dX7_mayBegin_58 : decode mX7_mayBegin.2.1 58 = .ok (.ireturn, 1) := by decide +kernel
theorem dX7_mayBegin_59 : decode mX7_mayBegin.2.1 59 = .ok (.aload_n 0, 1) := by decide +kernel
theorem dX7_mayBegin_60 : decode mX7_mayBegin.2.1 60 = .ok (.getfield 109, 3) := by decide +kernel
theorem dX7_mayBegin_63 : decode mX7_mayBegin.2.1 63 = .ok (.bipush 6, 2) := by decide +kernel
theorem dX7_mayBegin_65 : decode mX7_mayBegin.2.1 65 = .ok (.if_icmp .ge 7, 3) := by decide +kernel
theorem dX7_mayBegin_68 : decode mX7_mayBegin.2.1 68 = .ok (.iconst 1, 1) := by decide +kernel
theorem dX7_mayBegin_69 : decode mX7_mayBegin.2.1 69 = .ok (.goto 4, 3) := by decide +kernel
theorem dX7_mayBegin_72 : decode mX7_mayBegin.2.1 72 = .ok (.iconst 0, 1) := by decide +kernel
theorem dX7_mayBegin_73 : decode mX7_mayBegin.2.1 73 = .ok (.ireturn, 1) := by decide +kernel
theorem dX7_mayBegin_74 : decode mX7_mayBegin.2.1 74 = .ok (.aload_n 0, 1) := by decide +kernel
end
section
theorem dX7_mayBegin_75 : decode mX7_mayBegin.2.1 75 = .ok (.getfield 123, 3) := by decide +kernel
theorem dX7_mayBegin_78 : decode mX7_mayBegin.2.1 78 = .ok (.bipush 6, 2) := by decide +kernel
theorem dX7_mayBegin_80 : decode mX7_mayBegin.2.1 80 = .ok (.if_icmp .ge 7, 3) := by decide +kernel
theorem dX7_mayBegin_83 : decode mX7_mayBegin.2.1 83 = .ok (.iconst 1, 1) := by decide +kernel
theorem dX7_mayBegin_84 : decode mX7_mayBegin.2.1 84 = .ok (.goto 4, 3) := by decide +kernel
theorem dX7_mayBegin_87 : decode mX7_mayBegin.2.1 87 = .ok (.iconst 0, 1) := by decide +kernel
theorem dX7_mayBegin_88 : decode mX7_mayBegin.2.1 88 = .ok (.ireturn, 1) := by decide +kernel
theorem dX7_mayBegin_89 : decode mX7_mayBegin.2.1 89 = .ok (.aload_n 0, 1) := by decide +kernel
theorem dX7_mayBegin_90 : decode mX7_mayBegin.2.1 90 = .ok (.getfield 126, 3) := by decide +kernel
theorem dX7_mayBegin_93 : decode mX7_mayBegin.2.1 93 = .ok (.ifCond .ge 7, 3) := by decide +kernel
theorem dX7_mayBegin_96 : decode mX7_mayBegin.2.1 96 = .ok (.iconst 1, 1) := by decide +kernel
theorem dX7_mayBegin_97 : decode mX7_mayBegin.2.1 97 = .ok (.goto 4, 3) := by decide +kernel
theorem dX7_mayBegin_100 : decode mX7_mayBegin.2.1 100 = .ok (.iconst 0, 1) := by decide +kernel
theorem dX7_mayBegin_101 : decode mX7_mayBegin.2.1 101 = .ok (.ireturn, 1) := by decide +kernel
theorem dX7_mayBegin_102 : decode mX7_mayBegin.2.1 102 = .ok (.aload_n 0, 1) := by decide +kernel
theorem dX7_mayBegin_103 : decode mX7_mayBegin.2.1 103 = .ok (.getfield 129, 3) := by decide +kernel
theorem dX7_mayBegin_106 : decode mX7_mayBegin.2.1 106 = .ok (.ifCond .ge 7, 3) := by decide +kernel
theorem dX7_mayBegin_109 : decode mX7_mayBegin.2.1 109 = .ok (.iconst 1, 1) := by decide +kernel
theorem dX7_mayBegin_110 : decode mX7_mayBegin.2.1 110 = .ok (.goto 4, 3) := by decide +kernel
theorem dX7_mayBegin_113 : decode mX7_mayBegin.2.1 113 = .ok (.iconst 0, 1) := by decide +kernel
theorem dX7_mayBegin_114 : decode mX7_mayBegin.2.1 114 = .ok (.ireturn, 1) := by decide +kernel
theorem dX7_readBody_0 : decode mX7_readBody.2.1 0 = .ok (.iload_n 1, 1) := by decide +kernel
theorem dX7_readBody_1 : decode mX7_readBody.2.1 1 = .ok (.lookupswitch 126 #[(98, 82), (100, 43), (108, 75), (112, 111)], 43) := by decide +kernel
theorem dX7_readBody_44 : decode mX7_readBody.2.1 44 = .ok (.aload_n 0, 1) := by decide +kernel
theorem dX7_readBody_45 : decode mX7_readBody.2.1 45 = .ok (.getfield 45, 3) := by decide +kernel
theorem dX7_readBody_48 : decode mX7_readBody.2.1 48 = .ok (.aload_n 0, 1) := by decide +kernel
theorem dX7_readBody_49 : decode mX7_readBody.2.1 49 = .ok (.getfield 116, 3) := by decide +kernel
theorem dX7_readBody_52 : decode mX7_readBody.2.1 52 = .ok (.aload_n 0, 1) := by decide +kernel
theorem dX7_readBody_53 : decode mX7_readBody.2.1 53 = .ok (.iconst 0, 1) := by decide +kernel
theorem dX7_readBody_54 : decode mX7_readBody.2.1 54 = .ok (.bipush 40, 2) := by decide +kernel
theorem dX7_readBody_56 : decode mX7_readBody.2.1 56 = .ok (.invokevirtual 112, 3) := by decide +kernel
theorem dX7_readBody_59 : decode mX7_readBody.2.1 59 = .ok (.bipush 20, 2) := by decide +kernel
theorem dX7_readBody_61 : decode mX7_readBody.2.1 61 = .ok (.isub, 1) := by decide +kernel
theorem dX7_readBody_62 : decode mX7_readBody.2.1 62 = .ok (.iastore, 1) := by decide +kernel
theorem dX7_readBody_63 : decode mX7_readBody.2.1 63 = .ok (.aload_n 0, 1) := by decide +kernel
theorem dX7_readBody_64 : decode mX7_readBody.2.1 64 = .ok (.dup, 1) := by decide +kernel
theorem dX7_readBody_65 : decode mX7_readBody.2.1 65 = .ok (.getfield 116, 3) := by decide +kernel
theorem dX7_readBody_68 : decode mX7_readBody.2.1 68 = .ok (.iconst 1, 1) := by decide +kernel
theorem dX7_readBody_69 : decode mX7_readBody.2.1 69 = .ok (.iadd, 1) := by decide +kernel
theorem dX7_readBody_70 : decode mX7_readBody.2.1 70 = .ok (.putfield 116, 3) := by decide +kernel
theorem dX7_readBody_73 : decode mX7_readBody.2.1 73 = .ok (.goto 65, 3) := by decide +kernel
theorem dX7_readBody_76 : decode mX7_readBody.2.1 76 = .ok (.aload_n 0, 1) := by decide +kernel
theorem dX7_readBody_77 : decode mX7_readBody.2.1 77 = .ok (.invokevirtual 132, 3) := by decide +kernel
theorem dX7_readBody_80 : decode mX7_readBody.2.1 80 = .ok (.goto 58, 3) := by decide +kernel
theorem dX7_readBody_83 : decode mX7_readBody.2.1 83 = .ok (.aload_n 0, 1) := by decide +kernel
theorem dX7_readBody_84 : decode mX7_readBody.2.1 84 = .ok (.getfield 57, 3) := by decide +kernel
theorem dX7_readBody_87 : decode mX7_readBody.2.1 87 = .ok (.aload_n 0, 1) := by decide +kernel
theorem dX7_readBody_88 : decode mX7_readBody.2.1 88 = .ok (.getfield 123, 3) := by decide +kernel
theorem dX7_readBody_91 : decode mX7_readBody.2.1 91 = .ok (.aload_n 0, 1) := by decide +kernel
theorem dX7_readBody_92 : decode mX7_readBody.2.1 92 = .ok (.iconst 1, 1) := by decide +kernel
theorem dX7_readBody_93 : decode mX7_readBody.2.1 93 = .ok (.bipush 60, 2) := by decide +kernel
theorem dX7_readBody_95 : decode mX7_readBody.2.1 95 = .ok (.invokevirtual 112, 3) := by decide +kernel
theorem dX7_readBody_98 : decode mX7_readBody.2.1 98 = .ok (.iastore, 1) := by decide +kernel
theorem dX7_readBody_99 : decode mX7_readBody.2.1 99 = .ok (.aload_n 0, 1) := by decide +kernel
theorem dX7_readBody_100 : decode mX7_readBody.2.1 100 = .ok (.dup, 1) := by decide +kernel
theorem dX7_readBody_101 : decode mX7_readBody.2.1 101 = .ok (.getfield 123, 3) := by decide +kernel
theorem dX7_readBody_104 : decode mX7_readBody.2.1 104 = .ok (.iconst 1, 1) := by decide +kernel
theorem dX7_readBody_105 : decode mX7_readBody.2.1 105 = .ok (.iadd, 1) := by decide +kernel
theorem dX7_readBody_106 : decode mX7_readBody.2.1 106 = .ok (.putfield 123, 3) := by decide +kernel
theorem dX7_readBody_109 : decode mX7_readBody.2.1 109 = .ok (.goto 29, 3) := by decide +kernel
theorem dX7_readBody_112 : decode mX7_readBody.2.1 112 = .ok (.aload_n 0, 1) := by decide +kernel
theorem dX7_readBody_113 : decode mX7_readBody.2.1 113 = .ok (.aload_n 0, 1) := by decide +kernel
theorem dX7_readBody_114 : decode mX7_readBody.2.1 114 = .ok (.bipush 10, 2) := by decide +kernel
theorem dX7_readBody_116 : decode mX7_readBody.2.1 116 = .ok (.bipush 99, 2) := by decide +kernel
theorem dX7_readBody_118 : decode mX7_readBody.2.1 118 = .ok (.invokevirtual 112, 3) := by decide +kernel
theorem dX7_readBody_121 : decode mX7_readBody.2.1 121 = .ok (.putfield 126, 3) := by decide +kernel
theorem dX7_readBody_124 : decode mX7_readBody.2.1 124 = .ok (.goto 14, 3) := by decide +kernel
theorem dX7_readBody_127 : decode mX7_readBody.2.1 127 = .ok (.aload_n 0, 1) := by decide +kernel
theorem dX7_readBody_128 : decode mX7_readBody.2.1 128 = .ok (.aload_n 0, 1) := by decide +kernel
theorem dX7_readBody_129 : decode mX7_readBody.2.1 129 = .ok (.iconst 0, 1) := by decide +kernel
theorem dX7_readBody_130 : decode mX7_readBody.2.1 130 = .ok (.bipush 9, 2) := by decide +kernel
theorem dX7_readBody_132 : decode mX7_readBody.2.1 132 = .ok (.invokevirtual 112, 3) := by decide +kernel
theorem dX7_readBody_135 : decode mX7_readBody.2.1 135 = .ok (.putfield 129, 3) := by decide +kernel
theorem dX7_readBody_138 : decode mX7_readBody.2.1 138 = .ok (.return_, 1) := by decide +kernel
theorem dX7_readItem_0 : decode mX7_readItem.2.1 0 = .ok (.aload_n 0, 1) := by decide +kernel
theorem dX7_readItem_1 : decode mX7_readItem.2.1 1 = .ok (.getfield 92, 3) := by decide +kernel
theorem dX7_readItem_4 : decode mX7_readItem.2.1 4 = .ok (.istore_n 1, 1) := by decide +kernel
theorem dX7_readItem_5 : decode mX7_readItem.2.1 5 = .ok (.aload_n 0, 1) := by decide +kernel
theorem dX7_readItem_6 : decode mX7_readItem.2.1 6 = .ok (.getfield 95, 3) := by decide +kernel
theorem dX7_readItem_9 : decode mX7_readItem.2.1 9 = .ok (.iconst 1, 1) := by decide +kernel
theorem dX7_readItem_10 : decode mX7_readItem.2.1 10 = .ok (.if_icmp .ne 11, 3) := by decide +kernel
theorem dX7_readItem_13 : decode mX7_readItem.2.1 13 = .ok (.aload_n 0, 1) := by decide +kernel
theorem dX7_readItem_14 : decode mX7_readItem.2.1 14 = .ok (.iload_n 1, 1) := by decide +kernel
theorem dX7_readItem_15 : decode mX7_readItem.2.1 15 = .ok (.invokevirtual 135, 3) := by decide +kernel
theorem dX7_readItem_18 : decode mX7_readItem.2.1 18 = .ok (.ifCond .ne 9, 3) := by decide +kernel
theorem dX7_readItem_21 : decode mX7_readItem.2.1 21 = .ok (.aload_n 0, 1) := by decide +kernel
theorem dX7_readItem_22 : decode mX7_readItem.2.1 22 = .ok (.iconst 1, 1) := by decide +kernel
theorem dX7_readItem_23 : decode mX7_readItem.2.1 23 = .ok (.putfield 102, 3) := by decide +kernel
theorem dX7_readItem_26 : decode mX7_readItem.2.1 26 = .ok (.return_, 1) := by decide +kernel
theorem dX7_readItem_27 : decode mX7_readItem.2.1 27 = .ok (.aload_n 0, 1) := by decide +kernel
theorem dX7_readItem_28 : decode mX7_readItem.2.1 28 = .ok (.invokevirtual 106, 3) := by decide +kernel
theorem dX7_readItem_31 : decode mX7_readItem.2.1 31 = .ok (.aload_n 0, 1) := by decide +kernel
theorem dX7_readItem_32 : decode mX7_readItem.2.1 32 = .ok (.iload_n 1, 1) := by decide +kernel
theorem dX7_readItem_33 : decode mX7_readItem.2.1 33 = .ok (.invokevirtual 138, 3) := by decide +kernel
theorem dX7_readItem_36 : decode mX7_readItem.2.1 36 = .ok (.aload_n 0, 1) := by decide +kernel
theorem dX7_readItem_37 : decode mX7_readItem.2.1 37 = .ok (.aload_n 0, 1) := by decide +kernel
theorem dX7_readItem_38 : decode mX7_readItem.2.1 38 = .ok (.getfield 102, 3) := by decide +kernel
theorem dX7_readItem_41 : decode mX7_readItem.2.1 41 = .ok (.ifCond .ne 11, 3) := by decide +kernel
theorem dX7_readItem_44 : decode mX7_readItem.2.1 44 = .ok (.aload_n 0, 1) := by decide +kernel
theorem dX7_readItem_45 : decode mX7_readItem.2.1 45 = .ok (.getfield 95, 3) := by decide +kernel
theorem dX7_readItem_48 : decode mX7_readItem.2.1 48 = .ok (.iconst 3, 1) := by decide +kernel
theorem dX7_readItem_49 : decode mX7_readItem.2.1 49 = .ok (.if_icmp .eq 7, 3) := by decide +kernel
theorem dX7_readItem_52 : decode mX7_readItem.2.1 52 = .ok (.iconst 1, 1) := by decide +kernel
theorem dX7_readItem_53 : decode mX7_readItem.2.1 53 = .ok (.goto 4, 3) := by decide +kernel
theorem dX7_readItem_56 : decode mX7_readItem.2.1 56 = .ok (.iconst 0, 1) := by decide +kernel
theorem dX7_readItem_57 : decode mX7_readItem.2.1 57 = .ok (.putfield 102, 3) := by decide +kernel
theorem dX7_readItem_60 : decode mX7_readItem.2.1 60 = .ok (.aload_n 0, 1) := by decide +kernel
theorem dX7_readItem_61 : decode mX7_readItem.2.1 61 = .ok (.getfield 102, 3) := by decide +kernel
theorem dX7_readItem_64 : decode mX7_readItem.2.1 64 = .ok (.ifCond .ne 7, 3) := by decide +kernel
theorem dX7_readItem_67 : decode mX7_readItem.2.1 67 = .ok (.aload_n 0, 1) := by decide +kernel
theorem dX7_readItem_68 : decode mX7_readItem.2.1 68 = .ok (.invokevirtual 106, 3) := by decide +kernel
theorem dX7_readItem_71 : decode mX7_readItem.2.1 71 = .ok (.return_, 1) := by decide +kernel
theorem dX7_gate_0 : decode mX7_gate.2.1 0 = .ok (.aload_n 0, 1) := by decide +kernel
theorem dX7_gate_1 : decode mX7_gate.2.1 1 = .ok (.iconst 0, 1) := by decide +kernel
theorem dX7_gate_2 : decode mX7_gate.2.1 2 = .ok (.putfield 82, 3) := by decide +kernel
theorem dX7_gate_5 : decode mX7_gate.2.1 5 = .ok (.aload_n 0, 1) := by decide +kernel
theorem dX7_gate_6 : decode mX7_gate.2.1 6 = .ok (.iconst 0, 1) := by decide +kernel
theorem dX7_gate_7 : decode mX7_gate.2.1 7 = .ok (.putfield 102, 3) := by decide +kernel
theorem dX7_gate_10 : decode mX7_gate.2.1 10 = .ok (.aload_n 0, 1) := by decide +kernel
theorem dX7_gate_11 : decode mX7_gate.2.1 11 = .ok (.iconst 0, 1) := by decide +kernel
theorem dX7_gate_12 : decode mX7_gate.2.1 12 = .ok (.putfield 142, 3) := by decide +kernel
theorem dX7_gate_15 : decode mX7_gate.2.1 15 = .ok (.aload_n 0, 1) := by decide +kernel
theorem dX7_gate_16 : decode mX7_gate.2.1 16 = .ok (.iconst 0, 1) := by decide +kernel
theorem dX7_gate_17 : decode mX7_gate.2.1 17 = .ok (.putfield 116, 3) := by decide +kernel
theorem dX7_gate_20 : decode mX7_gate.2.1 20 = .ok (.aload_n 0, 1) := by decide +kernel
theorem dX7_gate_21 : decode mX7_gate.2.1 21 = .ok (.iconst 0, 1) := by decide +kernel
theorem dX7_gate_22 : decode mX7_gate.2.1 22 = .ok (.putfield 109, 3) := by decide +kernel
theorem dX7_gate_25 : decode mX7_gate.2.1 25 = .ok (.aload_n 0, 1) := by decide +kernel
theorem dX7_gate_26 : decode mX7_gate.2.1 26 = .ok (.iconst 0, 1) := by decide +kernel
theorem dX7_gate_27 : decode mX7_gate.2.1 27 = .ok (.putfield 123, 3) := by decide +kernel
theorem dX7_gate_30 : decode mX7_gate.2.1 30 = .ok (.aload_n 0, 1) := by decide +kernel
theorem dX7_gate_31 : decode mX7_gate.2.1 31 = .ok (.iconst (-1), 1) := by decide +kernel
theorem dX7_gate_32 : decode mX7_gate.2.1 32 = .ok (.putfield 126, 3) := by decide +kernel
theorem dX7_gate_35 : decode mX7_gate.2.1 35 = .ok (.aload_n 0, 1) := by decide +kernel
theorem dX7_gate_36 : decode mX7_gate.2.1 36 = .ok (.iconst (-1), 1) := by decide +kernel
theorem dX7_gate_37 : decode mX7_gate.2.1 37 = .ok (.putfield 129, 3) := by decide +kernel
theorem dX7_gate_40 : decode mX7_gate.2.1 40 = .ok (.aload_n 0, 1) := by decide +kernel
theorem dX7_gate_41 : decode mX7_gate.2.1 41 = .ok (.invokevirtual 106, 3) := by decide +kernel
theorem dX7_gate_44 : decode mX7_gate.2.1 44 = .ok (.aload_n 0, 1) := by decide +kernel
theorem dX7_gate_45 : decode mX7_gate.2.1 45 = .ok (.getfield 95, 3) := by decide +kernel
theorem dX7_gate_48 : decode mX7_gate.2.1 48 = .ok (.ifCond .eq 27, 3) := by decide +kernel
theorem dX7_gate_51 : decode mX7_gate.2.1 51 = .ok (.aload_n 0, 1) := by decide +kernel
theorem dX7_gate_52 : decode mX7_gate.2.1 52 = .ok (.getfield 102, 3) := by decide +kernel
theorem dX7_gate_55 : decode mX7_gate.2.1 55 = .ok (.ifCond .ne 20, 3) := by decide +kernel
theorem dX7_gate_58 : decode mX7_gate.2.1 58 = .ok (.aload_n 0, 1) := by decide +kernel
theorem dX7_gate_59 : decode mX7_gate.2.1 59 = .ok (.invokevirtual 145, 3) := by decide +kernel
theorem dX7_gate_62 : decode mX7_gate.2.1 62 = .ok (.aload_n 0, 1) := by decide +kernel
theorem dX7_gate_63 : decode mX7_gate.2.1 63 = .ok (.dup, 1) := by decide +kernel
theorem dX7_gate_64 : decode mX7_gate.2.1 64 = .ok (.getfield 142, 3) := by decide +kernel
theorem dX7_gate_67 : decode mX7_gate.2.1 67 = .ok (.iconst 1, 1) := by decide +kernel
theorem dX7_gate_68 : decode mX7_gate.2.1 68 = .ok (.iadd, 1) := by decide +kernel
theorem dX7_gate_69 : decode mX7_gate.2.1 69 = .ok (.putfield 142, 3) := by decide +kernel
theorem dX7_gate_72 : decode mX7_gate.2.1 72 = .ok (.goto (-28), 3) := by decide +kernel
theorem dX7_gate_75 : decode mX7_gate.2.1 75 = .ok (.aload_n 0, 1) := by decide +kernel
theorem dX7_gate_76 : decode mX7_gate.2.1 76 = .ok (.getfield 102, 3) := by decide +kernel
theorem dX7_gate_79 : decode mX7_gate.2.1 79 = .ok (.ifCond .eq 11, 3) := by decide +kernel
theorem dX7_gate_82 : decode mX7_gate.2.1 82 = .ok (.bipush (-10), 2) := by decide +kernel
theorem dX7_gate_84 : decode mX7_gate.2.1 84 = .ok (.aload_n 0, 1) := by decide +kernel
theorem dX7_gate_85 : decode mX7_gate.2.1 85 = .ok (.getfield 89, 3) := by decide +kernel
theorem dX7_gate_88 : decode mX7_gate.2.1 88 = .ok (.isub, 1) := by decide +kernel
theorem dX7_gate_89 : decode mX7_gate.2.1 89 = .ok (.ireturn, 1) := by decide +kernel
theorem dX7_gate_90 : decode mX7_gate.2.1 90 = .ok (.aload_n 0, 1) := by decide +kernel
theorem dX7_gate_91 : decode mX7_gate.2.1 91 = .ok (.invokevirtual 148, 3) := by decide +kernel
theorem dX7_gate_94 : decode mX7_gate.2.1 94 = .ok (.aload_n 0, 1) := by decide +kernel
theorem dX7_gate_95 : decode mX7_gate.2.1 95 = .ok (.getfield 142, 3) := by decide +kernel
theorem dX7_gate_98 : decode mX7_gate.2.1 98 = .ok (.ireturn, 1) := by decide +kernel
theorem dX7_settles_0 : decode mX7_settles.2.1 0 = .ok (.aload_n 0, 1) := by decide +kernel
theorem dX7_settles_1 : decode mX7_settles.2.1 1 = .ok (.aload_n 0, 1) := by decide +kernel
theorem dX7_settles_2 : decode mX7_settles.2.1 2 = .ok (.getfield 116, 3) := by decide +kernel
theorem dX7_settles_5 : decode mX7_settles.2.1 5 = .ok (.putfield 69, 3) := by decide +kernel
theorem dX7_settles_8 : decode mX7_settles.2.1 8 = .ok (.aload_n 0, 1) := by decide +kernel
theorem dX7_settles_9 : decode mX7_settles.2.1 9 = .ok (.aload_n 0, 1) := by decide +kernel
theorem dX7_settles_10 : decode mX7_settles.2.1 10 = .ok (.getfield 109, 3) := by decide +kernel
theorem dX7_settles_13 : decode mX7_settles.2.1 13 = .ok (.putfield 76, 3) := by decide +kernel
theorem dX7_settles_16 : decode mX7_settles.2.1 16 = .ok (.aload_n 0, 1) := by decide +kernel
theorem dX7_settles_17 : decode mX7_settles.2.1 17 = .ok (.aload_n 0, 1) := by decide +kernel
theorem dX7_settles_18 : decode mX7_settles.2.1 18 = .ok (.getfield 123, 3) := by decide +kernel
theorem dX7_settles_21 : decode mX7_settles.2.1 21 = .ok (.putfield 151, 3) := by decide +kernel
theorem dX7_settles_24 : decode mX7_settles.2.1 24 = .ok (.aload_n 0, 1) := by decide +kernel
theorem dX7_settles_25 : decode mX7_settles.2.1 25 = .ok (.aload_n 0, 1) := by decide +kernel
theorem dX7_settles_26 : decode mX7_settles.2.1 26 = .ok (.getfield 126, 3) := by decide +kernel
theorem dX7_settles_29 : decode mX7_settles.2.1 29 = .ok (.ifCond .ge 8, 3) := by decide +kernel
theorem dX7_settles_32 : decode mX7_settles.2.1 32 = .ok (.bipush 80, 2) := by decide +kernel
theorem dX7_settles_34 : decode mX7_settles.2.1 34 = .ok (.goto 7, 3) := by decide +kernel
theorem dX7_settles_37 : decode mX7_settles.2.1 37 = .ok (.aload_n 0, 1) := by decide +kernel
theorem dX7_settles_38 : decode mX7_settles.2.1 38 = .ok (.getfield 126, 3) := by decide +kernel
theorem dX7_settles_41 : decode mX7_settles.2.1 41 = .ok (.putfield 19, 3) := by decide +kernel
theorem dX7_settles_44 : decode mX7_settles.2.1 44 = .ok (.aload_n 0, 1) := by decide +kernel
theorem dX7_settles_45 : decode mX7_settles.2.1 45 = .ok (.aload_n 0, 1) := by decide +kernel
theorem dX7_settles_46 : decode mX7_settles.2.1 46 = .ok (.getfield 129, 3) := by decide +kernel
theorem dX7_settles_49 : decode mX7_settles.2.1 49 = .ok (.ifCond .ge 7, 3) := by decide +kernel
theorem dX7_settles_52 : decode mX7_settles.2.1 52 = .ok (.iconst 2, 1) := by decide +kernel
theorem dX7_settles_53 : decode mX7_settles.2.1 53 = .ok (.goto 7, 3) := by decide +kernel
theorem dX7_settles_56 : decode mX7_settles.2.1 56 = .ok (.aload_n 0, 1) := by decide +kernel
theorem dX7_settles_57 : decode mX7_settles.2.1 57 = .ok (.getfield 129, 3) := by decide +kernel
theorem dX7_settles_60 : decode mX7_settles.2.1 60 = .ok (.putfield 23, 3) := by decide +kernel
theorem dX7_settles_63 : decode mX7_settles.2.1 63 = .ok (.aload_n 0, 1) := by decide +kernel
theorem dX7_settles_64 : decode mX7_settles.2.1 64 = .ok (.getfield 26, 3) := by decide +kernel
theorem dX7_settles_67 : decode mX7_settles.2.1 67 = .ok (.iconst 0, 1) := by decide +kernel
theorem dX7_settles_68 : decode mX7_settles.2.1 68 = .ok (.iconst 0, 1) := by decide +kernel
theorem dX7_settles_69 : decode mX7_settles.2.1 69 = .ok (.iastore, 1) := by decide +kernel
theorem dX7_settles_70 : decode mX7_settles.2.1 70 = .ok (.aload_n 0, 1) := by decide +kernel
theorem dX7_settles_71 : decode mX7_settles.2.1 71 = .ok (.getfield 26, 3) := by decide +kernel
theorem dX7_settles_74 : decode mX7_settles.2.1 74 = .ok (.iconst 1, 1) := by decide +kernel
theorem dX7_settles_75 : decode mX7_settles.2.1 75 = .ok (.iconst 0, 1) := by decide +kernel
theorem dX7_settles_76 : decode mX7_settles.2.1 76 = .ok (.iastore, 1) := by decide +kernel
theorem dX7_settles_77 : decode mX7_settles.2.1 77 = .ok (.aload_n 0, 1) := by decide +kernel
theorem dX7_settles_78 : decode mX7_settles.2.1 78 = .ok (.getfield 26, 3) := by decide +kernel
theorem dX7_settles_81 : decode mX7_settles.2.1 81 = .ok (.iconst 2, 1) := by decide +kernel
theorem dX7_settles_82 : decode mX7_settles.2.1 82 = .ok (.aload_n 0, 1) := by decide +kernel
theorem dX7_settles_83 : decode mX7_settles.2.1 83 = .ok (.getfield 23, 3) := by decide +kernel
theorem dX7_settles_86 : decode mX7_settles.2.1 86 = .ok (.iastore, 1) := by decide +kernel
theorem dX7_settles_87 : decode mX7_settles.2.1 87 = .ok (.iconst 0, 1) := by decide +kernel
theorem dX7_settles_88 : decode mX7_settles.2.1 88 = .ok (.istore_n 1, 1) := by decide +kernel
theorem dX7_settles_89 : decode mX7_settles.2.1 89 = .ok (.iload_n 1, 1) := by decide +kernel
theorem dX7_settles_90 : decode mX7_settles.2.1 90 = .ok (.bipush 6, 2) := by decide +kernel
theorem dX7_settles_92 : decode mX7_settles.2.1 92 = .ok (.if_icmp .ge 97, 3) := by decide +kernel
theorem dX7_settles_95 : decode mX7_settles.2.1 95 = .ok (.aload_n 0, 1) := by decide +kernel
theorem dX7_settles_96 : decode mX7_settles.2.1 96 = .ok (.getfield 7, 3) := by decide +kernel
theorem dX7_settles_99 : decode mX7_settles.2.1 99 = .ok (.iload_n 1, 1) := by decide +kernel
theorem dX7_settles_100 : decode mX7_settles.2.1 100 = .ok (.aload_n 0, 1) := by decide +kernel
theorem dX7_settles_101 : decode mX7_settles.2.1 101 = .ok (.getfield 45, 3) := by decide +kernel
theorem dX7_settles_104 : decode mX7_settles.2.1 104 = .ok (.iload_n 1, 1) := by decide +kernel
theorem dX7_settles_105 : decode mX7_settles.2.1 105 = .ok (.iaload, 1) := by decide +kernel
theorem dX7_settles_106 : decode mX7_settles.2.1 106 = .ok (.iastore, 1) := by decide +kernel
theorem dX7_settles_107 : decode mX7_settles.2.1 107 = .ok (.aload_n 0, 1) := by decide +kernel
theorem dX7_settles_108 : decode mX7_settles.2.1 108 = .ok (.getfield 13, 3) := by decide +kernel
theorem dX7_settles_111 : decode mX7_settles.2.1 111 = .ok (.iload_n 1, 1) := by decide +kernel
theorem dX7_settles_112 : decode mX7_settles.2.1 112 = .ok (.aload_n 0, 1) := by decide +kernel
theorem dX7_settles_113 : decode mX7_settles.2.1 113 = .ok (.getfield 48, 3) := by decide +kernel
theorem dX7_settles_116 : decode mX7_settles.2.1 116 = .ok (.iload_n 1, 1) := by decide +kernel
theorem dX7_settles_117 : decode mX7_settles.2.1 117 = .ok (.iaload, 1) := by decide +kernel
theorem dX7_settles_118 : decode mX7_settles.2.1 118 = .ok (.iastore, 1) := by decide +kernel
theorem dX7_settles_119 : decode mX7_settles.2.1 119 = .ok (.aload_n 0, 1) := by decide +kernel
theorem dX7_settles_120 : decode mX7_settles.2.1 120 = .ok (.getfield 16, 3) := by decide +kernel
theorem dX7_settles_123 : decode mX7_settles.2.1 123 = .ok (.iload_n 1, 1) := by decide +kernel
theorem dX7_settles_124 : decode mX7_settles.2.1 124 = .ok (.aload_n 0, 1) := by decide +kernel
theorem dX7_settles_125 : decode mX7_settles.2.1 125 = .ok (.getfield 57, 3) := by decide +kernel
theorem dX7_settles_128 : decode mX7_settles.2.1 128 = .ok (.iload_n 1, 1) := by decide +kernel
theorem dX7_settles_129 : decode mX7_settles.2.1 129 = .ok (.iaload, 1) := by decide +kernel
theorem dX7_settles_130 : decode mX7_settles.2.1 130 = .ok (.iastore, 1) := by decide +kernel
theorem dX7_settles_131 : decode mX7_settles.2.1 131 = .ok (.aload_n 0, 1) := by decide +kernel
theorem dX7_settles_132 : decode mX7_settles.2.1 132 = .ok (.getfield 26, 3) := by decide +kernel
theorem dX7_settles_135 : decode mX7_settles.2.1 135 = .ok (.iconst 3, 1) := by decide +kernel
theorem dX7_settles_136 : decode mX7_settles.2.1 136 = .ok (.iload_n 1, 1) := by decide +kernel
theorem dX7_settles_137 : decode mX7_settles.2.1 137 = .ok (.iadd, 1) := by decide +kernel
theorem dX7_settles_138 : decode mX7_settles.2.1 138 = .ok (.aload_n 0, 1) := by decide +kernel
theorem dX7_settles_139 : decode mX7_settles.2.1 139 = .ok (.getfield 51, 3) := by decide +kernel
theorem dX7_settles_142 : decode mX7_settles.2.1 142 = .ok (.iload_n 1, 1) := by decide +kernel
theorem dX7_settles_143 : decode mX7_settles.2.1 143 = .ok (.iaload, 1) := by decide +kernel
theorem dX7_settles_144 : decode mX7_settles.2.1 144 = .ok (.iastore, 1) := by decide +kernel
theorem dX7_settles_145 : decode mX7_settles.2.1 145 = .ok (.aload_n 0, 1) := by decide +kernel
theorem dX7_settles_146 : decode mX7_settles.2.1 146 = .ok (.getfield 26, 3) := by decide +kernel
theorem dX7_settles_149 : decode mX7_settles.2.1 149 = .ok (.bipush 9, 2) := by decide +kernel
theorem dX7_settles_151 : decode mX7_settles.2.1 151 = .ok (.iload_n 1, 1) := by decide +kernel
theorem dX7_settles_152 : decode mX7_settles.2.1 152 = .ok (.iadd, 1) := by decide +kernel
theorem dX7_settles_153 : decode mX7_settles.2.1 153 = .ok (.iload_n 1, 1) := by decide +kernel
theorem dX7_settles_154 : decode mX7_settles.2.1 154 = .ok (.aload_n 0, 1) := by decide +kernel
theorem dX7_settles_155 : decode mX7_settles.2.1 155 = .ok (.getfield 76, 3) := by decide +kernel
theorem dX7_settles_158 : decode mX7_settles.2.1 158 = .ok (.if_icmp .ge 12, 3) := by decide +kernel
theorem dX7_settles_161 : decode mX7_settles.2.1 161 = .ok (.aload_n 0, 1) := by decide +kernel
theorem dX7_settles_162 : decode mX7_settles.2.1 162 = .ok (.getfield 54, 3) := by decide +kernel
theorem dX7_settles_165 : decode mX7_settles.2.1 165 = .ok (.iload_n 1, 1) := by decide +kernel
theorem dX7_settles_166 : decode mX7_settles.2.1 166 = .ok (.iaload, 1) := by decide +kernel
theorem dX7_settles_167 : decode mX7_settles.2.1 167 = .ok (.goto 4, 3) := by decide +kernel
theorem dX7_settles_170 : decode mX7_settles.2.1 170 = .ok (.iconst 0, 1) := by decide +kernel
theorem dX7_settles_171 : decode mX7_settles.2.1 171 = .ok (.iastore, 1) := by decide +kernel
theorem dX7_settles_172 : decode mX7_settles.2.1 172 = .ok (.aload_n 0, 1) := by decide +kernel
theorem dX7_settles_173 : decode mX7_settles.2.1 173 = .ok (.getfield 26, 3) := by decide +kernel
theorem dX7_settles_176 : decode mX7_settles.2.1 176 = .ok (.bipush 15, 2) := by decide +kernel
theorem dX7_settles_178 : decode mX7_settles.2.1 178 = .ok (.iload_n 1, 1) := by decide +kernel
theorem dX7_settles_179 : decode mX7_settles.2.1 179 = .ok (.iadd, 1) := by decide +kernel
theorem dX7_settles_180 : decode mX7_settles.2.1 180 = .ok (.bipush (-9), 2) := by decide +kernel
theorem dX7_settles_182 : decode mX7_settles.2.1 182 = .ok (.iastore, 1) := by decide +kernel
theorem dX7_settles_183 : decode mX7_settles.2.1 183 = .ok (.iinc 1 1, 3) := by decide +kernel
theorem dX7_settles_186 : decode mX7_settles.2.1 186 = .ok (.goto (-97), 3) := by decide +kernel
theorem dX7_settles_189 : decode mX7_settles.2.1 189 = .ok (.aload_n 0, 1) := by decide +kernel
theorem dX7_settles_190 : decode mX7_settles.2.1 190 = .ok (.iconst 0, 1) := by decide +kernel
theorem dX7_settles_191 : decode mX7_settles.2.1 191 = .ok (.putfield 154, 3) := by decide +kernel
theorem dX7_settles_194 : decode mX7_settles.2.1 194 = .ok (.aload_n 0, 1) := by decide +kernel
theorem dX7_settles_195 : decode mX7_settles.2.1 195 = .ok (.iconst 0, 1) := by decide +kernel
theorem dX7_settles_196 : decode mX7_settles.2.1 196 = .ok (.putfield 157, 3) := by decide +kernel
theorem dX7_settles_199 : decode mX7_settles.2.1 199 = .ok (.aload_n 0, 1) := by decide +kernel
theorem dX7_settles_200 : decode mX7_settles.2.1 200 = .ok (.getfield 35, 3) := by decide +kernel
theorem dX7_settles_203 : decode mX7_settles.2.1 203 = .ok (.iconst 0, 1) := by decide +kernel
theorem dX7_settles_204 : decode mX7_settles.2.1 204 = .ok (.iconst 0, 1) := by decide +kernel
theorem dX7_settles_205 : decode mX7_settles.2.1 205 = .ok (.bastore, 1) := by decide +kernel
theorem dX7_settles_206 : decode mX7_settles.2.1 206 = .ok (.aload_n 0, 1) := by decide +kernel
theorem dX7_settles_207 : decode mX7_settles.2.1 207 = .ok (.getfield 35, 3) := by decide +kernel
theorem dX7_settles_210 : decode mX7_settles.2.1 210 = .ok (.iconst 1, 1) := by decide +kernel
theorem dX7_settles_211 : decode mX7_settles.2.1 211 = .ok (.iconst 0, 1) := by decide +kernel
theorem dX7_settles_212 : decode mX7_settles.2.1 212 = .ok (.bastore, 1) := by decide +kernel
theorem dX7_settles_213 : decode mX7_settles.2.1 213 = .ok (.aload_n 0, 1) := by decide +kernel
theorem dX7_settles_214 : decode mX7_settles.2.1 214 = .ok (.iconst 0, 1) := by decide +kernel
theorem dX7_settles_215 : decode mX7_settles.2.1 215 = .ok (.putfield 79, 3) := by decide +kernel
theorem dX7_settles_218 : decode mX7_settles.2.1 218 = .ok (.return_, 1) := by decide +kernel
theorem dX7_asItIs_0 : decode mX7_asItIs.2.1 0 = .ok (.aload_n 0, 1) := by decide +kernel
theorem dX7_asItIs_1 : decode mX7_asItIs.2.1 1 = .ok (.getfield 60, 3) := by decide +kernel
theorem dX7_asItIs_4 : decode mX7_asItIs.2.1 4 = .ok (.iconst 0, 1) := by decide +kernel
theorem dX7_asItIs_5 : decode mX7_asItIs.2.1 5 = .ok (.aload_n 0, 1) := by decide +kernel
theorem dX7_asItIs_6 : decode mX7_asItIs.2.1 6 = .ok (.getfield 26, 3) := by decide +kernel
theorem dX7_asItIs_9 : decode mX7_asItIs.2.1 9 = .ok (.iconst 0, 1) := by decide +kernel
theorem dX7_asItIs_10 : decode mX7_asItIs.2.1 10 = .ok (.invokestatic 160, 3) := by decide +kernel
theorem dX7_asItIs_13 : decode mX7_asItIs.2.1 13 = .ok (.return_, 1) := by decide +kernel
theorem dX7_weightOf_0 : decode mX7_weightOf.2.1 0 = .ok (.iconst 0, 1) := by decide +kernel
theorem dX7_weightOf_1 : decode mX7_weightOf.2.1 1 = .ok (.istore_n 2, 1) := by decide +kernel
theorem dX7_weightOf_2 : decode mX7_weightOf.2.1 2 = .ok (.iconst 0, 1) := by decide +kernel
theorem dX7_weightOf_3 : decode mX7_weightOf.2.1 3 = .ok (.istore_n 3, 1) := by decide +kernel
theorem dX7_weightOf_4 : decode mX7_weightOf.2.1 4 = .ok (.iload_n 3, 1) := by decide +kernel
theorem dX7_weightOf_5 : decode mX7_weightOf.2.1 5 = .ok (.aload_n 0, 1) := by decide +kernel
theorem dX7_weightOf_6 : decode mX7_weightOf.2.1 6 = .ok (.getfield 69, 3) := by decide +kernel
theorem dX7_weightOf_9 : decode mX7_weightOf.2.1 9 = .ok (.if_icmp .ge 30, 3) := by decide +kernel
theorem dX7_weightOf_12 : decode mX7_weightOf.2.1 12 = .ok (.iload_n 2, 1) := by decide +kernel
theorem dX7_weightOf_13 : decode mX7_weightOf.2.1 13 = .ok (.iload_n 1, 1) := by decide +kernel
theorem dX7_weightOf_14 : decode mX7_weightOf.2.1 14 = .ok (.iload_n 3, 1) := by decide +kernel
theorem dX7_weightOf_15 : decode mX7_weightOf.2.1 15 = .ok (.invokestatic 119, 3) := by decide +kernel
theorem dX7_weightOf_18 : decode mX7_weightOf.2.1 18 = .ok (.ifCond .eq 12, 3) := by decide +kernel
theorem dX7_weightOf_21 : decode mX7_weightOf.2.1 21 = .ok (.aload_n 0, 1) := by decide +kernel
theorem dX7_weightOf_22 : decode mX7_weightOf.2.1 22 = .ok (.getfield 7, 3) := by decide +kernel
theorem dX7_weightOf_25 : decode mX7_weightOf.2.1 25 = .ok (.iload_n 3, 1) := by decide +kernel
theorem dX7_weightOf_26 : decode mX7_weightOf.2.1 26 = .ok (.iaload, 1) := by decide +kernel
theorem dX7_weightOf_27 : decode mX7_weightOf.2.1 27 = .ok (.goto 4, 3) := by decide +kernel
theorem dX7_weightOf_30 : decode mX7_weightOf.2.1 30 = .ok (.iconst 0, 1) := by decide +kernel
theorem dX7_weightOf_31 : decode mX7_weightOf.2.1 31 = .ok (.iadd, 1) := by decide +kernel
theorem dX7_weightOf_32 : decode mX7_weightOf.2.1 32 = .ok (.istore_n 2, 1) := by decide +kernel
theorem dX7_weightOf_33 : decode mX7_weightOf.2.1 33 = .ok (.iinc 3 1, 3) := by decide +kernel
theorem dX7_weightOf_36 : decode mX7_weightOf.2.1 36 = .ok (.goto (-32), 3) := by decide +kernel
theorem dX7_weightOf_39 : decode mX7_weightOf.2.1 39 = .ok (.iload_n 2, 1) := by decide +kernel
theorem dX7_weightOf_40 : decode mX7_weightOf.2.1 40 = .ok (.ireturn, 1) := by decide +kernel
theorem dX7_truly_0 : decode mX7_truly.2.1 0 = .ok (.aload_n 0, 1) := by decide +kernel
theorem dX7_truly_1 : decode mX7_truly.2.1 1 = .ok (.getfield 13, 3) := by decide +kernel
theorem dX7_truly_4 : decode mX7_truly.2.1 4 = .ok (.iload_n 1, 1) := by decide +kernel
theorem dX7_truly_5 : decode mX7_truly.2.1 5 = .ok (.iaload, 1) := by decide +kernel
theorem dX7_truly_6 : decode mX7_truly.2.1 6 = .ok (.aload_n 0, 1) := by decide +kernel
theorem dX7_truly_7 : decode mX7_truly.2.1 7 = .ok (.getfield 60, 3) := by decide +kernel
theorem dX7_truly_10 : decode mX7_truly.2.1 10 = .ok (.iconst 3, 1) := by decide +kernel
theorem dX7_truly_11 : decode mX7_truly.2.1 11 = .ok (.iload_n 1, 1) := by decide +kernel
theorem dX7_truly_12 : decode mX7_truly.2.1 12 = .ok (.iadd, 1) := by decide +kernel
theorem dX7_truly_13 : decode mX7_truly.2.1 13 = .ok (.iaload, 1) := by decide +kernel
theorem dX7_truly_14 : decode mX7_truly.2.1 14 = .ok (.iadd, 1) := by decide +kernel
theorem dX7_truly_15 : decode mX7_truly.2.1 15 = .ok (.aload_n 0, 1) := by decide +kernel
theorem dX7_truly_16 : decode mX7_truly.2.1 16 = .ok (.aload_n 0, 1) := by decide +kernel
theorem dX7_truly_17 : decode mX7_truly.2.1 17 = .ok (.getfield 60, 3) := by decide +kernel
theorem dX7_truly_20 : decode mX7_truly.2.1 20 = .ok (.bipush 9, 2) := by decide +kernel
theorem dX7_truly_22 : decode mX7_truly.2.1 22 = .ok (.iload_n 1, 1) := by decide +kernel
theorem dX7_truly_23 : decode mX7_truly.2.1 23 = .ok (.iadd, 1) := by decide +kernel
theorem dX7_truly_24 : decode mX7_truly.2.1 24 = .ok (.iaload, 1) := by decide +kernel
theorem dX7_truly_25 : decode mX7_truly.2.1 25 = .ok (.invokevirtual 164, 3) := by decide +kernel
theorem dX7_truly_28 : decode mX7_truly.2.1 28 = .ok (.iadd, 1) := by decide +kernel
theorem dX7_truly_29 : decode mX7_truly.2.1 29 = .ok (.ireturn, 1) := by decide +kernel
theorem dX7_loadOf_0 : decode mX7_loadOf.2.1 0 = .ok (.aload_n 0, 1) := by decide +kernel
theorem dX7_loadOf_1 : decode mX7_loadOf.2.1 1 = .ok (.iload_n 1, 1) := by decide +kernel
theorem dX7_loadOf_2 : decode mX7_loadOf.2.1 2 = .ok (.invokevirtual 167, 3) := by decide +kernel
theorem dX7_loadOf_5 : decode mX7_loadOf.2.1 5 = .ok (.aload_n 0, 1) := by decide +kernel
theorem dX7_loadOf_6 : decode mX7_loadOf.2.1 6 = .ok (.getfield 60, 3) := by decide +kernel
theorem dX7_loadOf_9 : decode mX7_loadOf.2.1 9 = .ok (.iconst 1, 1) := by decide +kernel
theorem dX7_loadOf_10 : decode mX7_loadOf.2.1 10 = .ok (.iaload, 1) := by decide +kernel
theorem dX7_loadOf_11 : decode mX7_loadOf.2.1 11 = .ok (.iadd, 1) := by decide +kernel
theorem dX7_loadOf_12 : decode mX7_loadOf.2.1 12 = .ok (.istore_n 2, 1) := by decide +kernel
theorem dX7_loadOf_13 : decode mX7_loadOf.2.1 13 = .ok (.iload_n 2, 1) := by decide +kernel
theorem dX7_loadOf_14 : decode mX7_loadOf.2.1 14 = .ok (.ifCond .ge 7, 3) := by decide +kernel
theorem dX7_loadOf_17 : decode mX7_loadOf.2.1 17 = .ok (.iconst 0, 1) := by decide +kernel
theorem dX7_loadOf_18 : decode mX7_loadOf.2.1 18 = .ok (.goto 4, 3) := by decide +kernel
theorem dX7_loadOf_21 : decode mX7_loadOf.2.1 21 = .ok (.iload_n 2, 1) := by decide +kernel
theorem dX7_loadOf_22 : decode mX7_loadOf.2.1 22 = .ok (.ireturn, 1) := by decide +kernel
theorem dX7_moves_0 : decode mX7_moves.2.1 0 = .ok (.iload_n 1, 1) := by decide +kernel
theorem dX7_moves_1 : decode mX7_moves.2.1 1 = .ok (.aload_n 0, 1) := by decide +kernel
theorem dX7_moves_2 : decode mX7_moves.2.1 2 = .ok (.getfield 60, 3) := by decide +kernel
theorem dX7_moves_5 : decode mX7_moves.2.1 5 = .ok (.iconst 2, 1) := by decide +kernel
theorem dX7_moves_6 : decode mX7_moves.2.1 6 = .ok (.iaload, 1) := by decide +kernel
theorem dX7_moves_7 : decode mX7_moves.2.1 7 = .ok (.isub, 1) := by decide +kernel
theorem dX7_moves_8 : decode mX7_moves.2.1 8 = .ok (.istore_n 2, 1) := by decide +kernel
theorem dX7_moves_9 : decode mX7_moves.2.1 9 = .ok (.iload_n 1, 1) := by decide +kernel
theorem dX7_moves_10 : decode mX7_moves.2.1 10 = .ok (.aload_n 0, 1) := by decide +kernel
theorem dX7_moves_11 : decode mX7_moves.2.1 11 = .ok (.getfield 60, 3) := by decide +kernel
theorem dX7_moves_14 : decode mX7_moves.2.1 14 = .ok (.iconst 2, 1) := by decide +kernel
theorem dX7_moves_15 : decode mX7_moves.2.1 15 = .ok (.iaload, 1) := by decide +kernel
theorem dX7_moves_16 : decode mX7_moves.2.1 16 = .ok (.iadd, 1) := by decide +kernel
theorem dX7_moves_17 : decode mX7_moves.2.1 17 = .ok (.istore_n 3, 1) := by decide +kernel
theorem dX7_moves_18 : decode mX7_moves.2.1 18 = .ok (.aload_n 0, 1) := by decide +kernel
theorem dX7_moves_19 : decode mX7_moves.2.1 19 = .ok (.getfield 60, 3) := by decide +kernel
theorem dX7_moves_22 : decode mX7_moves.2.1 22 = .ok (.iconst 0, 1) := by decide +kernel
theorem dX7_moves_23 : decode mX7_moves.2.1 23 = .ok (.iaload, 1) := by decide +kernel
theorem dX7_moves_24 : decode mX7_moves.2.1 24 = .ok (.iload_n 2, 1) := by decide +kernel
theorem dX7_moves_25 : decode mX7_moves.2.1 25 = .ok (.if_icmp .ge 7, 3) := by decide +kernel
theorem dX7_moves_28 : decode mX7_moves.2.1 28 = .ok (.iload_n 2, 1) := by decide +kernel
theorem dX7_moves_29 : decode mX7_moves.2.1 29 = .ok (.goto 23, 3) := by decide +kernel
theorem dX7_moves_32 : decode mX7_moves.2.1 32 = .ok (.aload_n 0, 1) := by decide +kernel
theorem dX7_moves_33 : decode mX7_moves.2.1 33 = .ok (.getfield 60, 3) := by decide +kernel
theorem dX7_moves_36 : decode mX7_moves.2.1 36 = .ok (.iconst 0, 1) := by decide +kernel
theorem dX7_moves_37 : decode mX7_moves.2.1 37 = .ok (.iaload, 1) := by decide +kernel
theorem dX7_moves_38 : decode mX7_moves.2.1 38 = .ok (.iload_n 3, 1) := by decide +kernel
theorem dX7_moves_39 : decode mX7_moves.2.1 39 = .ok (.if_icmp .le 7, 3) := by decide +kernel
theorem dX7_moves_42 : decode mX7_moves.2.1 42 = .ok (.iload_n 3, 1) := by decide +kernel
theorem dX7_moves_43 : decode mX7_moves.2.1 43 = .ok (.goto 9, 3) := by decide +kernel
theorem dX7_moves_46 : decode mX7_moves.2.1 46 = .ok (.aload_n 0, 1) := by decide +kernel
theorem dX7_moves_47 : decode mX7_moves.2.1 47 = .ok (.getfield 60, 3) := by decide +kernel
theorem dX7_moves_50 : decode mX7_moves.2.1 50 = .ok (.iconst 0, 1) := by decide +kernel
theorem dX7_moves_51 : decode mX7_moves.2.1 51 = .ok (.iaload, 1) := by decide +kernel
theorem dX7_moves_52 : decode mX7_moves.2.1 52 = .ok (.istore 4, 2) := by decide +kernel
theorem dX7_moves_54 : decode mX7_moves.2.1 54 = .ok (.aload_n 0, 1) := by decide +kernel
theorem dX7_moves_55 : decode mX7_moves.2.1 55 = .ok (.getfield 60, 3) := by decide +kernel
theorem dX7_moves_58 : decode mX7_moves.2.1 58 = .ok (.iconst 0, 1) := by decide +kernel
theorem dX7_moves_59 : decode mX7_moves.2.1 59 = .ok (.iload 4, 2) := by decide +kernel
theorem dX7_moves_61 : decode mX7_moves.2.1 61 = .ok (.aload_n 0, 1) := by decide +kernel
theorem dX7_moves_62 : decode mX7_moves.2.1 62 = .ok (.getfield 19, 3) := by decide +kernel
theorem dX7_moves_65 : decode mX7_moves.2.1 65 = .ok (.if_icmp .le 10, 3) := by decide +kernel
theorem dX7_moves_68 : decode mX7_moves.2.1 68 = .ok (.aload_n 0, 1) := by decide +kernel
theorem dX7_moves_69 : decode mX7_moves.2.1 69 = .ok (.getfield 19, 3) := by decide +kernel
theorem dX7_moves_72 : decode mX7_moves.2.1 72 = .ok (.goto 5, 3) := by decide +kernel
theorem dX7_moves_75 : decode mX7_moves.2.1 75 = .ok (.iload 4, 2) := by decide +kernel
theorem dX7_moves_77 : decode mX7_moves.2.1 77 = .ok (.iastore, 1) := by decide +kernel
theorem dX7_moves_78 : decode mX7_moves.2.1 78 = .ok (.return_, 1) := by decide +kernel
theorem dX7_laid_0 : decode mX7_laid.2.1 0 = .ok (.aload_n 0, 1) := by decide +kernel
theorem dX7_laid_1 : decode mX7_laid.2.1 1 = .ok (.aload_n 0, 1) := by decide +kernel
theorem dX7_laid_2 : decode mX7_laid.2.1 2 = .ok (.iload_n 1, 1) := by decide +kernel
theorem dX7_laid_3 : decode mX7_laid.2.1 3 = .ok (.invokevirtual 170, 3) := by decide +kernel
theorem dX7_laid_6 : decode mX7_laid.2.1 6 = .ok (.invokevirtual 173, 3) := by decide +kernel
theorem dX7_laid_9 : decode mX7_laid.2.1 9 = .ok (.aload_n 0, 1) := by decide +kernel
theorem dX7_laid_10 : decode mX7_laid.2.1 10 = .ok (.getfield 60, 3) := by decide +kernel
theorem dX7_laid_13 : decode mX7_laid.2.1 13 = .ok (.iconst 0, 1) := by decide +kernel
theorem dX7_laid_14 : decode mX7_laid.2.1 14 = .ok (.iaload, 1) := by decide +kernel
theorem dX7_laid_15 : decode mX7_laid.2.1 15 = .ok (.istore_n 2, 1) := by decide +kernel
theorem dX7_laid_16 : decode mX7_laid.2.1 16 = .ok (.aload_n 0, 1) := by decide +kernel
theorem dX7_laid_17 : decode mX7_laid.2.1 17 = .ok (.getfield 60, 3) := by decide +kernel
theorem dX7_laid_20 : decode mX7_laid.2.1 20 = .ok (.bipush 15, 2) := by decide +kernel
theorem dX7_laid_22 : decode mX7_laid.2.1 22 = .ok (.iload_n 1, 1) := by decide +kernel
theorem dX7_laid_23 : decode mX7_laid.2.1 23 = .ok (.iadd, 1) := by decide +kernel
theorem dX7_laid_24 : decode mX7_laid.2.1 24 = .ok (.iload_n 2, 1) := by decide +kernel
theorem dX7_laid_25 : decode mX7_laid.2.1 25 = .ok (.iastore, 1) := by decide +kernel
theorem dX7_laid_26 : decode mX7_laid.2.1 26 = .ok (.aload_n 0, 1) := by decide +kernel
theorem dX7_laid_27 : decode mX7_laid.2.1 27 = .ok (.iconst 0, 1) := by decide +kernel
theorem dX7_laid_28 : decode mX7_laid.2.1 28 = .ok (.invokevirtual 173, 3) := by decide +kernel
theorem dX7_laid_31 : decode mX7_laid.2.1 31 = .ok (.aload_n 0, 1) := by decide +kernel
theorem dX7_laid_32 : decode mX7_laid.2.1 32 = .ok (.getfield 60, 3) := by decide +kernel
theorem dX7_laid_35 : decode mX7_laid.2.1 35 = .ok (.iconst 1, 1) := by decide +kernel
theorem dX7_laid_36 : decode mX7_laid.2.1 36 = .ok (.iconst 0, 1) := by decide +kernel
theorem dX7_laid_37 : decode mX7_laid.2.1 37 = .ok (.iastore, 1) := by decide +kernel
theorem dX7_laid_38 : decode mX7_laid.2.1 38 = .ok (.iload_n 2, 1) := by decide +kernel
theorem dX7_laid_39 : decode mX7_laid.2.1 39 = .ok (.ireturn, 1) := by decide +kernel
theorem dX7_readsOf_0 : decode mX7_readsOf.2.1 0 = .ok (.aload_n 0, 1) := by decide +kernel
theorem dX7_readsOf_1 : decode mX7_readsOf.2.1 1 = .ok (.invokevirtual 176, 3) := by decide +kernel
theorem dX7_readsOf_4 : decode mX7_readsOf.2.1 4 = .ok (.aload_n 0, 1) := by decide +kernel
theorem dX7_readsOf_5 : decode mX7_readsOf.2.1 5 = .ok (.iload_n 1, 1) := by decide +kernel
theorem dX7_readsOf_6 : decode mX7_readsOf.2.1 6 = .ok (.invokevirtual 179, 3) := by decide +kernel
theorem dX7_readsOf_9 : decode mX7_readsOf.2.1 9 = .ok (.ireturn, 1) := by decide +kernel
theorem dX7_chalked_0 : decode mX7_chalked.2.1 0 = .ok (.iconst 0, 1) := by decide +kernel
theorem dX7_chalked_1 : decode mX7_chalked.2.1 1 = .ok (.istore_n 1, 1) := by decide +kernel
theorem dX7_chalked_2 : decode mX7_chalked.2.1 2 = .ok (.iconst 0, 1) := by decide +kernel
theorem dX7_chalked_3 : decode mX7_chalked.2.1 3 = .ok (.istore_n 2, 1) := by decide +kernel
theorem dX7_chalked_4 : decode mX7_chalked.2.1 4 = .ok (.iload_n 2, 1) := by decide +kernel
theorem dX7_chalked_5 : decode mX7_chalked.2.1 5 = .ok (.aload_n 0, 1) := by decide +kernel
theorem dX7_chalked_6 : decode mX7_chalked.2.1 6 = .ok (.getfield 76, 3) := by decide +kernel
theorem dX7_chalked_9 : decode mX7_chalked.2.1 9 = .ok (.if_icmp .ge 33, 3) := by decide +kernel
theorem dX7_chalked_12 : decode mX7_chalked.2.1 12 = .ok (.iload_n 1, 1) := by decide +kernel
theorem dX7_chalked_13 : decode mX7_chalked.2.1 13 = .ok (.aload_n 0, 1) := by decide +kernel
theorem dX7_chalked_14 : decode mX7_chalked.2.1 14 = .ok (.getfield 26, 3) := by decide +kernel
theorem dX7_chalked_17 : decode mX7_chalked.2.1 17 = .ok (.bipush 15, 2) := by decide +kernel
theorem dX7_chalked_19 : decode mX7_chalked.2.1 19 = .ok (.iload_n 2, 1) := by decide +kernel
theorem dX7_chalked_20 : decode mX7_chalked.2.1 20 = .ok (.iadd, 1) := by decide +kernel
theorem dX7_chalked_21 : decode mX7_chalked.2.1 21 = .ok (.iaload, 1) := by decide +kernel
theorem dX7_chalked_22 : decode mX7_chalked.2.1 22 = .ok (.bipush (-9), 2) := by decide +kernel
theorem dX7_chalked_24 : decode mX7_chalked.2.1 24 = .ok (.if_icmp .ne 7, 3) := by decide +kernel
theorem dX7_chalked_27 : decode mX7_chalked.2.1 27 = .ok (.iconst 0, 1) := by decide +kernel
theorem dX7_chalked_28 : decode mX7_chalked.2.1 28 = .ok (.goto 6, 3) := by decide +kernel
theorem dX7_chalked_31 : decode mX7_chalked.2.1 31 = .ok (.iconst 1, 1) := by decide +kernel
theorem dX7_chalked_32 : decode mX7_chalked.2.1 32 = .ok (.iload_n 2, 1) := by decide +kernel
theorem dX7_chalked_33 : decode mX7_chalked.2.1 33 = .ok (.ishl, 1) := by decide +kernel
theorem dX7_chalked_34 : decode mX7_chalked.2.1 34 = .ok (.ior, 1) := by decide +kernel
theorem dX7_chalked_35 : decode mX7_chalked.2.1 35 = .ok (.istore_n 1, 1) := by decide +kernel
theorem dX7_chalked_36 : decode mX7_chalked.2.1 36 = .ok (.iinc 2 1, 3) := by decide +kernel
theorem dX7_chalked_39 : decode mX7_chalked.2.1 39 = .ok (.goto (-35), 3) := by decide +kernel
theorem dX7_chalked_42 : decode mX7_chalked.2.1 42 = .ok (.iload_n 1, 1) := by decide +kernel
theorem dX7_chalked_43 : decode mX7_chalked.2.1 43 = .ok (.ireturn, 1) := by decide +kernel
theorem dX7_whoDid_0 : decode mX7_whoDid.2.1 0 = .ok (.iconst 0, 1) := by decide +kernel
theorem dX7_whoDid_1 : decode mX7_whoDid.2.1 1 = .ok (.istore_n 2, 1) := by decide +kernel
theorem dX7_whoDid_2 : decode mX7_whoDid.2.1 2 = .ok (.iconst 0, 1) := by decide +kernel
theorem dX7_whoDid_3 : decode mX7_whoDid.2.1 3 = .ok (.istore_n 3, 1) := by decide +kernel
theorem dX7_whoDid_4 : decode mX7_whoDid.2.1 4 = .ok (.iload_n 3, 1) := by decide +kernel
theorem dX7_whoDid_5 : decode mX7_whoDid.2.1 5 = .ok (.aload_n 0, 1) := by decide +kernel
theorem dX7_whoDid_6 : decode mX7_whoDid.2.1 6 = .ok (.getfield 76, 3) := by decide +kernel
theorem dX7_whoDid_9 : decode mX7_whoDid.2.1 9 = .ok (.if_icmp .ge 35, 3) := by decide +kernel
theorem dX7_whoDid_12 : decode mX7_whoDid.2.1 12 = .ok (.iload_n 2, 1) := by decide +kernel
theorem dX7_whoDid_13 : decode mX7_whoDid.2.1 13 = .ok (.aload_n 0, 1) := by decide +kernel
theorem dX7_whoDid_14 : decode mX7_whoDid.2.1 14 = .ok (.getfield 26, 3) := by decide +kernel
theorem dX7_whoDid_17 : decode mX7_whoDid.2.1 17 = .ok (.bipush 9, 2) := by decide +kernel
theorem dX7_whoDid_19 : decode mX7_whoDid.2.1 19 = .ok (.iload_n 3, 1) := by decide +kernel
theorem dX7_whoDid_20 : decode mX7_whoDid.2.1 20 = .ok (.iadd, 1) := by decide +kernel
theorem dX7_whoDid_21 : decode mX7_whoDid.2.1 21 = .ok (.iaload, 1) := by decide +kernel
theorem dX7_whoDid_22 : decode mX7_whoDid.2.1 22 = .ok (.iload_n 1, 1) := by decide +kernel
theorem dX7_whoDid_23 : decode mX7_whoDid.2.1 23 = .ok (.invokestatic 119, 3) := by decide +kernel
theorem dX7_whoDid_26 : decode mX7_whoDid.2.1 26 = .ok (.ifCond .eq 9, 3) := by decide +kernel
theorem dX7_whoDid_29 : decode mX7_whoDid.2.1 29 = .ok (.iconst 1, 1) := by decide +kernel
theorem dX7_whoDid_30 : decode mX7_whoDid.2.1 30 = .ok (.iload_n 3, 1) := by decide +kernel
theorem dX7_whoDid_31 : decode mX7_whoDid.2.1 31 = .ok (.ishl, 1) := by decide +kernel
theorem dX7_whoDid_32 : decode mX7_whoDid.2.1 32 = .ok (.goto 4, 3) := by decide +kernel
theorem dX7_whoDid_35 : decode mX7_whoDid.2.1 35 = .ok (.iconst 0, 1) := by decide +kernel
theorem dX7_whoDid_36 : decode mX7_whoDid.2.1 36 = .ok (.ior, 1) := by decide +kernel
theorem dX7_whoDid_37 : decode mX7_whoDid.2.1 37 = .ok (.istore_n 2, 1) := by decide +kernel
theorem dX7_whoDid_38 : decode mX7_whoDid.2.1 38 = .ok (.iinc 3 1, 3) := by decide +kernel
theorem dX7_whoDid_41 : decode mX7_whoDid.2.1 41 = .ok (.goto (-37), 3) := by decide +kernel
theorem dX7_whoDid_44 : decode mX7_whoDid.2.1 44 = .ok (.iload_n 2, 1) := by decide +kernel
theorem dX7_whoDid_45 : decode mX7_whoDid.2.1 45 = .ok (.ireturn, 1) := by decide +kernel
theorem dX7_deed_0 : decode mX7_deed.2.1 0 = .ok (.aload_n 0, 1) := by decide +kernel
theorem dX7_deed_1 : decode mX7_deed.2.1 1 = .ok (.iload_n 1, 1) := by decide +kernel
theorem dX7_deed_2 : decode mX7_deed.2.1 2 = .ok (.invokevirtual 182, 3) := by decide +kernel
theorem dX7_deed_5 : decode mX7_deed.2.1 5 = .ok (.ifCond .eq 12, 3) := by decide +kernel
theorem dX7_deed_8 : decode mX7_deed.2.1 8 = .ok (.iload_n 2, 1) := by decide +kernel
theorem dX7_deed_9 : decode mX7_deed.2.1 9 = .ok (.iconst 0, 1) := by decide +kernel
theorem dX7_deed_10 : decode mX7_deed.2.1 10 = .ok (.iconst 1, 1) := by decide +kernel
theorem dX7_deed_11 : decode mX7_deed.2.1 11 = .ok (.invokestatic 72, 3) := by decide +kernel
theorem dX7_deed_14 : decode mX7_deed.2.1 14 = .ok (.ifCond .ne 6, 3) := by decide +kernel
theorem dX7_deed_17 : decode mX7_deed.2.1 17 = .ok (.ldc 185, 2) := by decide +kernel
theorem dX7_deed_19 : decode mX7_deed.2.1 19 = .ok (.ireturn, 1) := by decide +kernel
theorem dX7_deed_20 : decode mX7_deed.2.1 20 = .ok (.iload_n 2, 1) := by decide +kernel
theorem dX7_deed_21 : decode mX7_deed.2.1 21 = .ok (.ifCond .ne 12, 3) := by decide +kernel
theorem dX7_deed_24 : decode mX7_deed.2.1 24 = .ok (.aload_n 0, 1) := by decide +kernel
theorem dX7_deed_25 : decode mX7_deed.2.1 25 = .ok (.getfield 7, 3) := by decide +kernel
theorem dX7_deed_28 : decode mX7_deed.2.1 28 = .ok (.iload_n 1, 1) := by decide +kernel
theorem dX7_deed_29 : decode mX7_deed.2.1 29 = .ok (.iaload, 1) := by decide +kernel
theorem dX7_deed_30 : decode mX7_deed.2.1 30 = .ok (.goto 8, 3) := by decide +kernel
theorem dX7_deed_33 : decode mX7_deed.2.1 33 = .ok (.aload_n 0, 1) := by decide +kernel
theorem dX7_deed_34 : decode mX7_deed.2.1 34 = .ok (.iload_n 1, 1) := by decide +kernel
theorem dX7_deed_35 : decode mX7_deed.2.1 35 = .ok (.invokevirtual 186, 3) := by decide +kernel
theorem dX7_deed_38 : decode mX7_deed.2.1 38 = .ok (.ireturn, 1) := by decide +kernel
theorem dX7_dead_0 : decode mX7_dead.2.1 0 = .ok (.aload_n 0, 1) := by decide +kernel
theorem dX7_dead_1 : decode mX7_dead.2.1 1 = .ok (.iload_n 1, 1) := by decide +kernel
theorem dX7_dead_2 : decode mX7_dead.2.1 2 = .ok (.invokevirtual 189, 3) := by decide +kernel
theorem dX7_dead_5 : decode mX7_dead.2.1 5 = .ok (.ifCond .ne 6, 3) := by decide +kernel
theorem dX7_dead_8 : decode mX7_dead.2.1 8 = .ok (.ldc 185, 2) := by decide +kernel
theorem dX7_dead_10 : decode mX7_dead.2.1 10 = .ok (.ireturn, 1) := by decide +kernel
theorem dX7_dead_11 : decode mX7_dead.2.1 11 = .ok (.aload_n 0, 1) := by decide +kernel
theorem dX7_dead_12 : decode mX7_dead.2.1 12 = .ok (.invokevirtual 176, 3) := by decide +kernel
theorem dX7_dead_15 : decode mX7_dead.2.1 15 = .ok (.iload_n 2, 1) := by decide +kernel
theorem dX7_dead_16 : decode mX7_dead.2.1 16 = .ok (.tableswitch 145 0 7 #[48, 55, 64, 74, 88, 94, 104, 110], 48) := by decide +kernel
theorem dX7_dead_64 : decode mX7_dead.2.1 64 = .ok (.aload_n 0, 1) := by decide +kernel
theorem dX7_dead_65 : decode mX7_dead.2.1 65 = .ok (.getfield 13, 3) := by decide +kernel
theorem dX7_dead_68 : decode mX7_dead.2.1 68 = .ok (.iload_n 1, 1) := by decide +kernel
theorem dX7_dead_69 : decode mX7_dead.2.1 69 = .ok (.iaload, 1) := by decide +kernel
theorem dX7_dead_70 : decode mX7_dead.2.1 70 = .ok (.ireturn, 1) := by decide +kernel
theorem dX7_dead_71 : decode mX7_dead.2.1 71 = .ok (.aload_n 0, 1) := by decide +kernel
theorem dX7_dead_72 : decode mX7_dead.2.1 72 = .ok (.getfield 26, 3) := by decide +kernel
theorem dX7_dead_75 : decode mX7_dead.2.1 75 = .ok (.iconst 3, 1) := by decide +kernel
theorem dX7_dead_76 : decode mX7_dead.2.1 76 = .ok (.iload_n 1, 1) := by decide +kernel
theorem dX7_dead_77 : decode mX7_dead.2.1 77 = .ok (.iadd, 1) := by decide +kernel
theorem dX7_dead_78 : decode mX7_dead.2.1 78 = .ok (.iaload, 1) := by decide +kernel
theorem dX7_dead_79 : decode mX7_dead.2.1 79 = .ok (.ireturn, 1) := by decide +kernel
theorem dX7_dead_80 : decode mX7_dead.2.1 80 = .ok (.aload_n 0, 1) := by decide +kernel
theorem dX7_dead_81 : decode mX7_dead.2.1 81 = .ok (.getfield 26, 3) := by decide +kernel
theorem dX7_dead_84 : decode mX7_dead.2.1 84 = .ok (.bipush 9, 2) := by decide +kernel
theorem dX7_dead_86 : decode mX7_dead.2.1 86 = .ok (.iload_n 1, 1) := by decide +kernel
theorem dX7_dead_87 : decode mX7_dead.2.1 87 = .ok (.iadd, 1) := by decide +kernel
theorem dX7_dead_88 : decode mX7_dead.2.1 88 = .ok (.iaload, 1) := by decide +kernel
theorem dX7_dead_89 : decode mX7_dead.2.1 89 = .ok (.ireturn, 1) := by decide +kernel
theorem dX7_dead_90 : decode mX7_dead.2.1 90 = .ok (.aload_n 0, 1) := by decide +kernel
theorem dX7_dead_91 : decode mX7_dead.2.1 91 = .ok (.aload_n 0, 1) := by decide +kernel
theorem dX7_dead_92 : decode mX7_dead.2.1 92 = .ok (.getfield 26, 3) := by decide +kernel
theorem dX7_dead_95 : decode mX7_dead.2.1 95 = .ok (.bipush 9, 2) := by decide +kernel
theorem dX7_dead_97 : decode mX7_dead.2.1 97 = .ok (.iload_n 1, 1) := by decide +kernel
theorem dX7_dead_98 : decode mX7_dead.2.1 98 = .ok (.iadd, 1) := by decide +kernel
theorem dX7_dead_99 : decode mX7_dead.2.1 99 = .ok (.iaload, 1) := by decide +kernel
theorem dX7_dead_100 : decode mX7_dead.2.1 100 = .ok (.invokevirtual 164, 3) := by decide +kernel
theorem dX7_dead_103 : decode mX7_dead.2.1 103 = .ok (.ireturn, 1) := by decide +kernel
theorem dX7_dead_104 : decode mX7_dead.2.1 104 = .ok (.aload_n 0, 1) := by decide +kernel
theorem dX7_dead_105 : decode mX7_dead.2.1 105 = .ok (.iload_n 1, 1) := by decide +kernel
theorem dX7_dead_106 : decode mX7_dead.2.1 106 = .ok (.invokevirtual 170, 3) := by decide +kernel
theorem dX7_dead_109 : decode mX7_dead.2.1 109 = .ok (.ireturn, 1) := by decide +kernel
theorem dX7_dead_110 : decode mX7_dead.2.1 110 = .ok (.aload_n 0, 1) := by decide +kernel
theorem dX7_dead_111 : decode mX7_dead.2.1 111 = .ok (.getfield 26, 3) := by decide +kernel
theorem dX7_dead_114 : decode mX7_dead.2.1 114 = .ok (.bipush 15, 2) := by decide +kernel
theorem dX7_dead_116 : decode mX7_dead.2.1 116 = .ok (.iload_n 1, 1) := by decide +kernel
theorem dX7_dead_117 : decode mX7_dead.2.1 117 = .ok (.iadd, 1) := by decide +kernel
theorem dX7_dead_118 : decode mX7_dead.2.1 118 = .ok (.iaload, 1) := by decide +kernel
theorem dX7_dead_119 : decode mX7_dead.2.1 119 = .ok (.ireturn, 1) := by decide +kernel
theorem dX7_dead_120 : decode mX7_dead.2.1 120 = .ok (.aload_n 0, 1) := by decide +kernel
theorem dX7_dead_121 : decode mX7_dead.2.1 121 = .ok (.iload_n 1, 1) := by decide +kernel
theorem dX7_dead_122 : decode mX7_dead.2.1 122 = .ok (.invokevirtual 192, 3) := by decide +kernel
theorem dX7_dead_125 : decode mX7_dead.2.1 125 = .ok (.ireturn, 1) := by decide +kernel
theorem dX7_dead_126 : decode mX7_dead.2.1 126 = .ok (.aload_n 0, 1) := by decide +kernel
theorem dX7_dead_127 : decode mX7_dead.2.1 127 = .ok (.getfield 26, 3) := by decide +kernel
theorem dX7_dead_130 : decode mX7_dead.2.1 130 = .ok (.bipush 15, 2) := by decide +kernel
theorem dX7_dead_132 : decode mX7_dead.2.1 132 = .ok (.iload_n 1, 1) := by decide +kernel
theorem dX7_dead_133 : decode mX7_dead.2.1 133 = .ok (.iadd, 1) := by decide +kernel
theorem dX7_dead_134 : decode mX7_dead.2.1 134 = .ok (.iaload, 1) := by decide +kernel
theorem dX7_dead_135 : decode mX7_dead.2.1 135 = .ok (.bipush (-9), 2) := by decide +kernel
theorem dX7_dead_137 : decode mX7_dead.2.1 137 = .ok (.if_icmp .ne 8, 3) := by decide +kernel
theorem dX7_dead_140 : decode mX7_dead.2.1 140 = .ok (.ldc 185, 2) := by decide +kernel
theorem dX7_dead_142 : decode mX7_dead.2.1 142 = .ok (.goto 18, 3) := by decide +kernel
theorem dX7_dead_145 : decode mX7_dead.2.1 145 = .ok (.aload_n 0, 1) := by decide +kernel
theorem dX7_dead_146 : decode mX7_dead.2.1 146 = .ok (.getfield 26, 3) := by decide +kernel
theorem dX7_dead_149 : decode mX7_dead.2.1 149 = .ok (.bipush 15, 2) := by decide +kernel
theorem dX7_dead_151 : decode mX7_dead.2.1 151 = .ok (.iload_n 1, 1) := by decide +kernel
theorem dX7_dead_152 : decode mX7_dead.2.1 152 = .ok (.iadd, 1) := by decide +kernel
theorem dX7_dead_153 : decode mX7_dead.2.1 153 = .ok (.iaload, 1) := by decide +kernel
theorem dX7_dead_154 : decode mX7_dead.2.1 154 = .ok (.aload_n 0, 1) := by decide +kernel
theorem dX7_dead_155 : decode mX7_dead.2.1 155 = .ok (.iload_n 1, 1) := by decide +kernel
theorem dX7_dead_156 : decode mX7_dead.2.1 156 = .ok (.invokevirtual 167, 3) := by decide +kernel
theorem dX7_dead_159 : decode mX7_dead.2.1 159 = .ok (.isub, 1) := by decide +kernel
theorem dX7_dead_160 : decode mX7_dead.2.1 160 = .ok (.ireturn, 1) := by decide +kernel
theorem dX7_dead_161 : decode mX7_dead.2.1 161 = .ok (.ldc 185, 2) := by decide +kernel
end
section
theorem dX7_dead_163 : decode mX7_dead.2.1 163 = .ok (.ireturn, 1) := by decide +kernel
theorem dX7_bearer_0 : decode mX7_bearer.2.1 0 = .ok (.iload_n 1, 1) := by decide +kernel
theorem dX7_bearer_1 : decode mX7_bearer.2.1 1 = .ok (.iconst 0, 1) := by decide +kernel
theorem dX7_bearer_2 : decode mX7_bearer.2.1 2 = .ok (.aload_n 0, 1) := by decide +kernel
theorem dX7_bearer_3 : decode mX7_bearer.2.1 3 = .ok (.getfield 151, 3) := by decide +kernel
theorem dX7_bearer_6 : decode mX7_bearer.2.1 6 = .ok (.iconst 1, 1) := by decide +kernel
theorem dX7_bearer_7 : decode mX7_bearer.2.1 7 = .ok (.isub, 1) := by decide +kernel
theorem dX7_bearer_8 : decode mX7_bearer.2.1 8 = .ok (.invokestatic 72, 3) := by decide +kernel
theorem dX7_bearer_11 : decode mX7_bearer.2.1 11 = .ok (.ifCond .eq 12, 3) := by decide +kernel
theorem dX7_bearer_14 : decode mX7_bearer.2.1 14 = .ok (.aload_n 0, 1) := by decide +kernel
theorem dX7_bearer_15 : decode mX7_bearer.2.1 15 = .ok (.getfield 16, 3) := by decide +kernel
theorem dX7_bearer_18 : decode mX7_bearer.2.1 18 = .ok (.iload_n 1, 1) := by decide +kernel
theorem dX7_bearer_19 : decode mX7_bearer.2.1 19 = .ok (.iaload, 1) := by decide +kernel
theorem dX7_bearer_20 : decode mX7_bearer.2.1 20 = .ok (.goto 4, 3) := by decide +kernel
theorem dX7_bearer_23 : decode mX7_bearer.2.1 23 = .ok (.iconst (-1), 1) := by decide +kernel
theorem dX7_bearer_24 : decode mX7_bearer.2.1 24 = .ok (.ireturn, 1) := by decide +kernel
theorem dX7_now_0 : decode mX7_now.2.1 0 = .ok (.iload_n 1, 1) := by decide +kernel
theorem dX7_now_1 : decode mX7_now.2.1 1 = .ok (.tableswitch 52 0 4 #[35, 35, 35, 42, 47], 35) := by decide +kernel
theorem dX7_now_36 : decode mX7_now.2.1 36 = .ok (.aload_n 0, 1) := by decide +kernel
theorem dX7_now_37 : decode mX7_now.2.1 37 = .ok (.getfield 26, 3) := by decide +kernel
theorem dX7_now_40 : decode mX7_now.2.1 40 = .ok (.iload_n 1, 1) := by decide +kernel
theorem dX7_now_41 : decode mX7_now.2.1 41 = .ok (.iaload, 1) := by decide +kernel
theorem dX7_now_42 : decode mX7_now.2.1 42 = .ok (.ireturn, 1) := by decide +kernel
theorem dX7_now_43 : decode mX7_now.2.1 43 = .ok (.aload_n 0, 1) := by decide +kernel
theorem dX7_now_44 : decode mX7_now.2.1 44 = .ok (.invokevirtual 195, 3) := by decide +kernel
theorem dX7_now_47 : decode mX7_now.2.1 47 = .ok (.ireturn, 1) := by decide +kernel
theorem dX7_now_48 : decode mX7_now.2.1 48 = .ok (.aload_n 0, 1) := by decide +kernel
theorem dX7_now_49 : decode mX7_now.2.1 49 = .ok (.getfield 154, 3) := by decide +kernel
theorem dX7_now_52 : decode mX7_now.2.1 52 = .ok (.ireturn, 1) := by decide +kernel
theorem dX7_now_53 : decode mX7_now.2.1 53 = .ok (.ldc 185, 2) := by decide +kernel
theorem dX7_now_55 : decode mX7_now.2.1 55 = .ok (.ireturn, 1) := by decide +kernel
theorem dX7_remembers_0 : decode mX7_remembers.2.1 0 = .ok (.aload_n 0, 1) := by decide +kernel
theorem dX7_remembers_1 : decode mX7_remembers.2.1 1 = .ok (.getfield 154, 3) := by decide +kernel
theorem dX7_remembers_4 : decode mX7_remembers.2.1 4 = .ok (.bipush 10, 2) := by decide +kernel
theorem dX7_remembers_6 : decode mX7_remembers.2.1 6 = .ok (.if_icmp .ne 43, 3) := by decide +kernel
theorem dX7_remembers_9 : decode mX7_remembers.2.1 9 = .ok (.iconst 0, 1) := by decide +kernel
theorem dX7_remembers_10 : decode mX7_remembers.2.1 10 = .ok (.istore_n 1, 1) := by decide +kernel
theorem dX7_remembers_11 : decode mX7_remembers.2.1 11 = .ok (.iload_n 1, 1) := by decide +kernel
theorem dX7_remembers_12 : decode mX7_remembers.2.1 12 = .ok (.sipush 189, 3) := by decide +kernel
theorem dX7_remembers_15 : decode mX7_remembers.2.1 15 = .ok (.if_icmp .ge 24, 3) := by decide +kernel
theorem dX7_remembers_18 : decode mX7_remembers.2.1 18 = .ok (.aload_n 0, 1) := by decide +kernel
theorem dX7_remembers_19 : decode mX7_remembers.2.1 19 = .ok (.getfield 29, 3) := by decide +kernel
theorem dX7_remembers_22 : decode mX7_remembers.2.1 22 = .ok (.iload_n 1, 1) := by decide +kernel
theorem dX7_remembers_23 : decode mX7_remembers.2.1 23 = .ok (.aload_n 0, 1) := by decide +kernel
theorem dX7_remembers_24 : decode mX7_remembers.2.1 24 = .ok (.getfield 29, 3) := by decide +kernel
theorem dX7_remembers_27 : decode mX7_remembers.2.1 27 = .ok (.iload_n 1, 1) := by decide +kernel
theorem dX7_remembers_28 : decode mX7_remembers.2.1 28 = .ok (.bipush 21, 2) := by decide +kernel
theorem dX7_remembers_30 : decode mX7_remembers.2.1 30 = .ok (.iadd, 1) := by decide +kernel
theorem dX7_remembers_31 : decode mX7_remembers.2.1 31 = .ok (.iaload, 1) := by decide +kernel
theorem dX7_remembers_32 : decode mX7_remembers.2.1 32 = .ok (.iastore, 1) := by decide +kernel
theorem dX7_remembers_33 : decode mX7_remembers.2.1 33 = .ok (.iinc 1 1, 3) := by decide +kernel
theorem dX7_remembers_36 : decode mX7_remembers.2.1 36 = .ok (.goto (-25), 3) := by decide +kernel
theorem dX7_remembers_39 : decode mX7_remembers.2.1 39 = .ok (.aload_n 0, 1) := by decide +kernel
theorem dX7_remembers_40 : decode mX7_remembers.2.1 40 = .ok (.dup, 1) := by decide +kernel
theorem dX7_remembers_41 : decode mX7_remembers.2.1 41 = .ok (.getfield 154, 3) := by decide +kernel
theorem dX7_remembers_44 : decode mX7_remembers.2.1 44 = .ok (.iconst 1, 1) := by decide +kernel
theorem dX7_remembers_45 : decode mX7_remembers.2.1 45 = .ok (.isub, 1) := by decide +kernel
theorem dX7_remembers_46 : decode mX7_remembers.2.1 46 = .ok (.putfield 154, 3) := by decide +kernel
theorem dX7_remembers_49 : decode mX7_remembers.2.1 49 = .ok (.aload_n 0, 1) := by decide +kernel
theorem dX7_remembers_50 : decode mX7_remembers.2.1 50 = .ok (.getfield 29, 3) := by decide +kernel
theorem dX7_remembers_53 : decode mX7_remembers.2.1 53 = .ok (.bipush 21, 2) := by decide +kernel
theorem dX7_remembers_55 : decode mX7_remembers.2.1 55 = .ok (.aload_n 0, 1) := by decide +kernel
theorem dX7_remembers_56 : decode mX7_remembers.2.1 56 = .ok (.getfield 154, 3) := by decide +kernel
theorem dX7_remembers_59 : decode mX7_remembers.2.1 59 = .ok (.imul, 1) := by decide +kernel
theorem dX7_remembers_60 : decode mX7_remembers.2.1 60 = .ok (.aload_n 0, 1) := by decide +kernel
theorem dX7_remembers_61 : decode mX7_remembers.2.1 61 = .ok (.getfield 26, 3) := by decide +kernel
theorem dX7_remembers_64 : decode mX7_remembers.2.1 64 = .ok (.iconst 0, 1) := by decide +kernel
theorem dX7_remembers_65 : decode mX7_remembers.2.1 65 = .ok (.invokestatic 160, 3) := by decide +kernel
theorem dX7_remembers_68 : decode mX7_remembers.2.1 68 = .ok (.aload_n 0, 1) := by decide +kernel
theorem dX7_remembers_69 : decode mX7_remembers.2.1 69 = .ok (.dup, 1) := by decide +kernel
theorem dX7_remembers_70 : decode mX7_remembers.2.1 70 = .ok (.getfield 154, 3) := by decide +kernel
theorem dX7_remembers_73 : decode mX7_remembers.2.1 73 = .ok (.iconst 1, 1) := by decide +kernel
theorem dX7_remembers_74 : decode mX7_remembers.2.1 74 = .ok (.iadd, 1) := by decide +kernel
theorem dX7_remembers_75 : decode mX7_remembers.2.1 75 = .ok (.putfield 154, 3) := by decide +kernel
theorem dX7_remembers_78 : decode mX7_remembers.2.1 78 = .ok (.return_, 1) := by decide +kernel
theorem dX7_lays_0 : decode mX7_lays.2.1 0 = .ok (.aload_n 0, 1) := by decide +kernel
theorem dX7_lays_1 : decode mX7_lays.2.1 1 = .ok (.iload_n 1, 1) := by decide +kernel
theorem dX7_lays_2 : decode mX7_lays.2.1 2 = .ok (.invokevirtual 189, 3) := by decide +kernel
theorem dX7_lays_5 : decode mX7_lays.2.1 5 = .ok (.ifCond .ne 5, 3) := by decide +kernel
theorem dX7_lays_8 : decode mX7_lays.2.1 8 = .ok (.iconst (-1), 1) := by decide +kernel
theorem dX7_lays_9 : decode mX7_lays.2.1 9 = .ok (.ireturn, 1) := by decide +kernel
theorem dX7_lays_10 : decode mX7_lays.2.1 10 = .ok (.aload_n 0, 1) := by decide +kernel
theorem dX7_lays_11 : decode mX7_lays.2.1 11 = .ok (.getfield 26, 3) := by decide +kernel
theorem dX7_lays_14 : decode mX7_lays.2.1 14 = .ok (.bipush 15, 2) := by decide +kernel
theorem dX7_lays_16 : decode mX7_lays.2.1 16 = .ok (.iload_n 1, 1) := by decide +kernel
theorem dX7_lays_17 : decode mX7_lays.2.1 17 = .ok (.iadd, 1) := by decide +kernel
theorem dX7_lays_18 : decode mX7_lays.2.1 18 = .ok (.iaload, 1) := by decide +kernel
theorem dX7_lays_19 : decode mX7_lays.2.1 19 = .ok (.bipush (-9), 2) := by decide +kernel
theorem dX7_lays_21 : decode mX7_lays.2.1 21 = .ok (.if_icmp .eq 6, 3) := by decide +kernel
theorem dX7_lays_24 : decode mX7_lays.2.1 24 = .ok (.bipush (-2), 2) := by decide +kernel
theorem dX7_lays_26 : decode mX7_lays.2.1 26 = .ok (.ireturn, 1) := by decide +kernel
theorem dX7_lays_27 : decode mX7_lays.2.1 27 = .ok (.aload_n 0, 1) := by decide +kernel
theorem dX7_lays_28 : decode mX7_lays.2.1 28 = .ok (.invokevirtual 199, 3) := by decide +kernel
theorem dX7_lays_31 : decode mX7_lays.2.1 31 = .ok (.aload_n 0, 1) := by decide +kernel
theorem dX7_lays_32 : decode mX7_lays.2.1 32 = .ok (.invokevirtual 176, 3) := by decide +kernel
theorem dX7_lays_35 : decode mX7_lays.2.1 35 = .ok (.aload_n 0, 1) := by decide +kernel
theorem dX7_lays_36 : decode mX7_lays.2.1 36 = .ok (.iload_n 1, 1) := by decide +kernel
theorem dX7_lays_37 : decode mX7_lays.2.1 37 = .ok (.invokevirtual 179, 3) := by decide +kernel
theorem dX7_lays_40 : decode mX7_lays.2.1 40 = .ok (.istore_n 2, 1) := by decide +kernel
theorem dX7_lays_41 : decode mX7_lays.2.1 41 = .ok (.aload_n 0, 1) := by decide +kernel
theorem dX7_lays_42 : decode mX7_lays.2.1 42 = .ok (.getfield 26, 3) := by decide +kernel
theorem dX7_lays_45 : decode mX7_lays.2.1 45 = .ok (.iconst 0, 1) := by decide +kernel
theorem dX7_lays_46 : decode mX7_lays.2.1 46 = .ok (.aload_n 0, 1) := by decide +kernel
theorem dX7_lays_47 : decode mX7_lays.2.1 47 = .ok (.getfield 60, 3) := by decide +kernel
theorem dX7_lays_50 : decode mX7_lays.2.1 50 = .ok (.iconst 0, 1) := by decide +kernel
theorem dX7_lays_51 : decode mX7_lays.2.1 51 = .ok (.invokestatic 160, 3) := by decide +kernel
theorem dX7_lays_54 : decode mX7_lays.2.1 54 = .ok (.iload_n 2, 1) := by decide +kernel
theorem dX7_lays_55 : decode mX7_lays.2.1 55 = .ok (.ireturn, 1) := by decide +kernel
theorem dX7_thumbs_0 : decode mX7_thumbs.2.1 0 = .ok (.iload_n 1, 1) := by decide +kernel
theorem dX7_thumbs_1 : decode mX7_thumbs.2.1 1 = .ok (.bipush (-9), 2) := by decide +kernel
theorem dX7_thumbs_3 : decode mX7_thumbs.2.1 3 = .ok (.bipush 9, 2) := by decide +kernel
theorem dX7_thumbs_5 : decode mX7_thumbs.2.1 5 = .ok (.invokestatic 72, 3) := by decide +kernel
theorem dX7_thumbs_8 : decode mX7_thumbs.2.1 8 = .ok (.ifCond .ne 6, 3) := by decide +kernel
theorem dX7_thumbs_11 : decode mX7_thumbs.2.1 11 = .ok (.ldc 185, 2) := by decide +kernel
theorem dX7_thumbs_13 : decode mX7_thumbs.2.1 13 = .ok (.ireturn, 1) := by decide +kernel
theorem dX7_thumbs_14 : decode mX7_thumbs.2.1 14 = .ok (.aload_n 0, 1) := by decide +kernel
theorem dX7_thumbs_15 : decode mX7_thumbs.2.1 15 = .ok (.invokevirtual 199, 3) := by decide +kernel
theorem dX7_thumbs_18 : decode mX7_thumbs.2.1 18 = .ok (.aload_n 0, 1) := by decide +kernel
theorem dX7_thumbs_19 : decode mX7_thumbs.2.1 19 = .ok (.getfield 26, 3) := by decide +kernel
theorem dX7_thumbs_22 : decode mX7_thumbs.2.1 22 = .ok (.iconst 1, 1) := by decide +kernel
theorem dX7_thumbs_23 : decode mX7_thumbs.2.1 23 = .ok (.iaload, 1) := by decide +kernel
theorem dX7_thumbs_24 : decode mX7_thumbs.2.1 24 = .ok (.istore_n 2, 1) := by decide +kernel
theorem dX7_thumbs_25 : decode mX7_thumbs.2.1 25 = .ok (.aload_n 0, 1) := by decide +kernel
theorem dX7_thumbs_26 : decode mX7_thumbs.2.1 26 = .ok (.getfield 26, 3) := by decide +kernel
theorem dX7_thumbs_29 : decode mX7_thumbs.2.1 29 = .ok (.iconst 1, 1) := by decide +kernel
theorem dX7_thumbs_30 : decode mX7_thumbs.2.1 30 = .ok (.iload_n 1, 1) := by decide +kernel
theorem dX7_thumbs_31 : decode mX7_thumbs.2.1 31 = .ok (.iastore, 1) := by decide +kernel
theorem dX7_thumbs_32 : decode mX7_thumbs.2.1 32 = .ok (.iload_n 2, 1) := by decide +kernel
theorem dX7_thumbs_33 : decode mX7_thumbs.2.1 33 = .ok (.ireturn, 1) := by decide +kernel
theorem dX7_adorns_0 : decode mX7_adorns.2.1 0 = .ok (.aload_n 0, 1) := by decide +kernel
theorem dX7_adorns_1 : decode mX7_adorns.2.1 1 = .ok (.iload_n 1, 1) := by decide +kernel
theorem dX7_adorns_2 : decode mX7_adorns.2.1 2 = .ok (.invokevirtual 189, 3) := by decide +kernel
theorem dX7_adorns_5 : decode mX7_adorns.2.1 5 = .ok (.ifCond .eq 13, 3) := by decide +kernel
theorem dX7_adorns_8 : decode mX7_adorns.2.1 8 = .ok (.iload_n 2, 1) := by decide +kernel
theorem dX7_adorns_9 : decode mX7_adorns.2.1 9 = .ok (.iconst 0, 1) := by decide +kernel
theorem dX7_adorns_10 : decode mX7_adorns.2.1 10 = .ok (.bipush 9, 2) := by decide +kernel
theorem dX7_adorns_12 : decode mX7_adorns.2.1 12 = .ok (.invokestatic 72, 3) := by decide +kernel
theorem dX7_adorns_15 : decode mX7_adorns.2.1 15 = .ok (.ifCond .ne 5, 3) := by decide +kernel
theorem dX7_adorns_18 : decode mX7_adorns.2.1 18 = .ok (.iconst (-1), 1) := by decide +kernel
theorem dX7_adorns_19 : decode mX7_adorns.2.1 19 = .ok (.ireturn, 1) := by decide +kernel
theorem dX7_adorns_20 : decode mX7_adorns.2.1 20 = .ok (.aload_n 0, 1) := by decide +kernel
theorem dX7_adorns_21 : decode mX7_adorns.2.1 21 = .ok (.invokevirtual 199, 3) := by decide +kernel
theorem dX7_adorns_24 : decode mX7_adorns.2.1 24 = .ok (.aload_n 0, 1) := by decide +kernel
theorem dX7_adorns_25 : decode mX7_adorns.2.1 25 = .ok (.getfield 26, 3) := by decide +kernel
theorem dX7_adorns_28 : decode mX7_adorns.2.1 28 = .ok (.iconst 3, 1) := by decide +kernel
theorem dX7_adorns_29 : decode mX7_adorns.2.1 29 = .ok (.iload_n 1, 1) := by decide +kernel
theorem dX7_adorns_30 : decode mX7_adorns.2.1 30 = .ok (.iadd, 1) := by decide +kernel
theorem dX7_adorns_31 : decode mX7_adorns.2.1 31 = .ok (.iaload, 1) := by decide +kernel
theorem dX7_adorns_32 : decode mX7_adorns.2.1 32 = .ok (.istore_n 3, 1) := by decide +kernel
theorem dX7_adorns_33 : decode mX7_adorns.2.1 33 = .ok (.aload_n 0, 1) := by decide +kernel
theorem dX7_adorns_34 : decode mX7_adorns.2.1 34 = .ok (.getfield 26, 3) := by decide +kernel
theorem dX7_adorns_37 : decode mX7_adorns.2.1 37 = .ok (.iconst 3, 1) := by decide +kernel
theorem dX7_adorns_38 : decode mX7_adorns.2.1 38 = .ok (.iload_n 1, 1) := by decide +kernel
theorem dX7_adorns_39 : decode mX7_adorns.2.1 39 = .ok (.iadd, 1) := by decide +kernel
theorem dX7_adorns_40 : decode mX7_adorns.2.1 40 = .ok (.iload_n 2, 1) := by decide +kernel
theorem dX7_adorns_41 : decode mX7_adorns.2.1 41 = .ok (.iastore, 1) := by decide +kernel
theorem dX7_adorns_42 : decode mX7_adorns.2.1 42 = .ok (.iload_n 3, 1) := by decide +kernel
theorem dX7_adorns_43 : decode mX7_adorns.2.1 43 = .ok (.ireturn, 1) := by decide +kernel
theorem dX7_sins_0 : decode mX7_sins.2.1 0 = .ok (.aload_n 0, 1) := by decide +kernel
theorem dX7_sins_1 : decode mX7_sins.2.1 1 = .ok (.iload_n 1, 1) := by decide +kernel
theorem dX7_sins_2 : decode mX7_sins.2.1 2 = .ok (.invokevirtual 189, 3) := by decide +kernel
theorem dX7_sins_5 : decode mX7_sins.2.1 5 = .ok (.ifCond .eq 11, 3) := by decide +kernel
theorem dX7_sins_8 : decode mX7_sins.2.1 8 = .ok (.aload_n 0, 1) := by decide +kernel
theorem dX7_sins_9 : decode mX7_sins.2.1 9 = .ok (.iload_n 2, 1) := by decide +kernel
theorem dX7_sins_10 : decode mX7_sins.2.1 10 = .ok (.invokevirtual 182, 3) := by decide +kernel
theorem dX7_sins_13 : decode mX7_sins.2.1 13 = .ok (.ifCond .ne 5, 3) := by decide +kernel
theorem dX7_sins_16 : decode mX7_sins.2.1 16 = .ok (.iconst (-1), 1) := by decide +kernel
theorem dX7_sins_17 : decode mX7_sins.2.1 17 = .ok (.ireturn, 1) := by decide +kernel
theorem dX7_sins_18 : decode mX7_sins.2.1 18 = .ok (.aload_n 0, 1) := by decide +kernel
theorem dX7_sins_19 : decode mX7_sins.2.1 19 = .ok (.getfield 26, 3) := by decide +kernel
theorem dX7_sins_22 : decode mX7_sins.2.1 22 = .ok (.bipush 15, 2) := by decide +kernel
theorem dX7_sins_24 : decode mX7_sins.2.1 24 = .ok (.iload_n 1, 1) := by decide +kernel
theorem dX7_sins_25 : decode mX7_sins.2.1 25 = .ok (.iadd, 1) := by decide +kernel
theorem dX7_sins_26 : decode mX7_sins.2.1 26 = .ok (.iaload, 1) := by decide +kernel
theorem dX7_sins_27 : decode mX7_sins.2.1 27 = .ok (.bipush (-9), 2) := by decide +kernel
theorem dX7_sins_29 : decode mX7_sins.2.1 29 = .ok (.if_icmp .ne 19, 3) := by decide +kernel
theorem dX7_sins_32 : decode mX7_sins.2.1 32 = .ok (.aload_n 0, 1) := by decide +kernel
theorem dX7_sins_33 : decode mX7_sins.2.1 33 = .ok (.getfield 26, 3) := by decide +kernel
theorem dX7_sins_36 : decode mX7_sins.2.1 36 = .ok (.bipush 9, 2) := by decide +kernel
theorem dX7_sins_38 : decode mX7_sins.2.1 38 = .ok (.iload_n 1, 1) := by decide +kernel
theorem dX7_sins_39 : decode mX7_sins.2.1 39 = .ok (.iadd, 1) := by decide +kernel
theorem dX7_sins_40 : decode mX7_sins.2.1 40 = .ok (.iaload, 1) := by decide +kernel
theorem dX7_sins_41 : decode mX7_sins.2.1 41 = .ok (.iload_n 2, 1) := by decide +kernel
theorem dX7_sins_42 : decode mX7_sins.2.1 42 = .ok (.invokestatic 119, 3) := by decide +kernel
theorem dX7_sins_45 : decode mX7_sins.2.1 45 = .ok (.ifCond .eq 6, 3) := by decide +kernel
theorem dX7_sins_48 : decode mX7_sins.2.1 48 = .ok (.bipush (-2), 2) := by decide +kernel
theorem dX7_sins_50 : decode mX7_sins.2.1 50 = .ok (.ireturn, 1) := by decide +kernel
theorem dX7_sins_51 : decode mX7_sins.2.1 51 = .ok (.aload_n 0, 1) := by decide +kernel
theorem dX7_sins_52 : decode mX7_sins.2.1 52 = .ok (.invokevirtual 199, 3) := by decide +kernel
theorem dX7_sins_55 : decode mX7_sins.2.1 55 = .ok (.aload_n 0, 1) := by decide +kernel
theorem dX7_sins_56 : decode mX7_sins.2.1 56 = .ok (.getfield 26, 3) := by decide +kernel
theorem dX7_sins_59 : decode mX7_sins.2.1 59 = .ok (.bipush 9, 2) := by decide +kernel
theorem dX7_sins_61 : decode mX7_sins.2.1 61 = .ok (.iload_n 1, 1) := by decide +kernel
theorem dX7_sins_62 : decode mX7_sins.2.1 62 = .ok (.iadd, 1) := by decide +kernel
theorem dX7_sins_63 : decode mX7_sins.2.1 63 = .ok (.dup2, 1) := by decide +kernel
theorem dX7_sins_64 : decode mX7_sins.2.1 64 = .ok (.iaload, 1) := by decide +kernel
theorem dX7_sins_65 : decode mX7_sins.2.1 65 = .ok (.iconst 1, 1) := by decide +kernel
theorem dX7_sins_66 : decode mX7_sins.2.1 66 = .ok (.iload_n 2, 1) := by decide +kernel
theorem dX7_sins_67 : decode mX7_sins.2.1 67 = .ok (.ishl, 1) := by decide +kernel
theorem dX7_sins_68 : decode mX7_sins.2.1 68 = .ok (.ior, 1) := by decide +kernel
theorem dX7_sins_69 : decode mX7_sins.2.1 69 = .ok (.iastore, 1) := by decide +kernel
theorem dX7_sins_70 : decode mX7_sins.2.1 70 = .ok (.aload_n 0, 1) := by decide +kernel
theorem dX7_sins_71 : decode mX7_sins.2.1 71 = .ok (.getfield 26, 3) := by decide +kernel
theorem dX7_sins_74 : decode mX7_sins.2.1 74 = .ok (.bipush 9, 2) := by decide +kernel
theorem dX7_sins_76 : decode mX7_sins.2.1 76 = .ok (.iload_n 1, 1) := by decide +kernel
theorem dX7_sins_77 : decode mX7_sins.2.1 77 = .ok (.iadd, 1) := by decide +kernel
theorem dX7_sins_78 : decode mX7_sins.2.1 78 = .ok (.iaload, 1) := by decide +kernel
theorem dX7_sins_79 : decode mX7_sins.2.1 79 = .ok (.invokestatic 202, 3) := by decide +kernel
theorem dX7_sins_82 : decode mX7_sins.2.1 82 = .ok (.ireturn, 1) := by decide +kernel
theorem dX7_oils_0 : decode mX7_oils.2.1 0 = .ok (.iload_n 1, 1) := by decide +kernel
theorem dX7_oils_1 : decode mX7_oils.2.1 1 = .ok (.iconst 0, 1) := by decide +kernel
theorem dX7_oils_2 : decode mX7_oils.2.1 2 = .ok (.bipush 9, 2) := by decide +kernel
theorem dX7_oils_4 : decode mX7_oils.2.1 4 = .ok (.invokestatic 72, 3) := by decide +kernel
theorem dX7_oils_7 : decode mX7_oils.2.1 7 = .ok (.ifCond .ne 5, 3) := by decide +kernel
theorem dX7_oils_10 : decode mX7_oils.2.1 10 = .ok (.iconst (-1), 1) := by decide +kernel
theorem dX7_oils_11 : decode mX7_oils.2.1 11 = .ok (.ireturn, 1) := by decide +kernel
theorem dX7_oils_12 : decode mX7_oils.2.1 12 = .ok (.aload_n 0, 1) := by decide +kernel
theorem dX7_oils_13 : decode mX7_oils.2.1 13 = .ok (.invokevirtual 199, 3) := by decide +kernel
theorem dX7_oils_16 : decode mX7_oils.2.1 16 = .ok (.aload_n 0, 1) := by decide +kernel
theorem dX7_oils_17 : decode mX7_oils.2.1 17 = .ok (.getfield 26, 3) := by decide +kernel
theorem dX7_oils_20 : decode mX7_oils.2.1 20 = .ok (.iconst 2, 1) := by decide +kernel
theorem dX7_oils_21 : decode mX7_oils.2.1 21 = .ok (.iaload, 1) := by decide +kernel
theorem dX7_oils_22 : decode mX7_oils.2.1 22 = .ok (.istore_n 2, 1) := by decide +kernel
theorem dX7_oils_23 : decode mX7_oils.2.1 23 = .ok (.aload_n 0, 1) := by decide +kernel
theorem dX7_oils_24 : decode mX7_oils.2.1 24 = .ok (.getfield 26, 3) := by decide +kernel
theorem dX7_oils_27 : decode mX7_oils.2.1 27 = .ok (.iconst 2, 1) := by decide +kernel
theorem dX7_oils_28 : decode mX7_oils.2.1 28 = .ok (.iload_n 1, 1) := by decide +kernel
theorem dX7_oils_29 : decode mX7_oils.2.1 29 = .ok (.iastore, 1) := by decide +kernel
theorem dX7_oils_30 : decode mX7_oils.2.1 30 = .ok (.iload_n 2, 1) := by decide +kernel
theorem dX7_oils_31 : decode mX7_oils.2.1 31 = .ok (.ireturn, 1) := by decide +kernel
theorem dX7_year_0 : decode mX7_year.2.1 0 = .ok (.aload_n 0, 1) := by decide +kernel
theorem dX7_year_1 : decode mX7_year.2.1 1 = .ok (.getfield 26, 3) := by decide +kernel
theorem dX7_year_4 : decode mX7_year.2.1 4 = .ok (.iconst 2, 1) := by decide +kernel
theorem dX7_year_5 : decode mX7_year.2.1 5 = .ok (.iaload, 1) := by decide +kernel
theorem dX7_year_6 : decode mX7_year.2.1 6 = .ok (.bipush 9, 2) := by decide +kernel
theorem dX7_year_8 : decode mX7_year.2.1 8 = .ok (.if_icmp .ne 6, 3) := by decide +kernel
theorem dX7_year_11 : decode mX7_year.2.1 11 = .ok (.bipush (-2), 2) := by decide +kernel
theorem dX7_year_13 : decode mX7_year.2.1 13 = .ok (.ireturn, 1) := by decide +kernel
theorem dX7_year_14 : decode mX7_year.2.1 14 = .ok (.aload_n 0, 1) := by decide +kernel
theorem dX7_year_15 : decode mX7_year.2.1 15 = .ok (.invokevirtual 199, 3) := by decide +kernel
theorem dX7_year_18 : decode mX7_year.2.1 18 = .ok (.aload_n 0, 1) := by decide +kernel
theorem dX7_year_19 : decode mX7_year.2.1 19 = .ok (.getfield 26, 3) := by decide +kernel
theorem dX7_year_22 : decode mX7_year.2.1 22 = .ok (.iconst 2, 1) := by decide +kernel
theorem dX7_year_23 : decode mX7_year.2.1 23 = .ok (.dup2, 1) := by decide +kernel
theorem dX7_year_24 : decode mX7_year.2.1 24 = .ok (.iaload, 1) := by decide +kernel
theorem dX7_year_25 : decode mX7_year.2.1 25 = .ok (.iconst 1, 1) := by decide +kernel
theorem dX7_year_26 : decode mX7_year.2.1 26 = .ok (.iadd, 1) := by decide +kernel
theorem dX7_year_27 : decode mX7_year.2.1 27 = .ok (.iastore, 1) := by decide +kernel
theorem dX7_year_28 : decode mX7_year.2.1 28 = .ok (.aload_n 0, 1) := by decide +kernel
theorem dX7_year_29 : decode mX7_year.2.1 29 = .ok (.getfield 26, 3) := by decide +kernel
theorem dX7_year_32 : decode mX7_year.2.1 32 = .ok (.iconst 2, 1) := by decide +kernel
theorem dX7_year_33 : decode mX7_year.2.1 33 = .ok (.iaload, 1) := by decide +kernel
theorem dX7_year_34 : decode mX7_year.2.1 34 = .ok (.ireturn, 1) := by decide +kernel
theorem dX7_undo_0 : decode mX7_undo.2.1 0 = .ok (.aload_n 0, 1) := by decide +kernel
theorem dX7_undo_1 : decode mX7_undo.2.1 1 = .ok (.getfield 154, 3) := by decide +kernel
theorem dX7_undo_4 : decode mX7_undo.2.1 4 = .ok (.ifCond .ne 6, 3) := by decide +kernel
theorem dX7_undo_7 : decode mX7_undo.2.1 7 = .ok (.bipush (-2), 2) := by decide +kernel
theorem dX7_undo_9 : decode mX7_undo.2.1 9 = .ok (.ireturn, 1) := by decide +kernel
theorem dX7_undo_10 : decode mX7_undo.2.1 10 = .ok (.aload_n 0, 1) := by decide +kernel
theorem dX7_undo_11 : decode mX7_undo.2.1 11 = .ok (.dup, 1) := by decide +kernel
theorem dX7_undo_12 : decode mX7_undo.2.1 12 = .ok (.getfield 154, 3) := by decide +kernel
theorem dX7_undo_15 : decode mX7_undo.2.1 15 = .ok (.iconst 1, 1) := by decide +kernel
theorem dX7_undo_16 : decode mX7_undo.2.1 16 = .ok (.isub, 1) := by decide +kernel
theorem dX7_undo_17 : decode mX7_undo.2.1 17 = .ok (.putfield 154, 3) := by decide +kernel
theorem dX7_undo_20 : decode mX7_undo.2.1 20 = .ok (.aload_n 0, 1) := by decide +kernel
theorem dX7_undo_21 : decode mX7_undo.2.1 21 = .ok (.getfield 26, 3) := by decide +kernel
theorem dX7_undo_24 : decode mX7_undo.2.1 24 = .ok (.iconst 0, 1) := by decide +kernel
theorem dX7_undo_25 : decode mX7_undo.2.1 25 = .ok (.aload_n 0, 1) := by decide +kernel
theorem dX7_undo_26 : decode mX7_undo.2.1 26 = .ok (.getfield 29, 3) := by decide +kernel
theorem dX7_undo_29 : decode mX7_undo.2.1 29 = .ok (.bipush 21, 2) := by decide +kernel
theorem dX7_undo_31 : decode mX7_undo.2.1 31 = .ok (.aload_n 0, 1) := by decide +kernel
theorem dX7_undo_32 : decode mX7_undo.2.1 32 = .ok (.getfield 154, 3) := by decide +kernel
theorem dX7_undo_35 : decode mX7_undo.2.1 35 = .ok (.imul, 1) := by decide +kernel
theorem dX7_undo_36 : decode mX7_undo.2.1 36 = .ok (.invokestatic 160, 3) := by decide +kernel
theorem dX7_undo_39 : decode mX7_undo.2.1 39 = .ok (.aload_n 0, 1) := by decide +kernel
theorem dX7_undo_40 : decode mX7_undo.2.1 40 = .ok (.getfield 154, 3) := by decide +kernel
theorem dX7_undo_43 : decode mX7_undo.2.1 43 = .ok (.ireturn, 1) := by decide +kernel
theorem dX7_isOrder_0 : decode mX7_isOrder.2.1 0 = .ok (.iload_n 1, 1) := by decide +kernel
theorem dX7_isOrder_1 : decode mX7_isOrder.2.1 1 = .ok (.istore 4, 2) := by decide +kernel
theorem dX7_isOrder_3 : decode mX7_isOrder.2.1 3 = .ok (.iconst 0, 1) := by decide +kernel
theorem dX7_isOrder_4 : decode mX7_isOrder.2.1 4 = .ok (.istore 5, 2) := by decide +kernel
theorem dX7_isOrder_6 : decode mX7_isOrder.2.1 6 = .ok (.iconst 1, 1) := by decide +kernel
theorem dX7_isOrder_7 : decode mX7_isOrder.2.1 7 = .ok (.istore 6, 2) := by decide +kernel
theorem dX7_isOrder_9 : decode mX7_isOrder.2.1 9 = .ok (.iload_n 2, 1) := by decide +kernel
theorem dX7_isOrder_10 : decode mX7_isOrder.2.1 10 = .ok (.iconst 1, 1) := by decide +kernel
theorem dX7_isOrder_11 : decode mX7_isOrder.2.1 11 = .ok (.isub, 1) := by decide +kernel
theorem dX7_isOrder_12 : decode mX7_isOrder.2.1 12 = .ok (.istore 7, 2) := by decide +kernel
theorem dX7_isOrder_14 : decode mX7_isOrder.2.1 14 = .ok (.iload 7, 2) := by decide +kernel
theorem dX7_isOrder_16 : decode mX7_isOrder.2.1 16 = .ok (.ifCond .lt 73, 3) := by decide +kernel
theorem dX7_isOrder_19 : decode mX7_isOrder.2.1 19 = .ok (.aload_n 0, 1) := by decide +kernel
theorem dX7_isOrder_20 : decode mX7_isOrder.2.1 20 = .ok (.getfield 63, 3) := by decide +kernel
theorem dX7_isOrder_23 : decode mX7_isOrder.2.1 23 = .ok (.iload 7, 2) := by decide +kernel
theorem dX7_isOrder_25 : decode mX7_isOrder.2.1 25 = .ok (.iload 4, 2) := by decide +kernel
theorem dX7_isOrder_27 : decode mX7_isOrder.2.1 27 = .ok (.bipush 6, 2) := by decide +kernel
theorem dX7_isOrder_29 : decode mX7_isOrder.2.1 29 = .ok (.irem, 1) := by decide +kernel
theorem dX7_isOrder_30 : decode mX7_isOrder.2.1 30 = .ok (.iastore, 1) := by decide +kernel
theorem dX7_isOrder_31 : decode mX7_isOrder.2.1 31 = .ok (.iload 4, 2) := by decide +kernel
theorem dX7_isOrder_33 : decode mX7_isOrder.2.1 33 = .ok (.bipush 6, 2) := by decide +kernel
theorem dX7_isOrder_35 : decode mX7_isOrder.2.1 35 = .ok (.idiv, 1) := by decide +kernel
theorem dX7_isOrder_36 : decode mX7_isOrder.2.1 36 = .ok (.istore 4, 2) := by decide +kernel
theorem dX7_isOrder_38 : decode mX7_isOrder.2.1 38 = .ok (.iload 6, 2) := by decide +kernel
theorem dX7_isOrder_40 : decode mX7_isOrder.2.1 40 = .ok (.ifCond .eq 26, 3) := by decide +kernel
theorem dX7_isOrder_43 : decode mX7_isOrder.2.1 43 = .ok (.iload_n 3, 1) := by decide +kernel
theorem dX7_isOrder_44 : decode mX7_isOrder.2.1 44 = .ok (.iload 5, 2) := by decide +kernel
theorem dX7_isOrder_46 : decode mX7_isOrder.2.1 46 = .ok (.iconst (-1), 1) := by decide +kernel
theorem dX7_isOrder_47 : decode mX7_isOrder.2.1 47 = .ok (.ixor, 1) := by decide +kernel
theorem dX7_isOrder_48 : decode mX7_isOrder.2.1 48 = .ok (.iand, 1) := by decide +kernel
theorem dX7_isOrder_49 : decode mX7_isOrder.2.1 49 = .ok (.aload_n 0, 1) := by decide +kernel
theorem dX7_isOrder_50 : decode mX7_isOrder.2.1 50 = .ok (.getfield 63, 3) := by decide +kernel
theorem dX7_isOrder_53 : decode mX7_isOrder.2.1 53 = .ok (.iload 7, 2) := by decide +kernel
theorem dX7_isOrder_55 : decode mX7_isOrder.2.1 55 = .ok (.iaload, 1) := by decide +kernel
theorem dX7_isOrder_56 : decode mX7_isOrder.2.1 56 = .ok (.invokestatic 119, 3) := by decide +kernel
theorem dX7_isOrder_59 : decode mX7_isOrder.2.1 59 = .ok (.ifCond .eq 7, 3) := by decide +kernel
theorem dX7_isOrder_62 : decode mX7_isOrder.2.1 62 = .ok (.iconst 1, 1) := by decide +kernel
theorem dX7_isOrder_63 : decode mX7_isOrder.2.1 63 = .ok (.goto 4, 3) := by decide +kernel
theorem dX7_isOrder_66 : decode mX7_isOrder.2.1 66 = .ok (.iconst 0, 1) := by decide +kernel
theorem dX7_isOrder_67 : decode mX7_isOrder.2.1 67 = .ok (.istore 6, 2) := by decide +kernel
theorem dX7_isOrder_69 : decode mX7_isOrder.2.1 69 = .ok (.iload 5, 2) := by decide +kernel
theorem dX7_isOrder_71 : decode mX7_isOrder.2.1 71 = .ok (.iconst 1, 1) := by decide +kernel
theorem dX7_isOrder_72 : decode mX7_isOrder.2.1 72 = .ok (.aload_n 0, 1) := by decide +kernel
theorem dX7_isOrder_73 : decode mX7_isOrder.2.1 73 = .ok (.getfield 63, 3) := by decide +kernel
theorem dX7_isOrder_76 : decode mX7_isOrder.2.1 76 = .ok (.iload 7, 2) := by decide +kernel
theorem dX7_isOrder_78 : decode mX7_isOrder.2.1 78 = .ok (.iaload, 1) := by decide +kernel
theorem dX7_isOrder_79 : decode mX7_isOrder.2.1 79 = .ok (.ishl, 1) := by decide +kernel
theorem dX7_isOrder_80 : decode mX7_isOrder.2.1 80 = .ok (.ior, 1) := by decide +kernel
theorem dX7_isOrder_81 : decode mX7_isOrder.2.1 81 = .ok (.istore 5, 2) := by decide +kernel
theorem dX7_isOrder_83 : decode mX7_isOrder.2.1 83 = .ok (.iinc 7 (-1), 3) := by decide +kernel
theorem dX7_isOrder_86 : decode mX7_isOrder.2.1 86 = .ok (.goto (-72), 3) := by decide +kernel
theorem dX7_isOrder_89 : decode mX7_isOrder.2.1 89 = .ok (.iload 6, 2) := by decide +kernel
theorem dX7_isOrder_91 : decode mX7_isOrder.2.1 91 = .ok (.ireturn, 1) := by decide +kernel
theorem dX7_sixes_0 : decode mX7_sixes.2.1 0 = .ok (.iconst 1, 1) := by decide +kernel
theorem dX7_sixes_1 : decode mX7_sixes.2.1 1 = .ok (.istore_n 1, 1) := by decide +kernel
theorem dX7_sixes_2 : decode mX7_sixes.2.1 2 = .ok (.iconst 0, 1) := by decide +kernel
theorem dX7_sixes_3 : decode mX7_sixes.2.1 3 = .ok (.istore_n 2, 1) := by decide +kernel
theorem dX7_sixes_4 : decode mX7_sixes.2.1 4 = .ok (.iload_n 2, 1) := by decide +kernel
theorem dX7_sixes_5 : decode mX7_sixes.2.1 5 = .ok (.iload_n 0, 1) := by decide +kernel
theorem dX7_sixes_6 : decode mX7_sixes.2.1 6 = .ok (.if_icmp .ge 14, 3) := by decide +kernel
theorem dX7_sixes_9 : decode mX7_sixes.2.1 9 = .ok (.iload_n 1, 1) := by decide +kernel
theorem dX7_sixes_10 : decode mX7_sixes.2.1 10 = .ok (.bipush 6, 2) := by decide +kernel
theorem dX7_sixes_12 : decode mX7_sixes.2.1 12 = .ok (.imul, 1) := by decide +kernel
theorem dX7_sixes_13 : decode mX7_sixes.2.1 13 = .ok (.istore_n 1, 1) := by decide +kernel
theorem dX7_sixes_14 : decode mX7_sixes.2.1 14 = .ok (.iinc 2 1, 3) := by decide +kernel
theorem dX7_sixes_17 : decode mX7_sixes.2.1 17 = .ok (.goto (-13), 3) := by decide +kernel
theorem dX7_sixes_20 : decode mX7_sixes.2.1 20 = .ok (.iload_n 1, 1) := by decide +kernel
theorem dX7_sixes_21 : decode mX7_sixes.2.1 21 = .ok (.ireturn, 1) := by decide +kernel
theorem dX7_differsBy_0 : decode mX7_differsBy.2.1 0 = .ok (.aload_n 0, 1) := by decide +kernel
theorem dX7_differsBy_1 : decode mX7_differsBy.2.1 1 = .ok (.invokevirtual 176, 3) := by decide +kernel
theorem dX7_differsBy_4 : decode mX7_differsBy.2.1 4 = .ok (.iconst 0, 1) := by decide +kernel
theorem dX7_differsBy_5 : decode mX7_differsBy.2.1 5 = .ok (.istore_n 2, 1) := by decide +kernel
theorem dX7_differsBy_6 : decode mX7_differsBy.2.1 6 = .ok (.iconst 0, 1) := by decide +kernel
theorem dX7_differsBy_7 : decode mX7_differsBy.2.1 7 = .ok (.istore_n 3, 1) := by decide +kernel
theorem dX7_differsBy_8 : decode mX7_differsBy.2.1 8 = .ok (.iload_n 3, 1) := by decide +kernel
theorem dX7_differsBy_9 : decode mX7_differsBy.2.1 9 = .ok (.iload_n 1, 1) := by decide +kernel
theorem dX7_differsBy_10 : decode mX7_differsBy.2.1 10 = .ok (.if_icmp .ge 40, 3) := by decide +kernel
theorem dX7_differsBy_13 : decode mX7_differsBy.2.1 13 = .ok (.aload_n 0, 1) := by decide +kernel
theorem dX7_differsBy_14 : decode mX7_differsBy.2.1 14 = .ok (.aload_n 0, 1) := by decide +kernel
theorem dX7_differsBy_15 : decode mX7_differsBy.2.1 15 = .ok (.getfield 63, 3) := by decide +kernel
theorem dX7_differsBy_18 : decode mX7_differsBy.2.1 18 = .ok (.iload_n 3, 1) := by decide +kernel
theorem dX7_differsBy_19 : decode mX7_differsBy.2.1 19 = .ok (.iaload, 1) := by decide +kernel
theorem dX7_differsBy_20 : decode mX7_differsBy.2.1 20 = .ok (.invokevirtual 170, 3) := by decide +kernel
theorem dX7_differsBy_23 : decode mX7_differsBy.2.1 23 = .ok (.istore 4, 2) := by decide +kernel
theorem dX7_differsBy_25 : decode mX7_differsBy.2.1 25 = .ok (.iload_n 2, 1) := by decide +kernel
theorem dX7_differsBy_26 : decode mX7_differsBy.2.1 26 = .ok (.aload_n 0, 1) := by decide +kernel
theorem dX7_differsBy_27 : decode mX7_differsBy.2.1 27 = .ok (.aload_n 0, 1) := by decide +kernel
theorem dX7_differsBy_28 : decode mX7_differsBy.2.1 28 = .ok (.getfield 63, 3) := by decide +kernel
theorem dX7_differsBy_31 : decode mX7_differsBy.2.1 31 = .ok (.iload_n 3, 1) := by decide +kernel
theorem dX7_differsBy_32 : decode mX7_differsBy.2.1 32 = .ok (.iaload, 1) := by decide +kernel
theorem dX7_differsBy_33 : decode mX7_differsBy.2.1 33 = .ok (.invokevirtual 179, 3) := by decide +kernel
theorem dX7_differsBy_36 : decode mX7_differsBy.2.1 36 = .ok (.iload 4, 2) := by decide +kernel
theorem dX7_differsBy_38 : decode mX7_differsBy.2.1 38 = .ok (.isub, 1) := by decide +kernel
theorem dX7_differsBy_39 : decode mX7_differsBy.2.1 39 = .ok (.invokestatic 205, 3) := by decide +kernel
theorem dX7_differsBy_42 : decode mX7_differsBy.2.1 42 = .ok (.iadd, 1) := by decide +kernel
theorem dX7_differsBy_43 : decode mX7_differsBy.2.1 43 = .ok (.istore_n 2, 1) := by decide +kernel
theorem dX7_differsBy_44 : decode mX7_differsBy.2.1 44 = .ok (.iinc 3 1, 3) := by decide +kernel
theorem dX7_differsBy_47 : decode mX7_differsBy.2.1 47 = .ok (.goto (-39), 3) := by decide +kernel
theorem dX7_differsBy_50 : decode mX7_differsBy.2.1 50 = .ok (.iload_n 2, 1) := by decide +kernel
theorem dX7_differsBy_51 : decode mX7_differsBy.2.1 51 = .ok (.ireturn, 1) := by decide +kernel
theorem dX7_order_0 : decode mX7_order.2.1 0 = .ok (.iload_n 1, 1) := by decide +kernel
theorem dX7_order_1 : decode mX7_order.2.1 1 = .ok (.iconst (-1), 1) := by decide +kernel
theorem dX7_order_2 : decode mX7_order.2.1 2 = .ok (.iconst 5, 1) := by decide +kernel
theorem dX7_order_3 : decode mX7_order.2.1 3 = .ok (.invokestatic 72, 3) := by decide +kernel
theorem dX7_order_6 : decode mX7_order.2.1 6 = .ok (.ifCond .ne 5, 3) := by decide +kernel
theorem dX7_order_9 : decode mX7_order.2.1 9 = .ok (.iconst (-1), 1) := by decide +kernel
theorem dX7_order_10 : decode mX7_order.2.1 10 = .ok (.ireturn, 1) := by decide +kernel
theorem dX7_order_11 : decode mX7_order.2.1 11 = .ok (.iconst 1, 1) := by decide +kernel
theorem dX7_order_12 : decode mX7_order.2.1 12 = .ok (.aload_n 0, 1) := by decide +kernel
theorem dX7_order_13 : decode mX7_order.2.1 13 = .ok (.getfield 76, 3) := by decide +kernel
theorem dX7_order_16 : decode mX7_order.2.1 16 = .ok (.ishl, 1) := by decide +kernel
theorem dX7_order_17 : decode mX7_order.2.1 17 = .ok (.iconst 1, 1) := by decide +kernel
theorem dX7_order_18 : decode mX7_order.2.1 18 = .ok (.isub, 1) := by decide +kernel
theorem dX7_order_19 : decode mX7_order.2.1 19 = .ok (.aload_n 0, 1) := by decide +kernel
theorem dX7_order_20 : decode mX7_order.2.1 20 = .ok (.invokevirtual 195, 3) := by decide +kernel
theorem dX7_order_23 : decode mX7_order.2.1 23 = .ok (.iconst (-1), 1) := by decide +kernel
theorem dX7_order_24 : decode mX7_order.2.1 24 = .ok (.ixor, 1) := by decide +kernel
theorem dX7_order_25 : decode mX7_order.2.1 25 = .ok (.iand, 1) := by decide +kernel
theorem dX7_order_26 : decode mX7_order.2.1 26 = .ok (.istore_n 2, 1) := by decide +kernel
theorem dX7_order_27 : decode mX7_order.2.1 27 = .ok (.iload_n 2, 1) := by decide +kernel
theorem dX7_order_28 : decode mX7_order.2.1 28 = .ok (.invokestatic 202, 3) := by decide +kernel
theorem dX7_order_31 : decode mX7_order.2.1 31 = .ok (.istore_n 3, 1) := by decide +kernel
theorem dX7_order_32 : decode mX7_order.2.1 32 = .ok (.iconst (-1), 1) := by decide +kernel
theorem dX7_order_33 : decode mX7_order.2.1 33 = .ok (.istore 4, 2) := by decide +kernel
theorem dX7_order_35 : decode mX7_order.2.1 35 = .ok (.iconst 0, 1) := by decide +kernel
theorem dX7_order_36 : decode mX7_order.2.1 36 = .ok (.istore 5, 2) := by decide +kernel
theorem dX7_order_38 : decode mX7_order.2.1 38 = .ok (.iload 5, 2) := by decide +kernel
theorem dX7_order_40 : decode mX7_order.2.1 40 = .ok (.iload_n 3, 1) := by decide +kernel
theorem dX7_order_41 : decode mX7_order.2.1 41 = .ok (.invokestatic 208, 3) := by decide +kernel
theorem dX7_order_44 : decode mX7_order.2.1 44 = .ok (.if_icmp .ge 73, 3) := by decide +kernel
theorem dX7_order_47 : decode mX7_order.2.1 47 = .ok (.aload_n 0, 1) := by decide +kernel
theorem dX7_order_48 : decode mX7_order.2.1 48 = .ok (.iload 5, 2) := by decide +kernel
theorem dX7_order_50 : decode mX7_order.2.1 50 = .ok (.iload_n 3, 1) := by decide +kernel
theorem dX7_order_51 : decode mX7_order.2.1 51 = .ok (.iload_n 2, 1) := by decide +kernel
theorem dX7_order_52 : decode mX7_order.2.1 52 = .ok (.invokevirtual 211, 3) := by decide +kernel
theorem dX7_order_55 : decode mX7_order.2.1 55 = .ok (.ifCond .eq 56, 3) := by decide +kernel
theorem dX7_order_58 : decode mX7_order.2.1 58 = .ok (.aload_n 0, 1) := by decide +kernel
theorem dX7_order_59 : decode mX7_order.2.1 59 = .ok (.iload_n 3, 1) := by decide +kernel
theorem dX7_order_60 : decode mX7_order.2.1 60 = .ok (.invokevirtual 214, 3) := by decide +kernel
theorem dX7_order_63 : decode mX7_order.2.1 63 = .ok (.istore 6, 2) := by decide +kernel
theorem dX7_order_65 : decode mX7_order.2.1 65 = .ok (.iload 4, 2) := by decide +kernel
theorem dX7_order_67 : decode mX7_order.2.1 67 = .ok (.ifCond .lt 10, 3) := by decide +kernel
theorem dX7_order_70 : decode mX7_order.2.1 70 = .ok (.iload 6, 2) := by decide +kernel
theorem dX7_order_72 : decode mX7_order.2.1 72 = .ok (.iload 4, 2) := by decide +kernel
theorem dX7_order_74 : decode mX7_order.2.1 74 = .ok (.if_icmp .ge 37, 3) := by decide +kernel
theorem dX7_order_77 : decode mX7_order.2.1 77 = .ok (.iload 6, 2) := by decide +kernel
theorem dX7_order_79 : decode mX7_order.2.1 79 = .ok (.istore 4, 2) := by decide +kernel
theorem dX7_order_81 : decode mX7_order.2.1 81 = .ok (.iconst 0, 1) := by decide +kernel
theorem dX7_order_82 : decode mX7_order.2.1 82 = .ok (.istore 7, 2) := by decide +kernel
theorem dX7_order_84 : decode mX7_order.2.1 84 = .ok (.iload 7, 2) := by decide +kernel
theorem dX7_order_86 : decode mX7_order.2.1 86 = .ok (.bipush 6, 2) := by decide +kernel
theorem dX7_order_88 : decode mX7_order.2.1 88 = .ok (.if_icmp .ge 23, 3) := by decide +kernel
theorem dX7_order_91 : decode mX7_order.2.1 91 = .ok (.aload_n 0, 1) := by decide +kernel
theorem dX7_order_92 : decode mX7_order.2.1 92 = .ok (.getfield 66, 3) := by decide +kernel
theorem dX7_order_95 : decode mX7_order.2.1 95 = .ok (.iload 7, 2) := by decide +kernel
theorem dX7_order_97 : decode mX7_order.2.1 97 = .ok (.aload_n 0, 1) := by decide +kernel
theorem dX7_order_98 : decode mX7_order.2.1 98 = .ok (.getfield 63, 3) := by decide +kernel
theorem dX7_order_101 : decode mX7_order.2.1 101 = .ok (.iload 7, 2) := by decide +kernel
theorem dX7_order_103 : decode mX7_order.2.1 103 = .ok (.iaload, 1) := by decide +kernel
theorem dX7_order_104 : decode mX7_order.2.1 104 = .ok (.iastore, 1) := by decide +kernel
theorem dX7_order_105 : decode mX7_order.2.1 105 = .ok (.iinc 7 1, 3) := by decide +kernel
theorem dX7_order_108 : decode mX7_order.2.1 108 = .ok (.goto (-24), 3) := by decide +kernel
theorem dX7_order_111 : decode mX7_order.2.1 111 = .ok (.iinc 5 1, 3) := by decide +kernel
theorem dX7_order_114 : decode mX7_order.2.1 114 = .ok (.goto (-76), 3) := by decide +kernel
theorem dX7_order_117 : decode mX7_order.2.1 117 = .ok (.iload_n 1, 1) := by decide +kernel
theorem dX7_order_118 : decode mX7_order.2.1 118 = .ok (.ifCond .ge 8, 3) := by decide +kernel
theorem dX7_order_121 : decode mX7_order.2.1 121 = .ok (.iload 4, 2) := by decide +kernel
theorem dX7_order_123 : decode mX7_order.2.1 123 = .ok (.goto 19, 3) := by decide +kernel
theorem dX7_order_126 : decode mX7_order.2.1 126 = .ok (.iload_n 1, 1) := by decide +kernel
theorem dX7_order_127 : decode mX7_order.2.1 127 = .ok (.iload_n 3, 1) := by decide +kernel
theorem dX7_order_128 : decode mX7_order.2.1 128 = .ok (.if_icmp .ge 12, 3) := by decide +kernel
theorem dX7_order_131 : decode mX7_order.2.1 131 = .ok (.aload_n 0, 1) := by decide +kernel
theorem dX7_order_132 : decode mX7_order.2.1 132 = .ok (.getfield 66, 3) := by decide +kernel
theorem dX7_order_135 : decode mX7_order.2.1 135 = .ok (.iload_n 1, 1) := by decide +kernel
theorem dX7_order_136 : decode mX7_order.2.1 136 = .ok (.iaload, 1) := by decide +kernel
theorem dX7_order_137 : decode mX7_order.2.1 137 = .ok (.goto 5, 3) := by decide +kernel
theorem dX7_order_140 : decode mX7_order.2.1 140 = .ok (.bipush (-9), 2) := by decide +kernel
theorem dX7_order_142 : decode mX7_order.2.1 142 = .ok (.ireturn, 1) := by decide +kernel
theorem dX7_tells_0 : decode mX7_tells.2.1 0 = .ok (.iload_n 1, 1) := by decide +kernel
theorem dX7_tells_1 : decode mX7_tells.2.1 1 = .ok (.iconst 1, 1) := by decide +kernel
theorem dX7_tells_2 : decode mX7_tells.2.1 2 = .ok (.bipush 40, 2) := by decide +kernel
theorem dX7_tells_4 : decode mX7_tells.2.1 4 = .ok (.invokestatic 72, 3) := by decide +kernel
theorem dX7_tells_7 : decode mX7_tells.2.1 7 = .ok (.ifCond .eq 13, 3) := by decide +kernel
theorem dX7_tells_10 : decode mX7_tells.2.1 10 = .ok (.iload_n 2, 1) := by decide +kernel
theorem dX7_tells_11 : decode mX7_tells.2.1 11 = .ok (.iconst 0, 1) := by decide +kernel
theorem dX7_tells_12 : decode mX7_tells.2.1 12 = .ok (.bipush 99, 2) := by decide +kernel
theorem dX7_tells_14 : decode mX7_tells.2.1 14 = .ok (.invokestatic 72, 3) := by decide +kernel
theorem dX7_tells_17 : decode mX7_tells.2.1 17 = .ok (.ifCond .ne 5, 3) := by decide +kernel
theorem dX7_tells_20 : decode mX7_tells.2.1 20 = .ok (.iconst (-1), 1) := by decide +kernel
theorem dX7_tells_21 : decode mX7_tells.2.1 21 = .ok (.ireturn, 1) := by decide +kernel
theorem dX7_tells_22 : decode mX7_tells.2.1 22 = .ok (.aload_n 0, 1) := by decide +kernel
theorem dX7_tells_23 : decode mX7_tells.2.1 23 = .ok (.getfield 157, 3) := by decide +kernel
theorem dX7_tells_26 : decode mX7_tells.2.1 26 = .ok (.bipush 6, 2) := by decide +kernel
theorem dX7_tells_28 : decode mX7_tells.2.1 28 = .ok (.if_icmp .ne 6, 3) := by decide +kernel
theorem dX7_tells_31 : decode mX7_tells.2.1 31 = .ok (.bipush (-3), 2) := by decide +kernel
theorem dX7_tells_33 : decode mX7_tells.2.1 33 = .ok (.ireturn, 1) := by decide +kernel
theorem dX7_tells_34 : decode mX7_tells.2.1 34 = .ok (.aload_n 0, 1) := by decide +kernel
theorem dX7_tells_35 : decode mX7_tells.2.1 35 = .ok (.getfield 39, 3) := by decide +kernel
theorem dX7_tells_38 : decode mX7_tells.2.1 38 = .ok (.iconst 2, 1) := by decide +kernel
theorem dX7_tells_39 : decode mX7_tells.2.1 39 = .ok (.aload_n 0, 1) := by decide +kernel
theorem dX7_tells_40 : decode mX7_tells.2.1 40 = .ok (.getfield 157, 3) := by decide +kernel
theorem dX7_tells_43 : decode mX7_tells.2.1 43 = .ok (.imul, 1) := by decide +kernel
theorem dX7_tells_44 : decode mX7_tells.2.1 44 = .ok (.iload_n 1, 1) := by decide +kernel
theorem dX7_tells_45 : decode mX7_tells.2.1 45 = .ok (.iastore, 1) := by decide +kernel
theorem dX7_tells_46 : decode mX7_tells.2.1 46 = .ok (.aload_n 0, 1) := by decide +kernel
theorem dX7_tells_47 : decode mX7_tells.2.1 47 = .ok (.getfield 39, 3) := by decide +kernel
theorem dX7_tells_50 : decode mX7_tells.2.1 50 = .ok (.iconst 2, 1) := by decide +kernel
theorem dX7_tells_51 : decode mX7_tells.2.1 51 = .ok (.aload_n 0, 1) := by decide +kernel
theorem dX7_tells_52 : decode mX7_tells.2.1 52 = .ok (.getfield 157, 3) := by decide +kernel
theorem dX7_tells_55 : decode mX7_tells.2.1 55 = .ok (.imul, 1) := by decide +kernel
theorem dX7_tells_56 : decode mX7_tells.2.1 56 = .ok (.iconst 1, 1) := by decide +kernel
theorem dX7_tells_57 : decode mX7_tells.2.1 57 = .ok (.iadd, 1) := by decide +kernel
theorem dX7_tells_58 : decode mX7_tells.2.1 58 = .ok (.iload_n 2, 1) := by decide +kernel
theorem dX7_tells_59 : decode mX7_tells.2.1 59 = .ok (.iastore, 1) := by decide +kernel
theorem dX7_tells_60 : decode mX7_tells.2.1 60 = .ok (.aload_n 0, 1) := by decide +kernel
theorem dX7_tells_61 : decode mX7_tells.2.1 61 = .ok (.dup, 1) := by decide +kernel
theorem dX7_tells_62 : decode mX7_tells.2.1 62 = .ok (.getfield 157, 3) := by decide +kernel
theorem dX7_tells_65 : decode mX7_tells.2.1 65 = .ok (.iconst 1, 1) := by decide +kernel
theorem dX7_tells_66 : decode mX7_tells.2.1 66 = .ok (.iadd, 1) := by decide +kernel
theorem dX7_tells_67 : decode mX7_tells.2.1 67 = .ok (.putfield 157, 3) := by decide +kernel
theorem dX7_tells_70 : decode mX7_tells.2.1 70 = .ok (.aload_n 0, 1) := by decide +kernel
theorem dX7_tells_71 : decode mX7_tells.2.1 71 = .ok (.getfield 157, 3) := by decide +kernel
theorem dX7_tells_74 : decode mX7_tells.2.1 74 = .ok (.ireturn, 1) := by decide +kernel
theorem dX7_forget_0 : decode mX7_forget.2.1 0 = .ok (.aload_n 0, 1) := by decide +kernel
theorem dX7_forget_1 : decode mX7_forget.2.1 1 = .ok (.getfield 157, 3) := by decide +kernel
theorem dX7_forget_4 : decode mX7_forget.2.1 4 = .ok (.istore_n 1, 1) := by decide +kernel
theorem dX7_forget_5 : decode mX7_forget.2.1 5 = .ok (.aload_n 0, 1) := by decide +kernel
theorem dX7_forget_6 : decode mX7_forget.2.1 6 = .ok (.iconst 0, 1) := by decide +kernel
theorem dX7_forget_7 : decode mX7_forget.2.1 7 = .ok (.putfield 157, 3) := by decide +kernel
theorem dX7_forget_10 : decode mX7_forget.2.1 10 = .ok (.iload_n 1, 1) := by decide +kernel
theorem dX7_forget_11 : decode mX7_forget.2.1 11 = .ok (.ireturn, 1) := by decide +kernel
theorem dX7_isSo_0 : decode mX7_isSo.2.1 0 = .ok (.iconst 1, 1) := by decide +kernel
theorem dX7_isSo_1 : decode mX7_isSo.2.1 1 = .ok (.istore_n 2, 1) := by decide +kernel
theorem dX7_isSo_2 : decode mX7_isSo.2.1 2 = .ok (.iconst 0, 1) := by decide +kernel
theorem dX7_isSo_3 : decode mX7_isSo.2.1 3 = .ok (.istore_n 3, 1) := by decide +kernel
theorem dX7_isSo_4 : decode mX7_isSo.2.1 4 = .ok (.iload_n 3, 1) := by decide +kernel
theorem dX7_isSo_5 : decode mX7_isSo.2.1 5 = .ok (.aload_n 0, 1) := by decide +kernel
theorem dX7_isSo_6 : decode mX7_isSo.2.1 6 = .ok (.getfield 157, 3) := by decide +kernel
theorem dX7_isSo_9 : decode mX7_isSo.2.1 9 = .ok (.if_icmp .ge 76, 3) := by decide +kernel
theorem dX7_isSo_12 : decode mX7_isSo.2.1 12 = .ok (.aload_n 0, 1) := by decide +kernel
theorem dX7_isSo_13 : decode mX7_isSo.2.1 13 = .ok (.getfield 39, 3) := by decide +kernel
theorem dX7_isSo_16 : decode mX7_isSo.2.1 16 = .ok (.iconst 2, 1) := by decide +kernel
theorem dX7_isSo_17 : decode mX7_isSo.2.1 17 = .ok (.iload_n 3, 1) := by decide +kernel
theorem dX7_isSo_18 : decode mX7_isSo.2.1 18 = .ok (.imul, 1) := by decide +kernel
theorem dX7_isSo_19 : decode mX7_isSo.2.1 19 = .ok (.iaload, 1) := by decide +kernel
theorem dX7_isSo_20 : decode mX7_isSo.2.1 20 = .ok (.aload_n 0, 1) := by decide +kernel
theorem dX7_isSo_21 : decode mX7_isSo.2.1 21 = .ok (.iload_n 1, 1) := by decide +kernel
theorem dX7_isSo_22 : decode mX7_isSo.2.1 22 = .ok (.invokevirtual 164, 3) := by decide +kernel
theorem dX7_isSo_25 : decode mX7_isSo.2.1 25 = .ok (.iadd, 1) := by decide +kernel
theorem dX7_isSo_26 : decode mX7_isSo.2.1 26 = .ok (.istore 4, 2) := by decide +kernel
theorem dX7_isSo_28 : decode mX7_isSo.2.1 28 = .ok (.aload_n 0, 1) := by decide +kernel
theorem dX7_isSo_29 : decode mX7_isSo.2.1 29 = .ok (.getfield 60, 3) := by decide +kernel
theorem dX7_isSo_32 : decode mX7_isSo.2.1 32 = .ok (.iconst 0, 1) := by decide +kernel
theorem dX7_isSo_33 : decode mX7_isSo.2.1 33 = .ok (.iconst 0, 1) := by decide +kernel
theorem dX7_isSo_34 : decode mX7_isSo.2.1 34 = .ok (.iastore, 1) := by decide +kernel
theorem dX7_isSo_35 : decode mX7_isSo.2.1 35 = .ok (.aload_n 0, 1) := by decide +kernel
theorem dX7_isSo_36 : decode mX7_isSo.2.1 36 = .ok (.iload 4, 2) := by decide +kernel
theorem dX7_isSo_38 : decode mX7_isSo.2.1 38 = .ok (.ifCond .ge 7, 3) := by decide +kernel
theorem dX7_isSo_41 : decode mX7_isSo.2.1 41 = .ok (.iconst 0, 1) := by decide +kernel
theorem dX7_isSo_42 : decode mX7_isSo.2.1 42 = .ok (.goto 5, 3) := by decide +kernel
theorem dX7_isSo_45 : decode mX7_isSo.2.1 45 = .ok (.iload 4, 2) := by decide +kernel
theorem dX7_isSo_47 : decode mX7_isSo.2.1 47 = .ok (.invokevirtual 173, 3) := by decide +kernel
theorem dX7_isSo_50 : decode mX7_isSo.2.1 50 = .ok (.iload_n 2, 1) := by decide +kernel
theorem dX7_isSo_51 : decode mX7_isSo.2.1 51 = .ok (.ifCond .eq 26, 3) := by decide +kernel
theorem dX7_isSo_54 : decode mX7_isSo.2.1 54 = .ok (.aload_n 0, 1) := by decide +kernel
theorem dX7_isSo_55 : decode mX7_isSo.2.1 55 = .ok (.getfield 60, 3) := by decide +kernel
theorem dX7_isSo_58 : decode mX7_isSo.2.1 58 = .ok (.iconst 0, 1) := by decide +kernel
theorem dX7_isSo_59 : decode mX7_isSo.2.1 59 = .ok (.iaload, 1) := by decide +kernel
theorem dX7_isSo_60 : decode mX7_isSo.2.1 60 = .ok (.aload_n 0, 1) := by decide +kernel
theorem dX7_isSo_61 : decode mX7_isSo.2.1 61 = .ok (.getfield 39, 3) := by decide +kernel
theorem dX7_isSo_64 : decode mX7_isSo.2.1 64 = .ok (.iconst 2, 1) := by decide +kernel
theorem dX7_isSo_65 : decode mX7_isSo.2.1 65 = .ok (.iload_n 3, 1) := by decide +kernel
theorem dX7_isSo_66 : decode mX7_isSo.2.1 66 = .ok (.imul, 1) := by decide +kernel
theorem dX7_isSo_67 : decode mX7_isSo.2.1 67 = .ok (.iconst 1, 1) := by decide +kernel
theorem dX7_isSo_68 : decode mX7_isSo.2.1 68 = .ok (.iadd, 1) := by decide +kernel
theorem dX7_isSo_69 : decode mX7_isSo.2.1 69 = .ok (.iaload, 1) := by decide +kernel
theorem dX7_isSo_70 : decode mX7_isSo.2.1 70 = .ok (.if_icmp .ne 7, 3) := by decide +kernel
theorem dX7_isSo_73 : decode mX7_isSo.2.1 73 = .ok (.iconst 1, 1) := by decide +kernel
theorem dX7_isSo_74 : decode mX7_isSo.2.1 74 = .ok (.goto 4, 3) := by decide +kernel
theorem dX7_isSo_77 : decode mX7_isSo.2.1 77 = .ok (.iconst 0, 1) := by decide +kernel
theorem dX7_isSo_78 : decode mX7_isSo.2.1 78 = .ok (.istore_n 2, 1) := by decide +kernel
theorem dX7_isSo_79 : decode mX7_isSo.2.1 79 = .ok (.iinc 3 1, 3) := by decide +kernel
theorem dX7_isSo_82 : decode mX7_isSo.2.1 82 = .ok (.goto (-78), 3) := by decide +kernel
theorem dX7_isSo_85 : decode mX7_isSo.2.1 85 = .ok (.iload_n 2, 1) := by decide +kernel
theorem dX7_isSo_86 : decode mX7_isSo.2.1 86 = .ok (.ireturn, 1) := by decide +kernel
theorem dX7_canBe_0 : decode mX7_canBe.2.1 0 = .ok (.aload_n 0, 1) := by decide +kernel
theorem dX7_canBe_1 : decode mX7_canBe.2.1 1 = .ok (.invokevirtual 176, 3) := by decide +kernel
theorem dX7_canBe_4 : decode mX7_canBe.2.1 4 = .ok (.iconst 0, 1) := by decide +kernel
theorem dX7_canBe_5 : decode mX7_canBe.2.1 5 = .ok (.istore_n 3, 1) := by decide +kernel
theorem dX7_canBe_6 : decode mX7_canBe.2.1 6 = .ok (.iconst 0, 1) := by decide +kernel
theorem dX7_canBe_7 : decode mX7_canBe.2.1 7 = .ok (.istore 4, 2) := by decide +kernel
theorem dX7_canBe_9 : decode mX7_canBe.2.1 9 = .ok (.iload 4, 2) := by decide +kernel
theorem dX7_canBe_11 : decode mX7_canBe.2.1 11 = .ok (.iconst 1, 1) := by decide +kernel
theorem dX7_canBe_12 : decode mX7_canBe.2.1 12 = .ok (.aload_n 0, 1) := by decide +kernel
theorem dX7_canBe_13 : decode mX7_canBe.2.1 13 = .ok (.getfield 69, 3) := by decide +kernel
theorem dX7_canBe_16 : decode mX7_canBe.2.1 16 = .ok (.ishl, 1) := by decide +kernel
theorem dX7_canBe_17 : decode mX7_canBe.2.1 17 = .ok (.if_icmp .ge 41, 3) := by decide +kernel
theorem dX7_canBe_20 : decode mX7_canBe.2.1 20 = .ok (.iload_n 3, 1) := by decide +kernel
theorem dX7_canBe_21 : decode mX7_canBe.2.1 21 = .ok (.iload 4, 2) := by decide +kernel
theorem dX7_canBe_23 : decode mX7_canBe.2.1 23 = .ok (.iload_n 1, 1) := by decide +kernel
theorem dX7_canBe_24 : decode mX7_canBe.2.1 24 = .ok (.iand, 1) := by decide +kernel
theorem dX7_canBe_25 : decode mX7_canBe.2.1 25 = .ok (.iload_n 1, 1) := by decide +kernel
theorem dX7_canBe_26 : decode mX7_canBe.2.1 26 = .ok (.if_icmp .ne 23, 3) := by decide +kernel
theorem dX7_canBe_29 : decode mX7_canBe.2.1 29 = .ok (.iload 4, 2) := by decide +kernel
theorem dX7_canBe_31 : decode mX7_canBe.2.1 31 = .ok (.iload_n 2, 1) := by decide +kernel
theorem dX7_canBe_32 : decode mX7_canBe.2.1 32 = .ok (.iand, 1) := by decide +kernel
theorem dX7_canBe_33 : decode mX7_canBe.2.1 33 = .ok (.ifCond .ne 16, 3) := by decide +kernel
theorem dX7_canBe_36 : decode mX7_canBe.2.1 36 = .ok (.aload_n 0, 1) := by decide +kernel
theorem dX7_canBe_37 : decode mX7_canBe.2.1 37 = .ok (.iload 4, 2) := by decide +kernel
theorem dX7_canBe_39 : decode mX7_canBe.2.1 39 = .ok (.invokevirtual 217, 3) := by decide +kernel
theorem dX7_canBe_42 : decode mX7_canBe.2.1 42 = .ok (.ifCond .eq 7, 3) := by decide +kernel
theorem dX7_canBe_45 : decode mX7_canBe.2.1 45 = .ok (.iconst 1, 1) := by decide +kernel
theorem dX7_canBe_46 : decode mX7_canBe.2.1 46 = .ok (.goto 4, 3) := by decide +kernel
theorem dX7_canBe_49 : decode mX7_canBe.2.1 49 = .ok (.iconst 0, 1) := by decide +kernel
theorem dX7_canBe_50 : decode mX7_canBe.2.1 50 = .ok (.iadd, 1) := by decide +kernel
theorem dX7_canBe_51 : decode mX7_canBe.2.1 51 = .ok (.istore_n 3, 1) := by decide +kernel
theorem dX7_canBe_52 : decode mX7_canBe.2.1 52 = .ok (.iinc 4 1, 3) := by decide +kernel
theorem dX7_canBe_55 : decode mX7_canBe.2.1 55 = .ok (.goto (-46), 3) := by decide +kernel
theorem dX7_canBe_58 : decode mX7_canBe.2.1 58 = .ok (.iload_n 3, 1) := by decide +kernel
theorem dX7_canBe_59 : decode mX7_canBe.2.1 59 = .ok (.ireturn, 1) := by decide +kernel
theorem dX7_can_0 : decode mX7_can.2.1 0 = .ok (.iload_n 1, 1) := by decide +kernel
theorem dX7_can_1 : decode mX7_can.2.1 1 = .ok (.iconst 0, 1) := by decide +kernel
theorem dX7_can_2 : decode mX7_can.2.1 2 = .ok (.iconst 2, 1) := by decide +kernel
end
section
theorem dX7_can_3 : decode mX7_can.2.1 3 = .ok (.invokestatic 72, 3) := by decide +kernel
theorem dX7_can_6 : decode mX7_can.2.1 6 = .ok (.ifCond .ne 5, 3) := by decide +kernel
theorem dX7_can_9 : decode mX7_can.2.1 9 = .ok (.iconst (-1), 1) := by decide +kernel
theorem dX7_can_10 : decode mX7_can.2.1 10 = .ok (.ireturn, 1) := by decide +kernel
theorem dX7_can_11 : decode mX7_can.2.1 11 = .ok (.aload_n 0, 1) := by decide +kernel
theorem dX7_can_12 : decode mX7_can.2.1 12 = .ok (.iconst 0, 1) := by decide +kernel
theorem dX7_can_13 : decode mX7_can.2.1 13 = .ok (.iconst 0, 1) := by decide +kernel
theorem dX7_can_14 : decode mX7_can.2.1 14 = .ok (.invokevirtual 220, 3) := by decide +kernel
theorem dX7_can_17 : decode mX7_can.2.1 17 = .ok (.istore_n 2, 1) := by decide +kernel
theorem dX7_can_18 : decode mX7_can.2.1 18 = .ok (.iload_n 1, 1) := by decide +kernel
theorem dX7_can_19 : decode mX7_can.2.1 19 = .ok (.ifCond .ne 5, 3) := by decide +kernel
theorem dX7_can_22 : decode mX7_can.2.1 22 = .ok (.iload_n 2, 1) := by decide +kernel
theorem dX7_can_23 : decode mX7_can.2.1 23 = .ok (.ireturn, 1) := by decide +kernel
theorem dX7_can_24 : decode mX7_can.2.1 24 = .ok (.iconst 0, 1) := by decide +kernel
theorem dX7_can_25 : decode mX7_can.2.1 25 = .ok (.istore_n 3, 1) := by decide +kernel
theorem dX7_can_26 : decode mX7_can.2.1 26 = .ok (.iconst 0, 1) := by decide +kernel
theorem dX7_can_27 : decode mX7_can.2.1 27 = .ok (.istore 4, 2) := by decide +kernel
theorem dX7_can_29 : decode mX7_can.2.1 29 = .ok (.iconst 0, 1) := by decide +kernel
theorem dX7_can_30 : decode mX7_can.2.1 30 = .ok (.istore 5, 2) := by decide +kernel
theorem dX7_can_32 : decode mX7_can.2.1 32 = .ok (.iload 5, 2) := by decide +kernel
theorem dX7_can_34 : decode mX7_can.2.1 34 = .ok (.aload_n 0, 1) := by decide +kernel
theorem dX7_can_35 : decode mX7_can.2.1 35 = .ok (.getfield 69, 3) := by decide +kernel
theorem dX7_can_38 : decode mX7_can.2.1 38 = .ok (.if_icmp .ge 55, 3) := by decide +kernel
theorem dX7_can_41 : decode mX7_can.2.1 41 = .ok (.aload_n 0, 1) := by decide +kernel
theorem dX7_can_42 : decode mX7_can.2.1 42 = .ok (.iconst 1, 1) := by decide +kernel
theorem dX7_can_43 : decode mX7_can.2.1 43 = .ok (.iload 5, 2) := by decide +kernel
theorem dX7_can_45 : decode mX7_can.2.1 45 = .ok (.ishl, 1) := by decide +kernel
theorem dX7_can_46 : decode mX7_can.2.1 46 = .ok (.iconst 0, 1) := by decide +kernel
theorem dX7_can_47 : decode mX7_can.2.1 47 = .ok (.invokevirtual 220, 3) := by decide +kernel
theorem dX7_can_50 : decode mX7_can.2.1 50 = .ok (.istore 6, 2) := by decide +kernel
theorem dX7_can_52 : decode mX7_can.2.1 52 = .ok (.iload_n 3, 1) := by decide +kernel
theorem dX7_can_53 : decode mX7_can.2.1 53 = .ok (.iload 6, 2) := by decide +kernel
theorem dX7_can_55 : decode mX7_can.2.1 55 = .ok (.iload_n 2, 1) := by decide +kernel
theorem dX7_can_56 : decode mX7_can.2.1 56 = .ok (.if_icmp .ne 10, 3) := by decide +kernel
theorem dX7_can_59 : decode mX7_can.2.1 59 = .ok (.iconst 1, 1) := by decide +kernel
theorem dX7_can_60 : decode mX7_can.2.1 60 = .ok (.iload 5, 2) := by decide +kernel
theorem dX7_can_62 : decode mX7_can.2.1 62 = .ok (.ishl, 1) := by decide +kernel
theorem dX7_can_63 : decode mX7_can.2.1 63 = .ok (.goto 4, 3) := by decide +kernel
theorem dX7_can_66 : decode mX7_can.2.1 66 = .ok (.iconst 0, 1) := by decide +kernel
theorem dX7_can_67 : decode mX7_can.2.1 67 = .ok (.ior, 1) := by decide +kernel
theorem dX7_can_68 : decode mX7_can.2.1 68 = .ok (.istore_n 3, 1) := by decide +kernel
theorem dX7_can_69 : decode mX7_can.2.1 69 = .ok (.iload 4, 2) := by decide +kernel
theorem dX7_can_71 : decode mX7_can.2.1 71 = .ok (.iload 6, 2) := by decide +kernel
theorem dX7_can_73 : decode mX7_can.2.1 73 = .ok (.ifCond .le 10, 3) := by decide +kernel
theorem dX7_can_76 : decode mX7_can.2.1 76 = .ok (.iconst 1, 1) := by decide +kernel
theorem dX7_can_77 : decode mX7_can.2.1 77 = .ok (.iload 5, 2) := by decide +kernel
theorem dX7_can_79 : decode mX7_can.2.1 79 = .ok (.ishl, 1) := by decide +kernel
theorem dX7_can_80 : decode mX7_can.2.1 80 = .ok (.goto 4, 3) := by decide +kernel
theorem dX7_can_83 : decode mX7_can.2.1 83 = .ok (.iconst 0, 1) := by decide +kernel
theorem dX7_can_84 : decode mX7_can.2.1 84 = .ok (.ior, 1) := by decide +kernel
theorem dX7_can_85 : decode mX7_can.2.1 85 = .ok (.istore 4, 2) := by decide +kernel
theorem dX7_can_87 : decode mX7_can.2.1 87 = .ok (.iinc 5 1, 3) := by decide +kernel
theorem dX7_can_90 : decode mX7_can.2.1 90 = .ok (.goto (-58), 3) := by decide +kernel
theorem dX7_can_93 : decode mX7_can.2.1 93 = .ok (.iload_n 1, 1) := by decide +kernel
theorem dX7_can_94 : decode mX7_can.2.1 94 = .ok (.iconst 2, 1) := by decide +kernel
theorem dX7_can_95 : decode mX7_can.2.1 95 = .ok (.if_icmp .ne 8, 3) := by decide +kernel
theorem dX7_can_98 : decode mX7_can.2.1 98 = .ok (.iload 4, 2) := by decide +kernel
theorem dX7_can_100 : decode mX7_can.2.1 100 = .ok (.goto 13, 3) := by decide +kernel
theorem dX7_can_103 : decode mX7_can.2.1 103 = .ok (.iload_n 2, 1) := by decide +kernel
theorem dX7_can_104 : decode mX7_can.2.1 104 = .ok (.ifCond .ne 8, 3) := by decide +kernel
theorem dX7_can_107 : decode mX7_can.2.1 107 = .ok (.bipush (-9), 2) := by decide +kernel
theorem dX7_can_109 : decode mX7_can.2.1 109 = .ok (.goto 4, 3) := by decide +kernel
theorem dX7_can_112 : decode mX7_can.2.1 112 = .ok (.iload_n 3, 1) := by decide +kernel
theorem dX7_can_113 : decode mX7_can.2.1 113 = .ok (.ireturn, 1) := by decide +kernel
theorem dX7_ask_0 : decode mX7_ask.2.1 0 = .ok (.aload_n 0, 1) := by decide +kernel
theorem dX7_ask_1 : decode mX7_ask.2.1 1 = .ok (.iconst 0, 1) := by decide +kernel
theorem dX7_ask_2 : decode mX7_ask.2.1 2 = .ok (.iconst 0, 1) := by decide +kernel
theorem dX7_ask_3 : decode mX7_ask.2.1 3 = .ok (.invokevirtual 220, 3) := by decide +kernel
theorem dX7_ask_6 : decode mX7_ask.2.1 6 = .ok (.istore_n 1, 1) := by decide +kernel
theorem dX7_ask_7 : decode mX7_ask.2.1 7 = .ok (.bipush (-9), 2) := by decide +kernel
theorem dX7_ask_9 : decode mX7_ask.2.1 9 = .ok (.istore_n 2, 1) := by decide +kernel
theorem dX7_ask_10 : decode mX7_ask.2.1 10 = .ok (.iconst 0, 1) := by decide +kernel
theorem dX7_ask_11 : decode mX7_ask.2.1 11 = .ok (.istore_n 3, 1) := by decide +kernel
theorem dX7_ask_12 : decode mX7_ask.2.1 12 = .ok (.iconst 0, 1) := by decide +kernel
theorem dX7_ask_13 : decode mX7_ask.2.1 13 = .ok (.istore 4, 2) := by decide +kernel
theorem dX7_ask_15 : decode mX7_ask.2.1 15 = .ok (.iload 4, 2) := by decide +kernel
theorem dX7_ask_17 : decode mX7_ask.2.1 17 = .ok (.aload_n 0, 1) := by decide +kernel
theorem dX7_ask_18 : decode mX7_ask.2.1 18 = .ok (.getfield 69, 3) := by decide +kernel
theorem dX7_ask_21 : decode mX7_ask.2.1 21 = .ok (.if_icmp .ge 86, 3) := by decide +kernel
theorem dX7_ask_24 : decode mX7_ask.2.1 24 = .ok (.iload_n 1, 1) := by decide +kernel
theorem dX7_ask_25 : decode mX7_ask.2.1 25 = .ok (.iconst 1, 1) := by decide +kernel
theorem dX7_ask_26 : decode mX7_ask.2.1 26 = .ok (.if_icmp .le 81, 3) := by decide +kernel
theorem dX7_ask_29 : decode mX7_ask.2.1 29 = .ok (.aload_n 0, 1) := by decide +kernel
theorem dX7_ask_30 : decode mX7_ask.2.1 30 = .ok (.iconst 1, 1) := by decide +kernel
theorem dX7_ask_31 : decode mX7_ask.2.1 31 = .ok (.iload 4, 2) := by decide +kernel
theorem dX7_ask_33 : decode mX7_ask.2.1 33 = .ok (.ishl, 1) := by decide +kernel
theorem dX7_ask_34 : decode mX7_ask.2.1 34 = .ok (.iconst 0, 1) := by decide +kernel
theorem dX7_ask_35 : decode mX7_ask.2.1 35 = .ok (.invokevirtual 220, 3) := by decide +kernel
theorem dX7_ask_38 : decode mX7_ask.2.1 38 = .ok (.istore 5, 2) := by decide +kernel
theorem dX7_ask_40 : decode mX7_ask.2.1 40 = .ok (.iload 5, 2) := by decide +kernel
theorem dX7_ask_42 : decode mX7_ask.2.1 42 = .ok (.iload_n 1, 1) := by decide +kernel
theorem dX7_ask_43 : decode mX7_ask.2.1 43 = .ok (.iload 5, 2) := by decide +kernel
theorem dX7_ask_45 : decode mX7_ask.2.1 45 = .ok (.isub, 1) := by decide +kernel
theorem dX7_ask_46 : decode mX7_ask.2.1 46 = .ok (.if_icmp .le 8, 3) := by decide +kernel
theorem dX7_ask_49 : decode mX7_ask.2.1 49 = .ok (.iload 5, 2) := by decide +kernel
theorem dX7_ask_51 : decode mX7_ask.2.1 51 = .ok (.goto 7, 3) := by decide +kernel
theorem dX7_ask_54 : decode mX7_ask.2.1 54 = .ok (.iload_n 1, 1) := by decide +kernel
theorem dX7_ask_55 : decode mX7_ask.2.1 55 = .ok (.iload 5, 2) := by decide +kernel
theorem dX7_ask_57 : decode mX7_ask.2.1 57 = .ok (.isub, 1) := by decide +kernel
theorem dX7_ask_58 : decode mX7_ask.2.1 58 = .ok (.istore 6, 2) := by decide +kernel
theorem dX7_ask_60 : decode mX7_ask.2.1 60 = .ok (.iload_n 2, 1) := by decide +kernel
theorem dX7_ask_61 : decode mX7_ask.2.1 61 = .ok (.ifCond .lt 9, 3) := by decide +kernel
theorem dX7_ask_64 : decode mX7_ask.2.1 64 = .ok (.iload 6, 2) := by decide +kernel
theorem dX7_ask_66 : decode mX7_ask.2.1 66 = .ok (.iload_n 3, 1) := by decide +kernel
theorem dX7_ask_67 : decode mX7_ask.2.1 67 = .ok (.if_icmp .ge 7, 3) := by decide +kernel
theorem dX7_ask_70 : decode mX7_ask.2.1 70 = .ok (.iconst 1, 1) := by decide +kernel
theorem dX7_ask_71 : decode mX7_ask.2.1 71 = .ok (.goto 4, 3) := by decide +kernel
theorem dX7_ask_74 : decode mX7_ask.2.1 74 = .ok (.iconst 0, 1) := by decide +kernel
theorem dX7_ask_75 : decode mX7_ask.2.1 75 = .ok (.istore 7, 2) := by decide +kernel
theorem dX7_ask_77 : decode mX7_ask.2.1 77 = .ok (.iload 7, 2) := by decide +kernel
theorem dX7_ask_79 : decode mX7_ask.2.1 79 = .ok (.ifCond .eq 8, 3) := by decide +kernel
theorem dX7_ask_82 : decode mX7_ask.2.1 82 = .ok (.iload 4, 2) := by decide +kernel
theorem dX7_ask_84 : decode mX7_ask.2.1 84 = .ok (.goto 4, 3) := by decide +kernel
theorem dX7_ask_87 : decode mX7_ask.2.1 87 = .ok (.iload_n 2, 1) := by decide +kernel
theorem dX7_ask_88 : decode mX7_ask.2.1 88 = .ok (.istore_n 2, 1) := by decide +kernel
theorem dX7_ask_89 : decode mX7_ask.2.1 89 = .ok (.iload 7, 2) := by decide +kernel
theorem dX7_ask_91 : decode mX7_ask.2.1 91 = .ok (.ifCond .eq 8, 3) := by decide +kernel
theorem dX7_ask_94 : decode mX7_ask.2.1 94 = .ok (.iload 6, 2) := by decide +kernel
theorem dX7_ask_96 : decode mX7_ask.2.1 96 = .ok (.goto 4, 3) := by decide +kernel
theorem dX7_ask_99 : decode mX7_ask.2.1 99 = .ok (.iload_n 3, 1) := by decide +kernel
theorem dX7_ask_100 : decode mX7_ask.2.1 100 = .ok (.istore_n 3, 1) := by decide +kernel
theorem dX7_ask_101 : decode mX7_ask.2.1 101 = .ok (.iinc 4 1, 3) := by decide +kernel
theorem dX7_ask_104 : decode mX7_ask.2.1 104 = .ok (.goto (-89), 3) := by decide +kernel
theorem dX7_ask_107 : decode mX7_ask.2.1 107 = .ok (.iload_n 2, 1) := by decide +kernel
theorem dX7_ask_108 : decode mX7_ask.2.1 108 = .ok (.ireturn, 1) := by decide +kernel
theorem dX7_life_0 : decode mX7_life.2.1 0 = .ok (.aload_n 0, 1) := by decide +kernel
theorem dX7_life_1 : decode mX7_life.2.1 1 = .ok (.iload_n 1, 1) := by decide +kernel
theorem dX7_life_2 : decode mX7_life.2.1 2 = .ok (.invokevirtual 189, 3) := by decide +kernel
theorem dX7_life_5 : decode mX7_life.2.1 5 = .ok (.ifCond .eq 14, 3) := by decide +kernel
theorem dX7_life_8 : decode mX7_life.2.1 8 = .ok (.iload_n 2, 1) := by decide +kernel
theorem dX7_life_9 : decode mX7_life.2.1 9 = .ok (.bipush (-99), 2) := by decide +kernel
theorem dX7_life_11 : decode mX7_life.2.1 11 = .ok (.bipush 99, 2) := by decide +kernel
theorem dX7_life_13 : decode mX7_life.2.1 13 = .ok (.invokestatic 72, 3) := by decide +kernel
theorem dX7_life_16 : decode mX7_life.2.1 16 = .ok (.ifCond .ne 5, 3) := by decide +kernel
theorem dX7_life_19 : decode mX7_life.2.1 19 = .ok (.iconst (-1), 1) := by decide +kernel
theorem dX7_life_20 : decode mX7_life.2.1 20 = .ok (.ireturn, 1) := by decide +kernel
theorem dX7_life_21 : decode mX7_life.2.1 21 = .ok (.bipush (-9), 2) := by decide +kernel
theorem dX7_life_23 : decode mX7_life.2.1 23 = .ok (.istore_n 3, 1) := by decide +kernel
theorem dX7_life_24 : decode mX7_life.2.1 24 = .ok (.iconst 0, 1) := by decide +kernel
theorem dX7_life_25 : decode mX7_life.2.1 25 = .ok (.istore 4, 2) := by decide +kernel
theorem dX7_life_27 : decode mX7_life.2.1 27 = .ok (.iload 4, 2) := by decide +kernel
theorem dX7_life_29 : decode mX7_life.2.1 29 = .ok (.iconst 1, 1) := by decide +kernel
theorem dX7_life_30 : decode mX7_life.2.1 30 = .ok (.aload_n 0, 1) := by decide +kernel
theorem dX7_life_31 : decode mX7_life.2.1 31 = .ok (.getfield 69, 3) := by decide +kernel
theorem dX7_life_34 : decode mX7_life.2.1 34 = .ok (.ishl, 1) := by decide +kernel
theorem dX7_life_35 : decode mX7_life.2.1 35 = .ok (.if_icmp .ge 79, 3) := by decide +kernel
theorem dX7_life_38 : decode mX7_life.2.1 38 = .ok (.iload 4, 2) := by decide +kernel
theorem dX7_life_40 : decode mX7_life.2.1 40 = .ok (.aload_n 0, 1) := by decide +kernel
theorem dX7_life_41 : decode mX7_life.2.1 41 = .ok (.getfield 26, 3) := by decide +kernel
theorem dX7_life_44 : decode mX7_life.2.1 44 = .ok (.bipush 9, 2) := by decide +kernel
theorem dX7_life_46 : decode mX7_life.2.1 46 = .ok (.iload_n 1, 1) := by decide +kernel
theorem dX7_life_47 : decode mX7_life.2.1 47 = .ok (.iadd, 1) := by decide +kernel
theorem dX7_life_48 : decode mX7_life.2.1 48 = .ok (.iaload, 1) := by decide +kernel
theorem dX7_life_49 : decode mX7_life.2.1 49 = .ok (.iand, 1) := by decide +kernel
theorem dX7_life_50 : decode mX7_life.2.1 50 = .ok (.ifCond .ne 27, 3) := by decide +kernel
theorem dX7_life_53 : decode mX7_life.2.1 53 = .ok (.aload_n 0, 1) := by decide +kernel
theorem dX7_life_54 : decode mX7_life.2.1 54 = .ok (.iload 4, 2) := by decide +kernel
theorem dX7_life_56 : decode mX7_life.2.1 56 = .ok (.aload_n 0, 1) := by decide +kernel
theorem dX7_life_57 : decode mX7_life.2.1 57 = .ok (.getfield 26, 3) := by decide +kernel
theorem dX7_life_60 : decode mX7_life.2.1 60 = .ok (.bipush 9, 2) := by decide +kernel
theorem dX7_life_62 : decode mX7_life.2.1 62 = .ok (.iload_n 1, 1) := by decide +kernel
theorem dX7_life_63 : decode mX7_life.2.1 63 = .ok (.iadd, 1) := by decide +kernel
theorem dX7_life_64 : decode mX7_life.2.1 64 = .ok (.iaload, 1) := by decide +kernel
theorem dX7_life_65 : decode mX7_life.2.1 65 = .ok (.ior, 1) := by decide +kernel
theorem dX7_life_66 : decode mX7_life.2.1 66 = .ok (.invokevirtual 164, 3) := by decide +kernel
theorem dX7_life_69 : decode mX7_life.2.1 69 = .ok (.iload_n 2, 1) := by decide +kernel
theorem dX7_life_70 : decode mX7_life.2.1 70 = .ok (.if_icmp .gt 7, 3) := by decide +kernel
theorem dX7_life_73 : decode mX7_life.2.1 73 = .ok (.iconst 1, 1) := by decide +kernel
theorem dX7_life_74 : decode mX7_life.2.1 74 = .ok (.goto 4, 3) := by decide +kernel
theorem dX7_life_77 : decode mX7_life.2.1 77 = .ok (.iconst 0, 1) := by decide +kernel
theorem dX7_life_78 : decode mX7_life.2.1 78 = .ok (.istore 5, 2) := by decide +kernel
theorem dX7_life_80 : decode mX7_life.2.1 80 = .ok (.iload 5, 2) := by decide +kernel
theorem dX7_life_82 : decode mX7_life.2.1 82 = .ok (.ifCond .eq 24, 3) := by decide +kernel
theorem dX7_life_85 : decode mX7_life.2.1 85 = .ok (.iload_n 3, 1) := by decide +kernel
theorem dX7_life_86 : decode mX7_life.2.1 86 = .ok (.ifCond .lt 15, 3) := by decide +kernel
theorem dX7_life_89 : decode mX7_life.2.1 89 = .ok (.iload 4, 2) := by decide +kernel
theorem dX7_life_91 : decode mX7_life.2.1 91 = .ok (.invokestatic 202, 3) := by decide +kernel
theorem dX7_life_94 : decode mX7_life.2.1 94 = .ok (.iload_n 3, 1) := by decide +kernel
theorem dX7_life_95 : decode mX7_life.2.1 95 = .ok (.invokestatic 202, 3) := by decide +kernel
theorem dX7_life_98 : decode mX7_life.2.1 98 = .ok (.if_icmp .ge 8, 3) := by decide +kernel
theorem dX7_life_101 : decode mX7_life.2.1 101 = .ok (.iload 4, 2) := by decide +kernel
theorem dX7_life_103 : decode mX7_life.2.1 103 = .ok (.goto 4, 3) := by decide +kernel
theorem dX7_life_106 : decode mX7_life.2.1 106 = .ok (.iload_n 3, 1) := by decide +kernel
theorem dX7_life_107 : decode mX7_life.2.1 107 = .ok (.istore_n 3, 1) := by decide +kernel
theorem dX7_life_108 : decode mX7_life.2.1 108 = .ok (.iinc 4 1, 3) := by decide +kernel
theorem dX7_life_111 : decode mX7_life.2.1 111 = .ok (.goto (-84), 3) := by decide +kernel
theorem dX7_life_114 : decode mX7_life.2.1 114 = .ok (.iload_n 3, 1) := by decide +kernel
theorem dX7_life_115 : decode mX7_life.2.1 115 = .ok (.ireturn, 1) := by decide +kernel
theorem dX7_strengthOf_0 : decode mX7_strengthOf.2.1 0 = .ok (.iconst 0, 1) := by decide +kernel
theorem dX7_strengthOf_1 : decode mX7_strengthOf.2.1 1 = .ok (.istore_n 2, 1) := by decide +kernel
theorem dX7_strengthOf_2 : decode mX7_strengthOf.2.1 2 = .ok (.iconst 0, 1) := by decide +kernel
theorem dX7_strengthOf_3 : decode mX7_strengthOf.2.1 3 = .ok (.istore_n 3, 1) := by decide +kernel
theorem dX7_strengthOf_4 : decode mX7_strengthOf.2.1 4 = .ok (.iload_n 3, 1) := by decide +kernel
theorem dX7_strengthOf_5 : decode mX7_strengthOf.2.1 5 = .ok (.aload_n 0, 1) := by decide +kernel
theorem dX7_strengthOf_6 : decode mX7_strengthOf.2.1 6 = .ok (.getfield 151, 3) := by decide +kernel
theorem dX7_strengthOf_9 : decode mX7_strengthOf.2.1 9 = .ok (.if_icmp .ge 30, 3) := by decide +kernel
theorem dX7_strengthOf_12 : decode mX7_strengthOf.2.1 12 = .ok (.iload_n 2, 1) := by decide +kernel
theorem dX7_strengthOf_13 : decode mX7_strengthOf.2.1 13 = .ok (.iload_n 1, 1) := by decide +kernel
theorem dX7_strengthOf_14 : decode mX7_strengthOf.2.1 14 = .ok (.iload_n 3, 1) := by decide +kernel
theorem dX7_strengthOf_15 : decode mX7_strengthOf.2.1 15 = .ok (.invokestatic 119, 3) := by decide +kernel
theorem dX7_strengthOf_18 : decode mX7_strengthOf.2.1 18 = .ok (.ifCond .eq 12, 3) := by decide +kernel
theorem dX7_strengthOf_21 : decode mX7_strengthOf.2.1 21 = .ok (.aload_n 0, 1) := by decide +kernel
theorem dX7_strengthOf_22 : decode mX7_strengthOf.2.1 22 = .ok (.getfield 16, 3) := by decide +kernel
theorem dX7_strengthOf_25 : decode mX7_strengthOf.2.1 25 = .ok (.iload_n 3, 1) := by decide +kernel
theorem dX7_strengthOf_26 : decode mX7_strengthOf.2.1 26 = .ok (.iaload, 1) := by decide +kernel
theorem dX7_strengthOf_27 : decode mX7_strengthOf.2.1 27 = .ok (.goto 4, 3) := by decide +kernel
theorem dX7_strengthOf_30 : decode mX7_strengthOf.2.1 30 = .ok (.iconst 0, 1) := by decide +kernel
theorem dX7_strengthOf_31 : decode mX7_strengthOf.2.1 31 = .ok (.iadd, 1) := by decide +kernel
theorem dX7_strengthOf_32 : decode mX7_strengthOf.2.1 32 = .ok (.istore_n 2, 1) := by decide +kernel
theorem dX7_strengthOf_33 : decode mX7_strengthOf.2.1 33 = .ok (.iinc 3 1, 3) := by decide +kernel
theorem dX7_strengthOf_36 : decode mX7_strengthOf.2.1 36 = .ok (.goto (-32), 3) := by decide +kernel
theorem dX7_strengthOf_39 : decode mX7_strengthOf.2.1 39 = .ok (.iload_n 2, 1) := by decide +kernel
theorem dX7_strengthOf_40 : decode mX7_strengthOf.2.1 40 = .ok (.ireturn, 1) := by decide +kernel
theorem dX7_carry_0 : decode mX7_carry.2.1 0 = .ok (.iload_n 1, 1) := by decide +kernel
theorem dX7_carry_1 : decode mX7_carry.2.1 1 = .ok (.iconst 1, 1) := by decide +kernel
theorem dX7_carry_2 : decode mX7_carry.2.1 2 = .ok (.sipush 240, 3) := by decide +kernel
theorem dX7_carry_5 : decode mX7_carry.2.1 5 = .ok (.invokestatic 72, 3) := by decide +kernel
theorem dX7_carry_8 : decode mX7_carry.2.1 8 = .ok (.ifCond .eq 12, 3) := by decide +kernel
theorem dX7_carry_11 : decode mX7_carry.2.1 11 = .ok (.iload_n 2, 1) := by decide +kernel
theorem dX7_carry_12 : decode mX7_carry.2.1 12 = .ok (.iconst 0, 1) := by decide +kernel
theorem dX7_carry_13 : decode mX7_carry.2.1 13 = .ok (.iconst 2, 1) := by decide +kernel
theorem dX7_carry_14 : decode mX7_carry.2.1 14 = .ok (.invokestatic 72, 3) := by decide +kernel
theorem dX7_carry_17 : decode mX7_carry.2.1 17 = .ok (.ifCond .ne 5, 3) := by decide +kernel
theorem dX7_carry_20 : decode mX7_carry.2.1 20 = .ok (.iconst (-1), 1) := by decide +kernel
theorem dX7_carry_21 : decode mX7_carry.2.1 21 = .ok (.ireturn, 1) := by decide +kernel
theorem dX7_carry_22 : decode mX7_carry.2.1 22 = .ok (.bipush (-9), 2) := by decide +kernel
theorem dX7_carry_24 : decode mX7_carry.2.1 24 = .ok (.istore_n 3, 1) := by decide +kernel
theorem dX7_carry_25 : decode mX7_carry.2.1 25 = .ok (.bipush (-9), 2) := by decide +kernel
theorem dX7_carry_27 : decode mX7_carry.2.1 27 = .ok (.istore 4, 2) := by decide +kernel
theorem dX7_carry_29 : decode mX7_carry.2.1 29 = .ok (.iconst 0, 1) := by decide +kernel
theorem dX7_carry_30 : decode mX7_carry.2.1 30 = .ok (.istore 5, 2) := by decide +kernel
theorem dX7_carry_32 : decode mX7_carry.2.1 32 = .ok (.iconst 0, 1) := by decide +kernel
theorem dX7_carry_33 : decode mX7_carry.2.1 33 = .ok (.istore 6, 2) := by decide +kernel
theorem dX7_carry_35 : decode mX7_carry.2.1 35 = .ok (.iload 6, 2) := by decide +kernel
theorem dX7_carry_37 : decode mX7_carry.2.1 37 = .ok (.iconst 1, 1) := by decide +kernel
theorem dX7_carry_38 : decode mX7_carry.2.1 38 = .ok (.aload_n 0, 1) := by decide +kernel
theorem dX7_carry_39 : decode mX7_carry.2.1 39 = .ok (.getfield 151, 3) := by decide +kernel
theorem dX7_carry_42 : decode mX7_carry.2.1 42 = .ok (.ishl, 1) := by decide +kernel
theorem dX7_carry_43 : decode mX7_carry.2.1 43 = .ok (.if_icmp .ge 134, 3) := by decide +kernel
theorem dX7_carry_46 : decode mX7_carry.2.1 46 = .ok (.iconst 0, 1) := by decide +kernel
theorem dX7_carry_47 : decode mX7_carry.2.1 47 = .ok (.istore 7, 2) := by decide +kernel
theorem dX7_carry_49 : decode mX7_carry.2.1 49 = .ok (.iload 7, 2) := by decide +kernel
theorem dX7_carry_51 : decode mX7_carry.2.1 51 = .ok (.iload 6, 2) := by decide +kernel
theorem dX7_carry_53 : decode mX7_carry.2.1 53 = .ok (.if_icmp .ge 118, 3) := by decide +kernel
theorem dX7_carry_56 : decode mX7_carry.2.1 56 = .ok (.iload 6, 2) := by decide +kernel
theorem dX7_carry_58 : decode mX7_carry.2.1 58 = .ok (.invokestatic 202, 3) := by decide +kernel
theorem dX7_carry_61 : decode mX7_carry.2.1 61 = .ok (.iconst 4, 1) := by decide +kernel
theorem dX7_carry_62 : decode mX7_carry.2.1 62 = .ok (.if_icmp .ne 109, 3) := by decide +kernel
theorem dX7_carry_65 : decode mX7_carry.2.1 65 = .ok (.aload_n 0, 1) := by decide +kernel
theorem dX7_carry_66 : decode mX7_carry.2.1 66 = .ok (.iload 6, 2) := by decide +kernel
theorem dX7_carry_68 : decode mX7_carry.2.1 68 = .ok (.invokevirtual 223, 3) := by decide +kernel
theorem dX7_carry_71 : decode mX7_carry.2.1 71 = .ok (.istore 8, 2) := by decide +kernel
theorem dX7_carry_73 : decode mX7_carry.2.1 73 = .ok (.iload 8, 2) := by decide +kernel
theorem dX7_carry_75 : decode mX7_carry.2.1 75 = .ok (.iconst 2, 1) := by decide +kernel
theorem dX7_carry_76 : decode mX7_carry.2.1 76 = .ok (.aload_n 0, 1) := by decide +kernel
theorem dX7_carry_77 : decode mX7_carry.2.1 77 = .ok (.iload 7, 2) := by decide +kernel
theorem dX7_carry_79 : decode mX7_carry.2.1 79 = .ok (.invokevirtual 223, 3) := by decide +kernel
theorem dX7_carry_82 : decode mX7_carry.2.1 82 = .ok (.imul, 1) := by decide +kernel
theorem dX7_carry_83 : decode mX7_carry.2.1 83 = .ok (.isub, 1) := by decide +kernel
theorem dX7_carry_84 : decode mX7_carry.2.1 84 = .ok (.invokestatic 205, 3) := by decide +kernel
theorem dX7_carry_87 : decode mX7_carry.2.1 87 = .ok (.istore 9, 2) := by decide +kernel
theorem dX7_carry_89 : decode mX7_carry.2.1 89 = .ok (.iload 7, 2) := by decide +kernel
theorem dX7_carry_91 : decode mX7_carry.2.1 91 = .ok (.iload 6, 2) := by decide +kernel
theorem dX7_carry_93 : decode mX7_carry.2.1 93 = .ok (.iconst (-1), 1) := by decide +kernel
theorem dX7_carry_94 : decode mX7_carry.2.1 94 = .ok (.ixor, 1) := by decide +kernel
theorem dX7_carry_95 : decode mX7_carry.2.1 95 = .ok (.iand, 1) := by decide +kernel
theorem dX7_carry_96 : decode mX7_carry.2.1 96 = .ok (.ifCond .ne 22, 3) := by decide +kernel
theorem dX7_carry_99 : decode mX7_carry.2.1 99 = .ok (.iload 7, 2) := by decide +kernel
theorem dX7_carry_101 : decode mX7_carry.2.1 101 = .ok (.invokestatic 202, 3) := by decide +kernel
theorem dX7_carry_104 : decode mX7_carry.2.1 104 = .ok (.iconst 2, 1) := by decide +kernel
theorem dX7_carry_105 : decode mX7_carry.2.1 105 = .ok (.if_icmp .ne 13, 3) := by decide +kernel
theorem dX7_carry_108 : decode mX7_carry.2.1 108 = .ok (.iload 8, 2) := by decide +kernel
theorem dX7_carry_110 : decode mX7_carry.2.1 110 = .ok (.iload_n 1, 1) := by decide +kernel
theorem dX7_carry_111 : decode mX7_carry.2.1 111 = .ok (.if_icmp .lt 7, 3) := by decide +kernel
theorem dX7_carry_114 : decode mX7_carry.2.1 114 = .ok (.iconst 1, 1) := by decide +kernel
theorem dX7_carry_115 : decode mX7_carry.2.1 115 = .ok (.goto 4, 3) := by decide +kernel
theorem dX7_carry_118 : decode mX7_carry.2.1 118 = .ok (.iconst 0, 1) := by decide +kernel
theorem dX7_carry_119 : decode mX7_carry.2.1 119 = .ok (.istore 10, 2) := by decide +kernel
theorem dX7_carry_121 : decode mX7_carry.2.1 121 = .ok (.iload 10, 2) := by decide +kernel
theorem dX7_carry_123 : decode mX7_carry.2.1 123 = .ok (.ifCond .eq 42, 3) := by decide +kernel
theorem dX7_carry_126 : decode mX7_carry.2.1 126 = .ok (.iload_n 3, 1) := by decide +kernel
theorem dX7_carry_127 : decode mX7_carry.2.1 127 = .ok (.ifCond .lt 27, 3) := by decide +kernel
theorem dX7_carry_130 : decode mX7_carry.2.1 130 = .ok (.iload 9, 2) := by decide +kernel
theorem dX7_carry_132 : decode mX7_carry.2.1 132 = .ok (.iload 5, 2) := by decide +kernel
theorem dX7_carry_134 : decode mX7_carry.2.1 134 = .ok (.if_icmp .lt 20, 3) := by decide +kernel
theorem dX7_carry_137 : decode mX7_carry.2.1 137 = .ok (.iload 9, 2) := by decide +kernel
theorem dX7_carry_139 : decode mX7_carry.2.1 139 = .ok (.iload 5, 2) := by decide +kernel
theorem dX7_carry_141 : decode mX7_carry.2.1 141 = .ok (.if_icmp .ne 24, 3) := by decide +kernel
theorem dX7_carry_144 : decode mX7_carry.2.1 144 = .ok (.iload 8, 2) := by decide +kernel
theorem dX7_carry_146 : decode mX7_carry.2.1 146 = .ok (.aload_n 0, 1) := by decide +kernel
theorem dX7_carry_147 : decode mX7_carry.2.1 147 = .ok (.iload_n 3, 1) := by decide +kernel
theorem dX7_carry_148 : decode mX7_carry.2.1 148 = .ok (.invokevirtual 223, 3) := by decide +kernel
theorem dX7_carry_151 : decode mX7_carry.2.1 151 = .ok (.if_icmp .ge 14, 3) := by decide +kernel
theorem dX7_carry_154 : decode mX7_carry.2.1 154 = .ok (.iload 6, 2) := by decide +kernel
theorem dX7_carry_156 : decode mX7_carry.2.1 156 = .ok (.istore_n 3, 1) := by decide +kernel
theorem dX7_carry_157 : decode mX7_carry.2.1 157 = .ok (.iload 7, 2) := by decide +kernel
theorem dX7_carry_159 : decode mX7_carry.2.1 159 = .ok (.istore 4, 2) := by decide +kernel
theorem dX7_carry_161 : decode mX7_carry.2.1 161 = .ok (.iload 9, 2) := by decide +kernel
theorem dX7_carry_163 : decode mX7_carry.2.1 163 = .ok (.istore 5, 2) := by decide +kernel
theorem dX7_carry_165 : decode mX7_carry.2.1 165 = .ok (.iinc 7 1, 3) := by decide +kernel
theorem dX7_carry_168 : decode mX7_carry.2.1 168 = .ok (.goto (-119), 3) := by decide +kernel
theorem dX7_carry_171 : decode mX7_carry.2.1 171 = .ok (.iinc 6 1, 3) := by decide +kernel
theorem dX7_carry_174 : decode mX7_carry.2.1 174 = .ok (.goto (-139), 3) := by decide +kernel
theorem dX7_carry_177 : decode mX7_carry.2.1 177 = .ok (.iload_n 3, 1) := by decide +kernel
theorem dX7_carry_178 : decode mX7_carry.2.1 178 = .ok (.ifCond .lt 7, 3) := by decide +kernel
theorem dX7_carry_181 : decode mX7_carry.2.1 181 = .ok (.iload_n 2, 1) := by decide +kernel
theorem dX7_carry_182 : decode mX7_carry.2.1 182 = .ok (.ifCond .ne 7, 3) := by decide +kernel
theorem dX7_carry_185 : decode mX7_carry.2.1 185 = .ok (.iload_n 3, 1) := by decide +kernel
theorem dX7_carry_186 : decode mX7_carry.2.1 186 = .ok (.goto 15, 3) := by decide +kernel
theorem dX7_carry_189 : decode mX7_carry.2.1 189 = .ok (.iload_n 2, 1) := by decide +kernel
theorem dX7_carry_190 : decode mX7_carry.2.1 190 = .ok (.iconst 1, 1) := by decide +kernel
theorem dX7_carry_191 : decode mX7_carry.2.1 191 = .ok (.if_icmp .ne 8, 3) := by decide +kernel
theorem dX7_carry_194 : decode mX7_carry.2.1 194 = .ok (.iload 4, 2) := by decide +kernel
theorem dX7_carry_196 : decode mX7_carry.2.1 196 = .ok (.goto 5, 3) := by decide +kernel
theorem dX7_carry_199 : decode mX7_carry.2.1 199 = .ok (.iload 5, 2) := by decide +kernel
theorem dX7_carry_201 : decode mX7_carry.2.1 201 = .ok (.ireturn, 1) := by decide +kernel
theorem dX7_lowest_0 : decode mX7_lowest.2.1 0 = .ok (.iload_n 0, 1) := by decide +kernel
theorem dX7_lowest_1 : decode mX7_lowest.2.1 1 = .ok (.istore_n 3, 1) := by decide +kernel
theorem dX7_lowest_2 : decode mX7_lowest.2.1 2 = .ok (.iload_n 1, 1) := by decide +kernel
theorem dX7_lowest_3 : decode mX7_lowest.2.1 3 = .ok (.istore 4, 2) := by decide +kernel
theorem dX7_lowest_5 : decode mX7_lowest.2.1 5 = .ok (.iload 4, 2) := by decide +kernel
theorem dX7_lowest_7 : decode mX7_lowest.2.1 7 = .ok (.ifCond .le 19, 3) := by decide +kernel
theorem dX7_lowest_10 : decode mX7_lowest.2.1 10 = .ok (.iload_n 3, 1) := by decide +kernel
theorem dX7_lowest_11 : decode mX7_lowest.2.1 11 = .ok (.iload 4, 2) := by decide +kernel
theorem dX7_lowest_13 : decode mX7_lowest.2.1 13 = .ok (.irem, 1) := by decide +kernel
theorem dX7_lowest_14 : decode mX7_lowest.2.1 14 = .ok (.istore 5, 2) := by decide +kernel
theorem dX7_lowest_16 : decode mX7_lowest.2.1 16 = .ok (.iload 4, 2) := by decide +kernel
theorem dX7_lowest_18 : decode mX7_lowest.2.1 18 = .ok (.istore_n 3, 1) := by decide +kernel
theorem dX7_lowest_19 : decode mX7_lowest.2.1 19 = .ok (.iload 5, 2) := by decide +kernel
theorem dX7_lowest_21 : decode mX7_lowest.2.1 21 = .ok (.istore 4, 2) := by decide +kernel
theorem dX7_lowest_23 : decode mX7_lowest.2.1 23 = .ok (.goto (-18), 3) := by decide +kernel
theorem dX7_lowest_26 : decode mX7_lowest.2.1 26 = .ok (.iload_n 2, 1) := by decide +kernel
theorem dX7_lowest_27 : decode mX7_lowest.2.1 27 = .ok (.ifCond .ne 7, 3) := by decide +kernel
theorem dX7_lowest_30 : decode mX7_lowest.2.1 30 = .ok (.iload_n 0, 1) := by decide +kernel
theorem dX7_lowest_31 : decode mX7_lowest.2.1 31 = .ok (.goto 4, 3) := by decide +kernel
theorem dX7_lowest_34 : decode mX7_lowest.2.1 34 = .ok (.iload_n 1, 1) := by decide +kernel
theorem dX7_lowest_35 : decode mX7_lowest.2.1 35 = .ok (.iload_n 3, 1) := by decide +kernel
theorem dX7_lowest_36 : decode mX7_lowest.2.1 36 = .ok (.idiv, 1) := by decide +kernel
theorem dX7_lowest_37 : decode mX7_lowest.2.1 37 = .ok (.ireturn, 1) := by decide +kernel
theorem dX7_odds_0 : decode mX7_odds.2.1 0 = .ok (.iload_n 1, 1) := by decide +kernel
theorem dX7_odds_1 : decode mX7_odds.2.1 1 = .ok (.iconst 0, 1) := by decide +kernel
theorem dX7_odds_2 : decode mX7_odds.2.1 2 = .ok (.bipush 10, 2) := by decide +kernel
theorem dX7_odds_4 : decode mX7_odds.2.1 4 = .ok (.invokestatic 72, 3) := by decide +kernel
theorem dX7_odds_7 : decode mX7_odds.2.1 7 = .ok (.ifCond .eq 22, 3) := by decide +kernel
theorem dX7_odds_10 : decode mX7_odds.2.1 10 = .ok (.iload_n 2, 1) := by decide +kernel
theorem dX7_odds_11 : decode mX7_odds.2.1 11 = .ok (.iconst 0, 1) := by decide +kernel
theorem dX7_odds_12 : decode mX7_odds.2.1 12 = .ok (.bipush 6, 2) := by decide +kernel
theorem dX7_odds_14 : decode mX7_odds.2.1 14 = .ok (.invokestatic 72, 3) := by decide +kernel
theorem dX7_odds_17 : decode mX7_odds.2.1 17 = .ok (.ifCond .eq 12, 3) := by decide +kernel
theorem dX7_odds_20 : decode mX7_odds.2.1 20 = .ok (.iload_n 3, 1) := by decide +kernel
theorem dX7_odds_21 : decode mX7_odds.2.1 21 = .ok (.iconst 0, 1) := by decide +kernel
theorem dX7_odds_22 : decode mX7_odds.2.1 22 = .ok (.iconst 1, 1) := by decide +kernel
theorem dX7_odds_23 : decode mX7_odds.2.1 23 = .ok (.invokestatic 72, 3) := by decide +kernel
theorem dX7_odds_26 : decode mX7_odds.2.1 26 = .ok (.ifCond .ne 5, 3) := by decide +kernel
theorem dX7_odds_29 : decode mX7_odds.2.1 29 = .ok (.iconst (-1), 1) := by decide +kernel
theorem dX7_odds_30 : decode mX7_odds.2.1 30 = .ok (.ireturn, 1) := by decide +kernel
theorem dX7_odds_31 : decode mX7_odds.2.1 31 = .ok (.iconst 0, 1) := by decide +kernel
theorem dX7_odds_32 : decode mX7_odds.2.1 32 = .ok (.istore 4, 2) := by decide +kernel
theorem dX7_odds_34 : decode mX7_odds.2.1 34 = .ok (.iconst 1, 1) := by decide +kernel
theorem dX7_odds_35 : decode mX7_odds.2.1 35 = .ok (.istore 5, 2) := by decide +kernel
theorem dX7_odds_37 : decode mX7_odds.2.1 37 = .ok (.iconst 0, 1) := by decide +kernel
theorem dX7_odds_38 : decode mX7_odds.2.1 38 = .ok (.istore 6, 2) := by decide +kernel
theorem dX7_odds_40 : decode mX7_odds.2.1 40 = .ok (.iload 6, 2) := by decide +kernel
theorem dX7_odds_42 : decode mX7_odds.2.1 42 = .ok (.aload_n 0, 1) := by decide +kernel
theorem dX7_odds_43 : decode mX7_odds.2.1 43 = .ok (.getfield 151, 3) := by decide +kernel
theorem dX7_odds_46 : decode mX7_odds.2.1 46 = .ok (.if_icmp .ge 16, 3) := by decide +kernel
theorem dX7_odds_49 : decode mX7_odds.2.1 49 = .ok (.iload 5, 2) := by decide +kernel
theorem dX7_odds_51 : decode mX7_odds.2.1 51 = .ok (.bipush 10, 2) := by decide +kernel
theorem dX7_odds_53 : decode mX7_odds.2.1 53 = .ok (.imul, 1) := by decide +kernel
theorem dX7_odds_54 : decode mX7_odds.2.1 54 = .ok (.istore 5, 2) := by decide +kernel
theorem dX7_odds_56 : decode mX7_odds.2.1 56 = .ok (.iinc 6 1, 3) := by decide +kernel
theorem dX7_odds_59 : decode mX7_odds.2.1 59 = .ok (.goto (-19), 3) := by decide +kernel
theorem dX7_odds_62 : decode mX7_odds.2.1 62 = .ok (.iconst 0, 1) := by decide +kernel
theorem dX7_odds_63 : decode mX7_odds.2.1 63 = .ok (.istore 6, 2) := by decide +kernel
theorem dX7_odds_65 : decode mX7_odds.2.1 65 = .ok (.iload 6, 2) := by decide +kernel
theorem dX7_odds_67 : decode mX7_odds.2.1 67 = .ok (.iconst 1, 1) := by decide +kernel
theorem dX7_odds_68 : decode mX7_odds.2.1 68 = .ok (.aload_n 0, 1) := by decide +kernel
theorem dX7_odds_69 : decode mX7_odds.2.1 69 = .ok (.getfield 151, 3) := by decide +kernel
theorem dX7_odds_72 : decode mX7_odds.2.1 72 = .ok (.ishl, 1) := by decide +kernel
theorem dX7_odds_73 : decode mX7_odds.2.1 73 = .ok (.if_icmp .ge 73, 3) := by decide +kernel
theorem dX7_odds_76 : decode mX7_odds.2.1 76 = .ok (.iconst 1, 1) := by decide +kernel
theorem dX7_odds_77 : decode mX7_odds.2.1 77 = .ok (.istore 7, 2) := by decide +kernel
theorem dX7_odds_79 : decode mX7_odds.2.1 79 = .ok (.iconst 0, 1) := by decide +kernel
theorem dX7_odds_80 : decode mX7_odds.2.1 80 = .ok (.istore 8, 2) := by decide +kernel
theorem dX7_odds_82 : decode mX7_odds.2.1 82 = .ok (.iload 8, 2) := by decide +kernel
theorem dX7_odds_84 : decode mX7_odds.2.1 84 = .ok (.aload_n 0, 1) := by decide +kernel
theorem dX7_odds_85 : decode mX7_odds.2.1 85 = .ok (.getfield 151, 3) := by decide +kernel
theorem dX7_odds_88 : decode mX7_odds.2.1 88 = .ok (.if_icmp .ge 32, 3) := by decide +kernel
theorem dX7_odds_91 : decode mX7_odds.2.1 91 = .ok (.iload 7, 2) := by decide +kernel
theorem dX7_odds_93 : decode mX7_odds.2.1 93 = .ok (.iload 6, 2) := by decide +kernel
theorem dX7_odds_95 : decode mX7_odds.2.1 95 = .ok (.iload 8, 2) := by decide +kernel
theorem dX7_odds_97 : decode mX7_odds.2.1 97 = .ok (.invokestatic 119, 3) := by decide +kernel
theorem dX7_odds_100 : decode mX7_odds.2.1 100 = .ok (.ifCond .eq 7, 3) := by decide +kernel
theorem dX7_odds_103 : decode mX7_odds.2.1 103 = .ok (.iload_n 1, 1) := by decide +kernel
theorem dX7_odds_104 : decode mX7_odds.2.1 104 = .ok (.goto 7, 3) := by decide +kernel
theorem dX7_odds_107 : decode mX7_odds.2.1 107 = .ok (.bipush 10, 2) := by decide +kernel
theorem dX7_odds_109 : decode mX7_odds.2.1 109 = .ok (.iload_n 1, 1) := by decide +kernel
theorem dX7_odds_110 : decode mX7_odds.2.1 110 = .ok (.isub, 1) := by decide +kernel
theorem dX7_odds_111 : decode mX7_odds.2.1 111 = .ok (.imul, 1) := by decide +kernel
theorem dX7_odds_112 : decode mX7_odds.2.1 112 = .ok (.istore 7, 2) := by decide +kernel
theorem dX7_odds_114 : decode mX7_odds.2.1 114 = .ok (.iinc 8 1, 3) := by decide +kernel
theorem dX7_odds_117 : decode mX7_odds.2.1 117 = .ok (.goto (-35), 3) := by decide +kernel
theorem dX7_odds_120 : decode mX7_odds.2.1 120 = .ok (.iload 4, 2) := by decide +kernel
theorem dX7_odds_122 : decode mX7_odds.2.1 122 = .ok (.iload 6, 2) := by decide +kernel
theorem dX7_odds_124 : decode mX7_odds.2.1 124 = .ok (.invokestatic 202, 3) := by decide +kernel
theorem dX7_odds_127 : decode mX7_odds.2.1 127 = .ok (.iload_n 2, 1) := by decide +kernel
theorem dX7_odds_128 : decode mX7_odds.2.1 128 = .ok (.if_icmp .gt 8, 3) := by decide +kernel
theorem dX7_odds_131 : decode mX7_odds.2.1 131 = .ok (.iload 7, 2) := by decide +kernel
theorem dX7_odds_133 : decode mX7_odds.2.1 133 = .ok (.goto 4, 3) := by decide +kernel
theorem dX7_odds_136 : decode mX7_odds.2.1 136 = .ok (.iconst 0, 1) := by decide +kernel
theorem dX7_odds_137 : decode mX7_odds.2.1 137 = .ok (.iadd, 1) := by decide +kernel
theorem dX7_odds_138 : decode mX7_odds.2.1 138 = .ok (.istore 4, 2) := by decide +kernel
theorem dX7_odds_140 : decode mX7_odds.2.1 140 = .ok (.iinc 6 1, 3) := by decide +kernel
theorem dX7_odds_143 : decode mX7_odds.2.1 143 = .ok (.goto (-78), 3) := by decide +kernel
theorem dX7_odds_146 : decode mX7_odds.2.1 146 = .ok (.iload 4, 2) := by decide +kernel
theorem dX7_odds_148 : decode mX7_odds.2.1 148 = .ok (.iload 5, 2) := by decide +kernel
theorem dX7_odds_150 : decode mX7_odds.2.1 150 = .ok (.iload_n 3, 1) := by decide +kernel
theorem dX7_odds_151 : decode mX7_odds.2.1 151 = .ok (.invokestatic 226, 3) := by decide +kernel
theorem dX7_odds_154 : decode mX7_odds.2.1 154 = .ok (.ireturn, 1) := by decide +kernel
theorem dX7_rate_0 : decode mX7_rate.2.1 0 = .ok (.iload_n 1, 1) := by decide +kernel
theorem dX7_rate_1 : decode mX7_rate.2.1 1 = .ok (.iconst 0, 1) := by decide +kernel
theorem dX7_rate_2 : decode mX7_rate.2.1 2 = .ok (.iconst 5, 1) := by decide +kernel
theorem dX7_rate_3 : decode mX7_rate.2.1 3 = .ok (.invokestatic 72, 3) := by decide +kernel
theorem dX7_rate_6 : decode mX7_rate.2.1 6 = .ok (.ifCond .eq 11, 3) := by decide +kernel
theorem dX7_rate_9 : decode mX7_rate.2.1 9 = .ok (.aload_n 0, 1) := by decide +kernel
theorem dX7_rate_10 : decode mX7_rate.2.1 10 = .ok (.iload_n 2, 1) := by decide +kernel
theorem dX7_rate_11 : decode mX7_rate.2.1 11 = .ok (.invokevirtual 182, 3) := by decide +kernel
theorem dX7_rate_14 : decode mX7_rate.2.1 14 = .ok (.ifCond .ne 6, 3) := by decide +kernel
theorem dX7_rate_17 : decode mX7_rate.2.1 17 = .ok (.ldc 185, 2) := by decide +kernel
theorem dX7_rate_19 : decode mX7_rate.2.1 19 = .ok (.ireturn, 1) := by decide +kernel
theorem dX7_rate_20 : decode mX7_rate.2.1 20 = .ok (.aload_n 0, 1) := by decide +kernel
theorem dX7_rate_21 : decode mX7_rate.2.1 21 = .ok (.getfield 7, 3) := by decide +kernel
theorem dX7_rate_24 : decode mX7_rate.2.1 24 = .ok (.iload_n 2, 1) := by decide +kernel
theorem dX7_rate_25 : decode mX7_rate.2.1 25 = .ok (.iaload, 1) := by decide +kernel
theorem dX7_rate_26 : decode mX7_rate.2.1 26 = .ok (.istore_n 3, 1) := by decide +kernel
theorem dX7_rate_27 : decode mX7_rate.2.1 27 = .ok (.iload_n 3, 1) := by decide +kernel
theorem dX7_rate_28 : decode mX7_rate.2.1 28 = .ok (.aload_n 0, 1) := by decide +kernel
theorem dX7_rate_29 : decode mX7_rate.2.1 29 = .ok (.iload_n 2, 1) := by decide +kernel
theorem dX7_rate_30 : decode mX7_rate.2.1 30 = .ok (.invokevirtual 186, 3) := by decide +kernel
theorem dX7_rate_33 : decode mX7_rate.2.1 33 = .ok (.invokestatic 202, 3) := by decide +kernel
theorem dX7_rate_36 : decode mX7_rate.2.1 36 = .ok (.iadd, 1) := by decide +kernel
theorem dX7_rate_37 : decode mX7_rate.2.1 37 = .ok (.istore 4, 2) := by decide +kernel
theorem dX7_rate_39 : decode mX7_rate.2.1 39 = .ok (.iload_n 3, 1) := by decide +kernel
theorem dX7_rate_40 : decode mX7_rate.2.1 40 = .ok (.aload_n 0, 1) := by decide +kernel
theorem dX7_rate_41 : decode mX7_rate.2.1 41 = .ok (.getfield 26, 3) := by decide +kernel
theorem dX7_rate_44 : decode mX7_rate.2.1 44 = .ok (.iconst 2, 1) := by decide +kernel
theorem dX7_rate_45 : decode mX7_rate.2.1 45 = .ok (.iaload, 1) := by decide +kernel
theorem dX7_rate_46 : decode mX7_rate.2.1 46 = .ok (.isub, 1) := by decide +kernel
theorem dX7_rate_47 : decode mX7_rate.2.1 47 = .ok (.istore 5, 2) := by decide +kernel
theorem dX7_rate_49 : decode mX7_rate.2.1 49 = .ok (.iload_n 1, 1) := by decide +kernel
theorem dX7_rate_50 : decode mX7_rate.2.1 50 = .ok (.tableswitch 119 1 5 #[34, 49, 64, 81, 98], 34) := by decide +kernel
theorem dX7_rate_84 : decode mX7_rate.2.1 84 = .ok (.aload_n 0, 1) := by decide +kernel
theorem dX7_rate_85 : decode mX7_rate.2.1 85 = .ok (.dup, 1) := by decide +kernel
theorem dX7_rate_86 : decode mX7_rate.2.1 86 = .ok (.getfield 230, 3) := by decide +kernel
theorem dX7_rate_89 : decode mX7_rate.2.1 89 = .ok (.ldc2_w 234, 3) := by decide +kernel
theorem dX7_rate_92 : decode mX7_rate.2.1 92 = .ok (.ladd, 1) := by decide +kernel
theorem dX7_rate_93 : decode mX7_rate.2.1 93 = .ok (.putfield 230, 3) := by decide +kernel
theorem dX7_rate_96 : decode mX7_rate.2.1 96 = .ok (.iload 4, 2) := by decide +kernel
theorem dX7_rate_98 : decode mX7_rate.2.1 98 = .ok (.ireturn, 1) := by decide +kernel
theorem dX7_rate_99 : decode mX7_rate.2.1 99 = .ok (.aload_n 0, 1) := by decide +kernel
theorem dX7_rate_100 : decode mX7_rate.2.1 100 = .ok (.dup, 1) := by decide +kernel
theorem dX7_rate_101 : decode mX7_rate.2.1 101 = .ok (.getfield 230, 3) := by decide +kernel
theorem dX7_rate_104 : decode mX7_rate.2.1 104 = .ok (.ldc2_w 236, 3) := by decide +kernel
theorem dX7_rate_107 : decode mX7_rate.2.1 107 = .ok (.ladd, 1) := by decide +kernel
theorem dX7_rate_108 : decode mX7_rate.2.1 108 = .ok (.putfield 230, 3) := by decide +kernel
theorem dX7_rate_111 : decode mX7_rate.2.1 111 = .ok (.iload 5, 2) := by decide +kernel
theorem dX7_rate_113 : decode mX7_rate.2.1 113 = .ok (.ireturn, 1) := by decide +kernel
theorem dX7_rate_114 : decode mX7_rate.2.1 114 = .ok (.aload_n 0, 1) := by decide +kernel
theorem dX7_rate_115 : decode mX7_rate.2.1 115 = .ok (.dup, 1) := by decide +kernel
theorem dX7_rate_116 : decode mX7_rate.2.1 116 = .ok (.getfield 230, 3) := by decide +kernel
theorem dX7_rate_119 : decode mX7_rate.2.1 119 = .ok (.ldc2_w 238, 3) := by decide +kernel
theorem dX7_rate_122 : decode mX7_rate.2.1 122 = .ok (.ladd, 1) := by decide +kernel
theorem dX7_rate_123 : decode mX7_rate.2.1 123 = .ok (.putfield 230, 3) := by decide +kernel
theorem dX7_rate_126 : decode mX7_rate.2.1 126 = .ok (.iconst 2, 1) := by decide +kernel
theorem dX7_rate_127 : decode mX7_rate.2.1 127 = .ok (.iload 4, 2) := by decide +kernel
theorem dX7_rate_129 : decode mX7_rate.2.1 129 = .ok (.imul, 1) := by decide +kernel
theorem dX7_rate_130 : decode mX7_rate.2.1 130 = .ok (.ireturn, 1) := by decide +kernel
theorem dX7_rate_131 : decode mX7_rate.2.1 131 = .ok (.aload_n 0, 1) := by decide +kernel
theorem dX7_rate_132 : decode mX7_rate.2.1 132 = .ok (.dup, 1) := by decide +kernel
theorem dX7_rate_133 : decode mX7_rate.2.1 133 = .ok (.getfield 230, 3) := by decide +kernel
theorem dX7_rate_136 : decode mX7_rate.2.1 136 = .ok (.ldc2_w 240, 3) := by decide +kernel
theorem dX7_rate_139 : decode mX7_rate.2.1 139 = .ok (.ladd, 1) := by decide +kernel
theorem dX7_rate_140 : decode mX7_rate.2.1 140 = .ok (.putfield 230, 3) := by decide +kernel
theorem dX7_rate_143 : decode mX7_rate.2.1 143 = .ok (.iload 5, 2) := by decide +kernel
theorem dX7_rate_145 : decode mX7_rate.2.1 145 = .ok (.iload_n 2, 1) := by decide +kernel
theorem dX7_rate_146 : decode mX7_rate.2.1 146 = .ok (.iadd, 1) := by decide +kernel
theorem dX7_rate_147 : decode mX7_rate.2.1 147 = .ok (.ireturn, 1) := by decide +kernel
theorem dX7_rate_148 : decode mX7_rate.2.1 148 = .ok (.aload_n 0, 1) := by decide +kernel
theorem dX7_rate_149 : decode mX7_rate.2.1 149 = .ok (.dup, 1) := by decide +kernel
theorem dX7_rate_150 : decode mX7_rate.2.1 150 = .ok (.getfield 230, 3) := by decide +kernel
theorem dX7_rate_153 : decode mX7_rate.2.1 153 = .ok (.ldc2_w 242, 3) := by decide +kernel
theorem dX7_rate_156 : decode mX7_rate.2.1 156 = .ok (.ladd, 1) := by decide +kernel
theorem dX7_rate_157 : decode mX7_rate.2.1 157 = .ok (.putfield 230, 3) := by decide +kernel
theorem dX7_rate_160 : decode mX7_rate.2.1 160 = .ok (.iload_n 3, 1) := by decide +kernel
theorem dX7_rate_161 : decode mX7_rate.2.1 161 = .ok (.aload_n 0, 1) := by decide +kernel
theorem dX7_rate_162 : decode mX7_rate.2.1 162 = .ok (.getfield 26, 3) := by decide +kernel
theorem dX7_rate_165 : decode mX7_rate.2.1 165 = .ok (.iconst 0, 1) := by decide +kernel
theorem dX7_rate_166 : decode mX7_rate.2.1 166 = .ok (.iaload, 1) := by decide +kernel
theorem dX7_rate_167 : decode mX7_rate.2.1 167 = .ok (.iadd, 1) := by decide +kernel
theorem dX7_rate_168 : decode mX7_rate.2.1 168 = .ok (.ireturn, 1) := by decide +kernel
theorem dX7_rate_169 : decode mX7_rate.2.1 169 = .ok (.aload_n 0, 1) := by decide +kernel
theorem dX7_rate_170 : decode mX7_rate.2.1 170 = .ok (.dup, 1) := by decide +kernel
theorem dX7_rate_171 : decode mX7_rate.2.1 171 = .ok (.getfield 230, 3) := by decide +kernel
theorem dX7_rate_174 : decode mX7_rate.2.1 174 = .ok (.lconst 1, 1) := by decide +kernel
theorem dX7_rate_175 : decode mX7_rate.2.1 175 = .ok (.ladd, 1) := by decide +kernel
theorem dX7_rate_176 : decode mX7_rate.2.1 176 = .ok (.putfield 230, 3) := by decide +kernel
theorem dX7_rate_179 : decode mX7_rate.2.1 179 = .ok (.iload_n 3, 1) := by decide +kernel
theorem dX7_rate_180 : decode mX7_rate.2.1 180 = .ok (.ireturn, 1) := by decide +kernel
theorem dX7_keep_0 : decode mX7_keep.2.1 0 = .ok (.iload_n 1, 1) := by decide +kernel
theorem dX7_keep_1 : decode mX7_keep.2.1 1 = .ok (.iconst 0, 1) := by decide +kernel
theorem dX7_keep_2 : decode mX7_keep.2.1 2 = .ok (.iconst 1, 1) := by decide +kernel
theorem dX7_keep_3 : decode mX7_keep.2.1 3 = .ok (.invokestatic 72, 3) := by decide +kernel
theorem dX7_keep_6 : decode mX7_keep.2.1 6 = .ok (.ifCond .ne 5, 3) := by decide +kernel
theorem dX7_keep_9 : decode mX7_keep.2.1 9 = .ok (.iconst (-1), 1) := by decide +kernel
theorem dX7_keep_10 : decode mX7_keep.2.1 10 = .ok (.ireturn, 1) := by decide +kernel
theorem dX7_keep_11 : decode mX7_keep.2.1 11 = .ok (.aload_n 0, 1) := by decide +kernel
theorem dX7_keep_12 : decode mX7_keep.2.1 12 = .ok (.getfield 32, 3) := by decide +kernel
theorem dX7_keep_15 : decode mX7_keep.2.1 15 = .ok (.bipush 21, 2) := by decide +kernel
theorem dX7_keep_17 : decode mX7_keep.2.1 17 = .ok (.iload_n 1, 1) := by decide +kernel
theorem dX7_keep_18 : decode mX7_keep.2.1 18 = .ok (.imul, 1) := by decide +kernel
theorem dX7_keep_19 : decode mX7_keep.2.1 19 = .ok (.aload_n 0, 1) := by decide +kernel
theorem dX7_keep_20 : decode mX7_keep.2.1 20 = .ok (.getfield 26, 3) := by decide +kernel
theorem dX7_keep_23 : decode mX7_keep.2.1 23 = .ok (.iconst 0, 1) := by decide +kernel
theorem dX7_keep_24 : decode mX7_keep.2.1 24 = .ok (.invokestatic 160, 3) := by decide +kernel
theorem dX7_keep_27 : decode mX7_keep.2.1 27 = .ok (.aload_n 0, 1) := by decide +kernel
theorem dX7_keep_28 : decode mX7_keep.2.1 28 = .ok (.getfield 35, 3) := by decide +kernel
theorem dX7_keep_31 : decode mX7_keep.2.1 31 = .ok (.iload_n 1, 1) := by decide +kernel
theorem dX7_keep_32 : decode mX7_keep.2.1 32 = .ok (.iconst 1, 1) := by decide +kernel
theorem dX7_keep_33 : decode mX7_keep.2.1 33 = .ok (.bastore, 1) := by decide +kernel
theorem dX7_keep_34 : decode mX7_keep.2.1 34 = .ok (.aload_n 0, 1) := by decide +kernel
theorem dX7_keep_35 : decode mX7_keep.2.1 35 = .ok (.getfield 26, 3) := by decide +kernel
theorem dX7_keep_38 : decode mX7_keep.2.1 38 = .ok (.iconst 0, 1) := by decide +kernel
theorem dX7_keep_39 : decode mX7_keep.2.1 39 = .ok (.iaload, 1) := by decide +kernel
theorem dX7_keep_40 : decode mX7_keep.2.1 40 = .ok (.ireturn, 1) := by decide +kernel
theorem dX7_back_0 : decode mX7_back.2.1 0 = .ok (.iload_n 1, 1) := by decide +kernel
theorem dX7_back_1 : decode mX7_back.2.1 1 = .ok (.iconst 0, 1) := by decide +kernel
theorem dX7_back_2 : decode mX7_back.2.1 2 = .ok (.iconst 1, 1) := by decide +kernel
theorem dX7_back_3 : decode mX7_back.2.1 3 = .ok (.invokestatic 72, 3) := by decide +kernel
theorem dX7_back_6 : decode mX7_back.2.1 6 = .ok (.ifCond .ne 5, 3) := by decide +kernel
theorem dX7_back_9 : decode mX7_back.2.1 9 = .ok (.iconst (-1), 1) := by decide +kernel
theorem dX7_back_10 : decode mX7_back.2.1 10 = .ok (.ireturn, 1) := by decide +kernel
theorem dX7_back_11 : decode mX7_back.2.1 11 = .ok (.aload_n 0, 1) := by decide +kernel
theorem dX7_back_12 : decode mX7_back.2.1 12 = .ok (.getfield 35, 3) := by decide +kernel
theorem dX7_back_15 : decode mX7_back.2.1 15 = .ok (.iload_n 1, 1) := by decide +kernel
theorem dX7_back_16 : decode mX7_back.2.1 16 = .ok (.baload, 1) := by decide +kernel
theorem dX7_back_17 : decode mX7_back.2.1 17 = .ok (.ifCond .ne 6, 3) := by decide +kernel
theorem dX7_back_20 : decode mX7_back.2.1 20 = .ok (.bipush (-2), 2) := by decide +kernel
theorem dX7_back_22 : decode mX7_back.2.1 22 = .ok (.ireturn, 1) := by decide +kernel
theorem dX7_back_23 : decode mX7_back.2.1 23 = .ok (.aload_n 0, 1) := by decide +kernel
theorem dX7_back_24 : decode mX7_back.2.1 24 = .ok (.getfield 26, 3) := by decide +kernel
theorem dX7_back_27 : decode mX7_back.2.1 27 = .ok (.iconst 0, 1) := by decide +kernel
theorem dX7_back_28 : decode mX7_back.2.1 28 = .ok (.aload_n 0, 1) := by decide +kernel
theorem dX7_back_29 : decode mX7_back.2.1 29 = .ok (.getfield 32, 3) := by decide +kernel
theorem dX7_back_32 : decode mX7_back.2.1 32 = .ok (.bipush 21, 2) := by decide +kernel
theorem dX7_back_34 : decode mX7_back.2.1 34 = .ok (.iload_n 1, 1) := by decide +kernel
theorem dX7_back_35 : decode mX7_back.2.1 35 = .ok (.imul, 1) := by decide +kernel
theorem dX7_back_36 : decode mX7_back.2.1 36 = .ok (.invokestatic 160, 3) := by decide +kernel
theorem dX7_back_39 : decode mX7_back.2.1 39 = .ok (.aload_n 0, 1) := by decide +kernel
theorem dX7_back_40 : decode mX7_back.2.1 40 = .ok (.iconst 0, 1) := by decide +kernel
theorem dX7_back_41 : decode mX7_back.2.1 41 = .ok (.putfield 154, 3) := by decide +kernel
theorem dX7_back_44 : decode mX7_back.2.1 44 = .ok (.aload_n 0, 1) := by decide +kernel
theorem dX7_back_45 : decode mX7_back.2.1 45 = .ok (.getfield 26, 3) := by decide +kernel
theorem dX7_back_48 : decode mX7_back.2.1 48 = .ok (.iconst 0, 1) := by decide +kernel
theorem dX7_back_49 : decode mX7_back.2.1 49 = .ok (.iaload, 1) := by decide +kernel
theorem dX7_back_50 : decode mX7_back.2.1 50 = .ok (.ireturn, 1) := by decide +kernel
theorem dX7_count_0 : decode mX7_count.2.1 0 = .ok (.iload_n 1, 1) := by decide +kernel
theorem dX7_count_1 : decode mX7_count.2.1 1 = .ok (.tableswitch 78 0 6 #[43, 48, 53, 58, 63, 68, 73], 43) := by decide +kernel
theorem dX7_count_44 : decode mX7_count.2.1 44 = .ok (.aload_n 0, 1) := by decide +kernel
theorem dX7_count_45 : decode mX7_count.2.1 45 = .ok (.getfield 69, 3) := by decide +kernel
theorem dX7_count_48 : decode mX7_count.2.1 48 = .ok (.ireturn, 1) := by decide +kernel
theorem dX7_count_49 : decode mX7_count.2.1 49 = .ok (.aload_n 0, 1) := by decide +kernel
theorem dX7_count_50 : decode mX7_count.2.1 50 = .ok (.getfield 76, 3) := by decide +kernel
theorem dX7_count_53 : decode mX7_count.2.1 53 = .ok (.ireturn, 1) := by decide +kernel
theorem dX7_count_54 : decode mX7_count.2.1 54 = .ok (.aload_n 0, 1) := by decide +kernel
theorem dX7_count_55 : decode mX7_count.2.1 55 = .ok (.getfield 151, 3) := by decide +kernel
theorem dX7_count_58 : decode mX7_count.2.1 58 = .ok (.ireturn, 1) := by decide +kernel
theorem dX7_count_59 : decode mX7_count.2.1 59 = .ok (.aload_n 0, 1) := by decide +kernel
theorem dX7_count_60 : decode mX7_count.2.1 60 = .ok (.getfield 19, 3) := by decide +kernel
theorem dX7_count_63 : decode mX7_count.2.1 63 = .ok (.ireturn, 1) := by decide +kernel
theorem dX7_count_64 : decode mX7_count.2.1 64 = .ok (.aload_n 0, 1) := by decide +kernel
theorem dX7_count_65 : decode mX7_count.2.1 65 = .ok (.getfield 23, 3) := by decide +kernel
theorem dX7_count_68 : decode mX7_count.2.1 68 = .ok (.ireturn, 1) := by decide +kernel
theorem dX7_count_69 : decode mX7_count.2.1 69 = .ok (.aload_n 0, 1) := by decide +kernel
theorem dX7_count_70 : decode mX7_count.2.1 70 = .ok (.getfield 157, 3) := by decide +kernel
theorem dX7_count_73 : decode mX7_count.2.1 73 = .ok (.ireturn, 1) := by decide +kernel
theorem dX7_count_74 : decode mX7_count.2.1 74 = .ok (.aload_n 0, 1) := by decide +kernel
theorem dX7_count_75 : decode mX7_count.2.1 75 = .ok (.getfield 79, 3) := by decide +kernel
theorem dX7_count_78 : decode mX7_count.2.1 78 = .ok (.ireturn, 1) := by decide +kernel
theorem dX7_count_79 : decode mX7_count.2.1 79 = .ok (.iconst (-1), 1) := by decide +kernel
theorem dX7_count_80 : decode mX7_count.2.1 80 = .ok (.ireturn, 1) := by decide +kernel
theorem dX7_trace_0 : decode mX7_trace.2.1 0 = .ok (.aload_n 0, 1) := by decide +kernel
theorem dX7_trace_1 : decode mX7_trace.2.1 1 = .ok (.getfield 230, 3) := by decide +kernel
theorem dX7_trace_4 : decode mX7_trace.2.1 4 = .ok (.lreturn, 1) := by decide +kernel
theorem dJ6_bitCount_0f7a4_0 : decode mJ6_bitCount_0f7a4.2.1 0 = .ok (.iload_n 0, 1) := by decide +kernel
theorem dJ6_bitCount_0f7a4_1 : decode mJ6_bitCount_0f7a4.2.1 1 = .ok (.iload_n 0, 1) := by decide +kernel
theorem dJ6_bitCount_0f7a4_2 : decode mJ6_bitCount_0f7a4.2.1 2 = .ok (.iconst 1, 1) := by decide +kernel
theorem dJ6_bitCount_0f7a4_3 : decode mJ6_bitCount_0f7a4.2.1 3 = .ok (.iushr, 1) := by decide +kernel
theorem dJ6_bitCount_0f7a4_4 : decode mJ6_bitCount_0f7a4.2.1 4 = .ok (.ldc_w 265, 3) := by decide +kernel
theorem dJ6_bitCount_0f7a4_7 : decode mJ6_bitCount_0f7a4.2.1 7 = .ok (.iand, 1) := by decide +kernel
theorem dJ6_bitCount_0f7a4_8 : decode mJ6_bitCount_0f7a4.2.1 8 = .ok (.isub, 1) := by decide +kernel
end
section
theorem dJ6_bitCount_0f7a4_9 : decode mJ6_bitCount_0f7a4.2.1 9 = .ok (.istore_n 0, 1) := by decide +kernel
theorem dJ6_bitCount_0f7a4_10 : decode mJ6_bitCount_0f7a4.2.1 10 = .ok (.iload_n 0, 1) := by decide +kernel
theorem dJ6_bitCount_0f7a4_11 : decode mJ6_bitCount_0f7a4.2.1 11 = .ok (.ldc_w 266, 3) := by decide +kernel
theorem dJ6_bitCount_0f7a4_14 : decode mJ6_bitCount_0f7a4.2.1 14 = .ok (.iand, 1) := by decide +kernel
theorem dJ6_bitCount_0f7a4_15 : decode mJ6_bitCount_0f7a4.2.1 15 = .ok (.iload_n 0, 1) := by decide +kernel
theorem dJ6_bitCount_0f7a4_16 : decode mJ6_bitCount_0f7a4.2.1 16 = .ok (.iconst 2, 1) := by decide +kernel
theorem dJ6_bitCount_0f7a4_17 : decode mJ6_bitCount_0f7a4.2.1 17 = .ok (.iushr, 1) := by decide +kernel
theorem dJ6_bitCount_0f7a4_18 : decode mJ6_bitCount_0f7a4.2.1 18 = .ok (.ldc_w 266, 3) := by decide +kernel
theorem dJ6_bitCount_0f7a4_21 : decode mJ6_bitCount_0f7a4.2.1 21 = .ok (.iand, 1) := by decide +kernel
theorem dJ6_bitCount_0f7a4_22 : decode mJ6_bitCount_0f7a4.2.1 22 = .ok (.iadd, 1) := by decide +kernel
theorem dJ6_bitCount_0f7a4_23 : decode mJ6_bitCount_0f7a4.2.1 23 = .ok (.istore_n 0, 1) := by decide +kernel
theorem dJ6_bitCount_0f7a4_24 : decode mJ6_bitCount_0f7a4.2.1 24 = .ok (.iload_n 0, 1) := by decide +kernel
theorem dJ6_bitCount_0f7a4_25 : decode mJ6_bitCount_0f7a4.2.1 25 = .ok (.iload_n 0, 1) := by decide +kernel
theorem dJ6_bitCount_0f7a4_26 : decode mJ6_bitCount_0f7a4.2.1 26 = .ok (.iconst 4, 1) := by decide +kernel
theorem dJ6_bitCount_0f7a4_27 : decode mJ6_bitCount_0f7a4.2.1 27 = .ok (.iushr, 1) := by decide +kernel
theorem dJ6_bitCount_0f7a4_28 : decode mJ6_bitCount_0f7a4.2.1 28 = .ok (.iadd, 1) := by decide +kernel
theorem dJ6_bitCount_0f7a4_29 : decode mJ6_bitCount_0f7a4.2.1 29 = .ok (.ldc_w 267, 3) := by decide +kernel
theorem dJ6_bitCount_0f7a4_32 : decode mJ6_bitCount_0f7a4.2.1 32 = .ok (.iand, 1) := by decide +kernel
theorem dJ6_bitCount_0f7a4_33 : decode mJ6_bitCount_0f7a4.2.1 33 = .ok (.istore_n 0, 1) := by decide +kernel
theorem dJ6_bitCount_0f7a4_34 : decode mJ6_bitCount_0f7a4.2.1 34 = .ok (.iload_n 0, 1) := by decide +kernel
theorem dJ6_bitCount_0f7a4_35 : decode mJ6_bitCount_0f7a4.2.1 35 = .ok (.iload_n 0, 1) := by decide +kernel
theorem dJ6_bitCount_0f7a4_36 : decode mJ6_bitCount_0f7a4.2.1 36 = .ok (.bipush 8, 2) := by decide +kernel
theorem dJ6_bitCount_0f7a4_38 : decode mJ6_bitCount_0f7a4.2.1 38 = .ok (.iushr, 1) := by decide +kernel
theorem dJ6_bitCount_0f7a4_39 : decode mJ6_bitCount_0f7a4.2.1 39 = .ok (.iadd, 1) := by decide +kernel
theorem dJ6_bitCount_0f7a4_40 : decode mJ6_bitCount_0f7a4.2.1 40 = .ok (.istore_n 0, 1) := by decide +kernel
theorem dJ6_bitCount_0f7a4_41 : decode mJ6_bitCount_0f7a4.2.1 41 = .ok (.iload_n 0, 1) := by decide +kernel
theorem dJ6_bitCount_0f7a4_42 : decode mJ6_bitCount_0f7a4.2.1 42 = .ok (.iload_n 0, 1) := by decide +kernel
theorem dJ6_bitCount_0f7a4_43 : decode mJ6_bitCount_0f7a4.2.1 43 = .ok (.bipush 16, 2) := by decide +kernel
theorem dJ6_bitCount_0f7a4_45 : decode mJ6_bitCount_0f7a4.2.1 45 = .ok (.iushr, 1) := by decide +kernel
theorem dJ6_bitCount_0f7a4_46 : decode mJ6_bitCount_0f7a4.2.1 46 = .ok (.iadd, 1) := by decide +kernel
theorem dJ6_bitCount_0f7a4_47 : decode mJ6_bitCount_0f7a4.2.1 47 = .ok (.istore_n 0, 1) := by decide +kernel
theorem dJ6_bitCount_0f7a4_48 : decode mJ6_bitCount_0f7a4.2.1 48 = .ok (.iload_n 0, 1) := by decide +kernel
theorem dJ6_bitCount_0f7a4_49 : decode mJ6_bitCount_0f7a4.2.1 49 = .ok (.bipush 63, 2) := by decide +kernel
theorem dJ6_bitCount_0f7a4_51 : decode mJ6_bitCount_0f7a4.2.1 51 = .ok (.iand, 1) := by decide +kernel
theorem dJ6_bitCount_0f7a4_52 : decode mJ6_bitCount_0f7a4.2.1 52 = .ok (.ireturn, 1) := by decide +kernel
theorem dJ9_abs_0f7a4_0 : decode mJ9_abs_0f7a4.2.1 0 = .ok (.iload_n 0, 1) := by decide +kernel
theorem dJ9_abs_0f7a4_1 : decode mJ9_abs_0f7a4.2.1 1 = .ok (.ifCond .ge 8, 3) := by decide +kernel
theorem dJ9_abs_0f7a4_4 : decode mJ9_abs_0f7a4.2.1 4 = .ok (.iload_n 0, 1) := by decide +kernel
theorem dJ9_abs_0f7a4_5 : decode mJ9_abs_0f7a4.2.1 5 = .ok (.ineg, 1) := by decide +kernel
theorem dJ9_abs_0f7a4_6 : decode mJ9_abs_0f7a4.2.1 6 = .ok (.goto 4, 3) := by decide +kernel
theorem dJ9_abs_0f7a4_9 : decode mJ9_abs_0f7a4.2.1 9 = .ok (.iload_n 0, 1) := by decide +kernel
theorem dJ9_abs_0f7a4_10 : decode mJ9_abs_0f7a4.2.1 10 = .ok (.ireturn, 1) := by decide +kernel
theorem dJ9_max_7cf53_0 : decode mJ9_max_7cf53.2.1 0 = .ok (.iload_n 0, 1) := by decide +kernel
theorem dJ9_max_7cf53_1 : decode mJ9_max_7cf53.2.1 1 = .ok (.iload_n 1, 1) := by decide +kernel
theorem dJ9_max_7cf53_2 : decode mJ9_max_7cf53.2.1 2 = .ok (.if_icmp .lt 7, 3) := by decide +kernel
theorem dJ9_max_7cf53_5 : decode mJ9_max_7cf53.2.1 5 = .ok (.iload_n 0, 1) := by decide +kernel
theorem dJ9_max_7cf53_6 : decode mJ9_max_7cf53.2.1 6 = .ok (.goto 4, 3) := by decide +kernel
theorem dJ9_max_7cf53_9 : decode mJ9_max_7cf53.2.1 9 = .ok (.iload_n 1, 1) := by decide +kernel
theorem dJ9_max_7cf53_10 : decode mJ9_max_7cf53.2.1 10 = .ok (.ireturn, 1) := by decide +kernel
theorem dJ9_min_7cf53_0 : decode mJ9_min_7cf53.2.1 0 = .ok (.iload_n 0, 1) := by decide +kernel
theorem dJ9_min_7cf53_1 : decode mJ9_min_7cf53.2.1 1 = .ok (.iload_n 1, 1) := by decide +kernel
theorem dJ9_min_7cf53_2 : decode mJ9_min_7cf53.2.1 2 = .ok (.if_icmp .gt 7, 3) := by decide +kernel
theorem dJ9_min_7cf53_5 : decode mJ9_min_7cf53.2.1 5 = .ok (.iload_n 0, 1) := by decide +kernel
theorem dJ9_min_7cf53_6 : decode mJ9_min_7cf53.2.1 6 = .ok (.goto 4, 3) := by decide +kernel
theorem dJ9_min_7cf53_9 : decode mJ9_min_7cf53.2.1 9 = .ok (.iload_n 1, 1) := by decide +kernel
theorem dJ9_min_7cf53_10 : decode mJ9_min_7cf53.2.1 10 = .ok (.ireturn, 1) := by decide +kernel
theorem dL_law_0 : decode mL_law.2.1 0 = .ok (.new 7, 3) := by decide +kernel
theorem dL_law_3 : decode mL_law.2.1 3 = .ok (.dup, 1) := by decide +kernel
theorem dL_law_4 : decode mL_law.2.1 4 = .ok (.invokespecial 9, 3) := by decide +kernel
theorem dL_law_7 : decode mL_law.2.1 7 = .ok (.astore_n 1, 1) := by decide +kernel
theorem dL_law_8 : decode mL_law.2.1 8 = .ok (.new 10, 3) := by decide +kernel
theorem dL_law_11 : decode mL_law.2.1 11 = .ok (.dup, 1) := by decide +kernel
theorem dL_law_12 : decode mL_law.2.1 12 = .ok (.invokespecial 12, 3) := by decide +kernel
theorem dL_law_15 : decode mL_law.2.1 15 = .ok (.astore_n 2, 1) := by decide +kernel
theorem dL_law_16 : decode mL_law.2.1 16 = .ok (.iconst 0, 1) := by decide +kernel
theorem dL_law_17 : decode mL_law.2.1 17 = .ok (.istore_n 3, 1) := by decide +kernel
theorem dL_law_18 : decode mL_law.2.1 18 = .ok (.iload_n 3, 1) := by decide +kernel
theorem dL_law_19 : decode mL_law.2.1 19 = .ok (.aload_n 0, 1) := by decide +kernel
theorem dL_law_20 : decode mL_law.2.1 20 = .ok (.arraylength, 1) := by decide +kernel
theorem dL_law_21 : decode mL_law.2.1 21 = .ok (.iconst 4, 1) := by decide +kernel
theorem dL_law_22 : decode mL_law.2.1 22 = .ok (.isub, 1) := by decide +kernel
theorem dL_law_23 : decode mL_law.2.1 23 = .ok (.if_icmp .gt 791, 3) := by decide +kernel
theorem dL_law_26 : decode mL_law.2.1 26 = .ok (.aload_n 0, 1) := by decide +kernel
theorem dL_law_27 : decode mL_law.2.1 27 = .ok (.iload_n 3, 1) := by decide +kernel
theorem dL_law_28 : decode mL_law.2.1 28 = .ok (.iaload, 1) := by decide +kernel
theorem dL_law_29 : decode mL_law.2.1 29 = .ok (.bipush 31, 2) := by decide +kernel
theorem dL_law_31 : decode mL_law.2.1 31 = .ok (.iand, 1) := by decide +kernel
theorem dL_law_32 : decode mL_law.2.1 32 = .ok (.tableswitch 776 0 26 #[124, 147, 160, 173, 206, 239, 262, 285, 308, 331, 364, 397, 420, 433, 446, 469, 502, 515, 538, 551, 584, 617, 660, 693, 716, 739, 762], 124) := by decide +kernel
theorem dL_law_156 : decode mL_law.2.1 156 = .ok (.aload_n 1, 1) := by decide +kernel
theorem dL_law_157 : decode mL_law.2.1 157 = .ok (.aload_n 0, 1) := by decide +kernel
theorem dL_law_158 : decode mL_law.2.1 158 = .ok (.iload_n 3, 1) := by decide +kernel
theorem dL_law_159 : decode mL_law.2.1 159 = .ok (.iconst 1, 1) := by decide +kernel
theorem dL_law_160 : decode mL_law.2.1 160 = .ok (.iadd, 1) := by decide +kernel
theorem dL_law_161 : decode mL_law.2.1 161 = .ok (.iaload, 1) := by decide +kernel
theorem dL_law_162 : decode mL_law.2.1 162 = .ok (.invokevirtual 13, 3) := by decide +kernel
theorem dL_law_165 : decode mL_law.2.1 165 = .ok (.aload_n 2, 1) := by decide +kernel
theorem dL_law_166 : decode mL_law.2.1 166 = .ok (.aload_n 0, 1) := by decide +kernel
theorem dL_law_167 : decode mL_law.2.1 167 = .ok (.iload_n 3, 1) := by decide +kernel
theorem dL_law_168 : decode mL_law.2.1 168 = .ok (.iconst 1, 1) := by decide +kernel
theorem dL_law_169 : decode mL_law.2.1 169 = .ok (.iadd, 1) := by decide +kernel
theorem dL_law_170 : decode mL_law.2.1 170 = .ok (.iaload, 1) := by decide +kernel
theorem dL_law_171 : decode mL_law.2.1 171 = .ok (.invokevirtual 17, 3) := by decide +kernel
theorem dL_law_174 : decode mL_law.2.1 174 = .ok (.if_icmp .eq 634, 3) := by decide +kernel
theorem dL_law_177 : decode mL_law.2.1 177 = .ok (.iconst 0, 1) := by decide +kernel
theorem dL_law_178 : decode mL_law.2.1 178 = .ok (.ireturn, 1) := by decide +kernel
theorem dL_law_179 : decode mL_law.2.1 179 = .ok (.aload_n 1, 1) := by decide +kernel
theorem dL_law_180 : decode mL_law.2.1 180 = .ok (.invokevirtual 18, 3) := by decide +kernel
theorem dL_law_183 : decode mL_law.2.1 183 = .ok (.aload_n 2, 1) := by decide +kernel
theorem dL_law_184 : decode mL_law.2.1 184 = .ok (.invokevirtual 22, 3) := by decide +kernel
theorem dL_law_187 : decode mL_law.2.1 187 = .ok (.if_icmp .eq 621, 3) := by decide +kernel
theorem dL_law_190 : decode mL_law.2.1 190 = .ok (.iconst 0, 1) := by decide +kernel
theorem dL_law_191 : decode mL_law.2.1 191 = .ok (.ireturn, 1) := by decide +kernel
theorem dL_law_192 : decode mL_law.2.1 192 = .ok (.aload_n 1, 1) := by decide +kernel
theorem dL_law_193 : decode mL_law.2.1 193 = .ok (.invokevirtual 23, 3) := by decide +kernel
theorem dL_law_196 : decode mL_law.2.1 196 = .ok (.aload_n 2, 1) := by decide +kernel
theorem dL_law_197 : decode mL_law.2.1 197 = .ok (.invokevirtual 26, 3) := by decide +kernel
theorem dL_law_200 : decode mL_law.2.1 200 = .ok (.if_icmp .eq 608, 3) := by decide +kernel
theorem dL_law_203 : decode mL_law.2.1 203 = .ok (.iconst 0, 1) := by decide +kernel
theorem dL_law_204 : decode mL_law.2.1 204 = .ok (.ireturn, 1) := by decide +kernel
theorem dL_law_205 : decode mL_law.2.1 205 = .ok (.aload_n 1, 1) := by decide +kernel
theorem dL_law_206 : decode mL_law.2.1 206 = .ok (.aload_n 0, 1) := by decide +kernel
theorem dL_law_207 : decode mL_law.2.1 207 = .ok (.iload_n 3, 1) := by decide +kernel
theorem dL_law_208 : decode mL_law.2.1 208 = .ok (.iconst 1, 1) := by decide +kernel
theorem dL_law_209 : decode mL_law.2.1 209 = .ok (.iadd, 1) := by decide +kernel
theorem dL_law_210 : decode mL_law.2.1 210 = .ok (.iaload, 1) := by decide +kernel
theorem dL_law_211 : decode mL_law.2.1 211 = .ok (.aload_n 0, 1) := by decide +kernel
theorem dL_law_212 : decode mL_law.2.1 212 = .ok (.iload_n 3, 1) := by decide +kernel
theorem dL_law_213 : decode mL_law.2.1 213 = .ok (.iconst 2, 1) := by decide +kernel
theorem dL_law_214 : decode mL_law.2.1 214 = .ok (.iadd, 1) := by decide +kernel
theorem dL_law_215 : decode mL_law.2.1 215 = .ok (.iaload, 1) := by decide +kernel
theorem dL_law_216 : decode mL_law.2.1 216 = .ok (.invokevirtual 27, 3) := by decide +kernel
theorem dL_law_219 : decode mL_law.2.1 219 = .ok (.aload_n 2, 1) := by decide +kernel
theorem dL_law_220 : decode mL_law.2.1 220 = .ok (.aload_n 0, 1) := by decide +kernel
theorem dL_law_221 : decode mL_law.2.1 221 = .ok (.iload_n 3, 1) := by decide +kernel
theorem dL_law_222 : decode mL_law.2.1 222 = .ok (.iconst 1, 1) := by decide +kernel
theorem dL_law_223 : decode mL_law.2.1 223 = .ok (.iadd, 1) := by decide +kernel
theorem dL_law_224 : decode mL_law.2.1 224 = .ok (.iaload, 1) := by decide +kernel
theorem dL_law_225 : decode mL_law.2.1 225 = .ok (.aload_n 0, 1) := by decide +kernel
theorem dL_law_226 : decode mL_law.2.1 226 = .ok (.iload_n 3, 1) := by decide +kernel
theorem dL_law_227 : decode mL_law.2.1 227 = .ok (.iconst 2, 1) := by decide +kernel
theorem dL_law_228 : decode mL_law.2.1 228 = .ok (.iadd, 1) := by decide +kernel
theorem dL_law_229 : decode mL_law.2.1 229 = .ok (.iaload, 1) := by decide +kernel
theorem dL_law_230 : decode mL_law.2.1 230 = .ok (.invokevirtual 31, 3) := by decide +kernel
theorem dL_law_233 : decode mL_law.2.1 233 = .ok (.if_icmp .eq 575, 3) := by decide +kernel
theorem dL_law_236 : decode mL_law.2.1 236 = .ok (.iconst 0, 1) := by decide +kernel
theorem dL_law_237 : decode mL_law.2.1 237 = .ok (.ireturn, 1) := by decide +kernel
theorem dL_law_238 : decode mL_law.2.1 238 = .ok (.aload_n 1, 1) := by decide +kernel
theorem dL_law_239 : decode mL_law.2.1 239 = .ok (.aload_n 0, 1) := by decide +kernel
theorem dL_law_240 : decode mL_law.2.1 240 = .ok (.iload_n 3, 1) := by decide +kernel
theorem dL_law_241 : decode mL_law.2.1 241 = .ok (.iconst 1, 1) := by decide +kernel
theorem dL_law_242 : decode mL_law.2.1 242 = .ok (.iadd, 1) := by decide +kernel
theorem dL_law_243 : decode mL_law.2.1 243 = .ok (.iaload, 1) := by decide +kernel
theorem dL_law_244 : decode mL_law.2.1 244 = .ok (.aload_n 0, 1) := by decide +kernel
theorem dL_law_245 : decode mL_law.2.1 245 = .ok (.iload_n 3, 1) := by decide +kernel
theorem dL_law_246 : decode mL_law.2.1 246 = .ok (.iconst 2, 1) := by decide +kernel
theorem dL_law_247 : decode mL_law.2.1 247 = .ok (.iadd, 1) := by decide +kernel
theorem dL_law_248 : decode mL_law.2.1 248 = .ok (.iaload, 1) := by decide +kernel
theorem dL_law_249 : decode mL_law.2.1 249 = .ok (.invokevirtual 32, 3) := by decide +kernel
theorem dL_law_252 : decode mL_law.2.1 252 = .ok (.aload_n 2, 1) := by decide +kernel
theorem dL_law_253 : decode mL_law.2.1 253 = .ok (.aload_n 0, 1) := by decide +kernel
theorem dL_law_254 : decode mL_law.2.1 254 = .ok (.iload_n 3, 1) := by decide +kernel
theorem dL_law_255 : decode mL_law.2.1 255 = .ok (.iconst 1, 1) := by decide +kernel
theorem dL_law_256 : decode mL_law.2.1 256 = .ok (.iadd, 1) := by decide +kernel
theorem dL_law_257 : decode mL_law.2.1 257 = .ok (.iaload, 1) := by decide +kernel
theorem dL_law_258 : decode mL_law.2.1 258 = .ok (.aload_n 0, 1) := by decide +kernel
theorem dL_law_259 : decode mL_law.2.1 259 = .ok (.iload_n 3, 1) := by decide +kernel
theorem dL_law_260 : decode mL_law.2.1 260 = .ok (.iconst 2, 1) := by decide +kernel
theorem dL_law_261 : decode mL_law.2.1 261 = .ok (.iadd, 1) := by decide +kernel
theorem dL_law_262 : decode mL_law.2.1 262 = .ok (.iaload, 1) := by decide +kernel
theorem dL_law_263 : decode mL_law.2.1 263 = .ok (.invokevirtual 35, 3) := by decide +kernel
theorem dL_law_266 : decode mL_law.2.1 266 = .ok (.if_icmp .eq 542, 3) := by decide +kernel
theorem dL_law_269 : decode mL_law.2.1 269 = .ok (.iconst 0, 1) := by decide +kernel
theorem dL_law_270 : decode mL_law.2.1 270 = .ok (.ireturn, 1) := by decide +kernel
theorem dL_law_271 : decode mL_law.2.1 271 = .ok (.aload_n 1, 1) := by decide +kernel
theorem dL_law_272 : decode mL_law.2.1 272 = .ok (.aload_n 0, 1) := by decide +kernel
theorem dL_law_273 : decode mL_law.2.1 273 = .ok (.iload_n 3, 1) := by decide +kernel
theorem dL_law_274 : decode mL_law.2.1 274 = .ok (.iconst 1, 1) := by decide +kernel
theorem dL_law_275 : decode mL_law.2.1 275 = .ok (.iadd, 1) := by decide +kernel
theorem dL_law_276 : decode mL_law.2.1 276 = .ok (.iaload, 1) := by decide +kernel
theorem dL_law_277 : decode mL_law.2.1 277 = .ok (.invokevirtual 36, 3) := by decide +kernel
theorem dL_law_280 : decode mL_law.2.1 280 = .ok (.aload_n 2, 1) := by decide +kernel
theorem dL_law_281 : decode mL_law.2.1 281 = .ok (.aload_n 0, 1) := by decide +kernel
theorem dL_law_282 : decode mL_law.2.1 282 = .ok (.iload_n 3, 1) := by decide +kernel
theorem dL_law_283 : decode mL_law.2.1 283 = .ok (.iconst 1, 1) := by decide +kernel
theorem dL_law_284 : decode mL_law.2.1 284 = .ok (.iadd, 1) := by decide +kernel
theorem dL_law_285 : decode mL_law.2.1 285 = .ok (.iaload, 1) := by decide +kernel
theorem dL_law_286 : decode mL_law.2.1 286 = .ok (.invokevirtual 39, 3) := by decide +kernel
theorem dL_law_289 : decode mL_law.2.1 289 = .ok (.if_icmp .eq 519, 3) := by decide +kernel
theorem dL_law_292 : decode mL_law.2.1 292 = .ok (.iconst 0, 1) := by decide +kernel
theorem dL_law_293 : decode mL_law.2.1 293 = .ok (.ireturn, 1) := by decide +kernel
theorem dL_law_294 : decode mL_law.2.1 294 = .ok (.aload_n 1, 1) := by decide +kernel
theorem dL_law_295 : decode mL_law.2.1 295 = .ok (.aload_n 0, 1) := by decide +kernel
theorem dL_law_296 : decode mL_law.2.1 296 = .ok (.iload_n 3, 1) := by decide +kernel
theorem dL_law_297 : decode mL_law.2.1 297 = .ok (.iconst 1, 1) := by decide +kernel
theorem dL_law_298 : decode mL_law.2.1 298 = .ok (.iadd, 1) := by decide +kernel
theorem dL_law_299 : decode mL_law.2.1 299 = .ok (.iaload, 1) := by decide +kernel
theorem dL_law_300 : decode mL_law.2.1 300 = .ok (.invokevirtual 40, 3) := by decide +kernel
theorem dL_law_303 : decode mL_law.2.1 303 = .ok (.aload_n 2, 1) := by decide +kernel
theorem dL_law_304 : decode mL_law.2.1 304 = .ok (.aload_n 0, 1) := by decide +kernel
theorem dL_law_305 : decode mL_law.2.1 305 = .ok (.iload_n 3, 1) := by decide +kernel
theorem dL_law_306 : decode mL_law.2.1 306 = .ok (.iconst 1, 1) := by decide +kernel
theorem dL_law_307 : decode mL_law.2.1 307 = .ok (.iadd, 1) := by decide +kernel
theorem dL_law_308 : decode mL_law.2.1 308 = .ok (.iaload, 1) := by decide +kernel
theorem dL_law_309 : decode mL_law.2.1 309 = .ok (.invokevirtual 43, 3) := by decide +kernel
theorem dL_law_312 : decode mL_law.2.1 312 = .ok (.if_icmp .eq 496, 3) := by decide +kernel
theorem dL_law_315 : decode mL_law.2.1 315 = .ok (.iconst 0, 1) := by decide +kernel
theorem dL_law_316 : decode mL_law.2.1 316 = .ok (.ireturn, 1) := by decide +kernel
theorem dL_law_317 : decode mL_law.2.1 317 = .ok (.aload_n 1, 1) := by decide +kernel
theorem dL_law_318 : decode mL_law.2.1 318 = .ok (.aload_n 0, 1) := by decide +kernel
theorem dL_law_319 : decode mL_law.2.1 319 = .ok (.iload_n 3, 1) := by decide +kernel
theorem dL_law_320 : decode mL_law.2.1 320 = .ok (.iconst 1, 1) := by decide +kernel
theorem dL_law_321 : decode mL_law.2.1 321 = .ok (.iadd, 1) := by decide +kernel
theorem dL_law_322 : decode mL_law.2.1 322 = .ok (.iaload, 1) := by decide +kernel
theorem dL_law_323 : decode mL_law.2.1 323 = .ok (.invokevirtual 44, 3) := by decide +kernel
theorem dL_law_326 : decode mL_law.2.1 326 = .ok (.aload_n 2, 1) := by decide +kernel
theorem dL_law_327 : decode mL_law.2.1 327 = .ok (.aload_n 0, 1) := by decide +kernel
theorem dL_law_328 : decode mL_law.2.1 328 = .ok (.iload_n 3, 1) := by decide +kernel
theorem dL_law_329 : decode mL_law.2.1 329 = .ok (.iconst 1, 1) := by decide +kernel
theorem dL_law_330 : decode mL_law.2.1 330 = .ok (.iadd, 1) := by decide +kernel
theorem dL_law_331 : decode mL_law.2.1 331 = .ok (.iaload, 1) := by decide +kernel
theorem dL_law_332 : decode mL_law.2.1 332 = .ok (.invokevirtual 47, 3) := by decide +kernel
theorem dL_law_335 : decode mL_law.2.1 335 = .ok (.if_icmp .eq 473, 3) := by decide +kernel
theorem dL_law_338 : decode mL_law.2.1 338 = .ok (.iconst 0, 1) := by decide +kernel
theorem dL_law_339 : decode mL_law.2.1 339 = .ok (.ireturn, 1) := by decide +kernel
theorem dL_law_340 : decode mL_law.2.1 340 = .ok (.aload_n 1, 1) := by decide +kernel
theorem dL_law_341 : decode mL_law.2.1 341 = .ok (.aload_n 0, 1) := by decide +kernel
theorem dL_law_342 : decode mL_law.2.1 342 = .ok (.iload_n 3, 1) := by decide +kernel
theorem dL_law_343 : decode mL_law.2.1 343 = .ok (.iconst 1, 1) := by decide +kernel
theorem dL_law_344 : decode mL_law.2.1 344 = .ok (.iadd, 1) := by decide +kernel
theorem dL_law_345 : decode mL_law.2.1 345 = .ok (.iaload, 1) := by decide +kernel
theorem dL_law_346 : decode mL_law.2.1 346 = .ok (.invokevirtual 48, 3) := by decide +kernel
theorem dL_law_349 : decode mL_law.2.1 349 = .ok (.aload_n 2, 1) := by decide +kernel
theorem dL_law_350 : decode mL_law.2.1 350 = .ok (.aload_n 0, 1) := by decide +kernel
theorem dL_law_351 : decode mL_law.2.1 351 = .ok (.iload_n 3, 1) := by decide +kernel
theorem dL_law_352 : decode mL_law.2.1 352 = .ok (.iconst 1, 1) := by decide +kernel
theorem dL_law_353 : decode mL_law.2.1 353 = .ok (.iadd, 1) := by decide +kernel
theorem dL_law_354 : decode mL_law.2.1 354 = .ok (.iaload, 1) := by decide +kernel
theorem dL_law_355 : decode mL_law.2.1 355 = .ok (.invokevirtual 51, 3) := by decide +kernel
theorem dL_law_358 : decode mL_law.2.1 358 = .ok (.if_icmp .eq 450, 3) := by decide +kernel
theorem dL_law_361 : decode mL_law.2.1 361 = .ok (.iconst 0, 1) := by decide +kernel
theorem dL_law_362 : decode mL_law.2.1 362 = .ok (.ireturn, 1) := by decide +kernel
theorem dL_law_363 : decode mL_law.2.1 363 = .ok (.aload_n 1, 1) := by decide +kernel
theorem dL_law_364 : decode mL_law.2.1 364 = .ok (.aload_n 0, 1) := by decide +kernel
theorem dL_law_365 : decode mL_law.2.1 365 = .ok (.iload_n 3, 1) := by decide +kernel
theorem dL_law_366 : decode mL_law.2.1 366 = .ok (.iconst 1, 1) := by decide +kernel
theorem dL_law_367 : decode mL_law.2.1 367 = .ok (.iadd, 1) := by decide +kernel
theorem dL_law_368 : decode mL_law.2.1 368 = .ok (.iaload, 1) := by decide +kernel
theorem dL_law_369 : decode mL_law.2.1 369 = .ok (.aload_n 0, 1) := by decide +kernel
theorem dL_law_370 : decode mL_law.2.1 370 = .ok (.iload_n 3, 1) := by decide +kernel
theorem dL_law_371 : decode mL_law.2.1 371 = .ok (.iconst 2, 1) := by decide +kernel
theorem dL_law_372 : decode mL_law.2.1 372 = .ok (.iadd, 1) := by decide +kernel
theorem dL_law_373 : decode mL_law.2.1 373 = .ok (.iaload, 1) := by decide +kernel
theorem dL_law_374 : decode mL_law.2.1 374 = .ok (.invokevirtual 52, 3) := by decide +kernel
theorem dL_law_377 : decode mL_law.2.1 377 = .ok (.aload_n 2, 1) := by decide +kernel
theorem dL_law_378 : decode mL_law.2.1 378 = .ok (.aload_n 0, 1) := by decide +kernel
theorem dL_law_379 : decode mL_law.2.1 379 = .ok (.iload_n 3, 1) := by decide +kernel
theorem dL_law_380 : decode mL_law.2.1 380 = .ok (.iconst 1, 1) := by decide +kernel
theorem dL_law_381 : decode mL_law.2.1 381 = .ok (.iadd, 1) := by decide +kernel
theorem dL_law_382 : decode mL_law.2.1 382 = .ok (.iaload, 1) := by decide +kernel
theorem dL_law_383 : decode mL_law.2.1 383 = .ok (.aload_n 0, 1) := by decide +kernel
theorem dL_law_384 : decode mL_law.2.1 384 = .ok (.iload_n 3, 1) := by decide +kernel
theorem dL_law_385 : decode mL_law.2.1 385 = .ok (.iconst 2, 1) := by decide +kernel
theorem dL_law_386 : decode mL_law.2.1 386 = .ok (.iadd, 1) := by decide +kernel
theorem dL_law_387 : decode mL_law.2.1 387 = .ok (.iaload, 1) := by decide +kernel
theorem dL_law_388 : decode mL_law.2.1 388 = .ok (.invokevirtual 55, 3) := by decide +kernel
theorem dL_law_391 : decode mL_law.2.1 391 = .ok (.if_icmp .eq 417, 3) := by decide +kernel
theorem dL_law_394 : decode mL_law.2.1 394 = .ok (.iconst 0, 1) := by decide +kernel
theorem dL_law_395 : decode mL_law.2.1 395 = .ok (.ireturn, 1) := by decide +kernel
theorem dL_law_396 : decode mL_law.2.1 396 = .ok (.aload_n 1, 1) := by decide +kernel
theorem dL_law_397 : decode mL_law.2.1 397 = .ok (.aload_n 0, 1) := by decide +kernel
theorem dL_law_398 : decode mL_law.2.1 398 = .ok (.iload_n 3, 1) := by decide +kernel
theorem dL_law_399 : decode mL_law.2.1 399 = .ok (.iconst 1, 1) := by decide +kernel
theorem dL_law_400 : decode mL_law.2.1 400 = .ok (.iadd, 1) := by decide +kernel
theorem dL_law_401 : decode mL_law.2.1 401 = .ok (.iaload, 1) := by decide +kernel
theorem dL_law_402 : decode mL_law.2.1 402 = .ok (.aload_n 0, 1) := by decide +kernel
theorem dL_law_403 : decode mL_law.2.1 403 = .ok (.iload_n 3, 1) := by decide +kernel
theorem dL_law_404 : decode mL_law.2.1 404 = .ok (.iconst 2, 1) := by decide +kernel
theorem dL_law_405 : decode mL_law.2.1 405 = .ok (.iadd, 1) := by decide +kernel
theorem dL_law_406 : decode mL_law.2.1 406 = .ok (.iaload, 1) := by decide +kernel
theorem dL_law_407 : decode mL_law.2.1 407 = .ok (.invokevirtual 56, 3) := by decide +kernel
theorem dL_law_410 : decode mL_law.2.1 410 = .ok (.aload_n 2, 1) := by decide +kernel
theorem dL_law_411 : decode mL_law.2.1 411 = .ok (.aload_n 0, 1) := by decide +kernel
theorem dL_law_412 : decode mL_law.2.1 412 = .ok (.iload_n 3, 1) := by decide +kernel
theorem dL_law_413 : decode mL_law.2.1 413 = .ok (.iconst 1, 1) := by decide +kernel
theorem dL_law_414 : decode mL_law.2.1 414 = .ok (.iadd, 1) := by decide +kernel
theorem dL_law_415 : decode mL_law.2.1 415 = .ok (.iaload, 1) := by decide +kernel
theorem dL_law_416 : decode mL_law.2.1 416 = .ok (.aload_n 0, 1) := by decide +kernel
theorem dL_law_417 : decode mL_law.2.1 417 = .ok (.iload_n 3, 1) := by decide +kernel
theorem dL_law_418 : decode mL_law.2.1 418 = .ok (.iconst 2, 1) := by decide +kernel
theorem dL_law_419 : decode mL_law.2.1 419 = .ok (.iadd, 1) := by decide +kernel
theorem dL_law_420 : decode mL_law.2.1 420 = .ok (.iaload, 1) := by decide +kernel
theorem dL_law_421 : decode mL_law.2.1 421 = .ok (.invokevirtual 59, 3) := by decide +kernel
theorem dL_law_424 : decode mL_law.2.1 424 = .ok (.if_icmp .eq 384, 3) := by decide +kernel
theorem dL_law_427 : decode mL_law.2.1 427 = .ok (.iconst 0, 1) := by decide +kernel
theorem dL_law_428 : decode mL_law.2.1 428 = .ok (.ireturn, 1) := by decide +kernel
theorem dL_law_429 : decode mL_law.2.1 429 = .ok (.aload_n 1, 1) := by decide +kernel
theorem dL_law_430 : decode mL_law.2.1 430 = .ok (.aload_n 0, 1) := by decide +kernel
theorem dL_law_431 : decode mL_law.2.1 431 = .ok (.iload_n 3, 1) := by decide +kernel
theorem dL_law_432 : decode mL_law.2.1 432 = .ok (.iconst 1, 1) := by decide +kernel
theorem dL_law_433 : decode mL_law.2.1 433 = .ok (.iadd, 1) := by decide +kernel
theorem dL_law_434 : decode mL_law.2.1 434 = .ok (.iaload, 1) := by decide +kernel
theorem dL_law_435 : decode mL_law.2.1 435 = .ok (.invokevirtual 60, 3) := by decide +kernel
theorem dL_law_438 : decode mL_law.2.1 438 = .ok (.aload_n 2, 1) := by decide +kernel
theorem dL_law_439 : decode mL_law.2.1 439 = .ok (.aload_n 0, 1) := by decide +kernel
theorem dL_law_440 : decode mL_law.2.1 440 = .ok (.iload_n 3, 1) := by decide +kernel
theorem dL_law_441 : decode mL_law.2.1 441 = .ok (.iconst 1, 1) := by decide +kernel
theorem dL_law_442 : decode mL_law.2.1 442 = .ok (.iadd, 1) := by decide +kernel
theorem dL_law_443 : decode mL_law.2.1 443 = .ok (.iaload, 1) := by decide +kernel
theorem dL_law_444 : decode mL_law.2.1 444 = .ok (.invokevirtual 63, 3) := by decide +kernel
theorem dL_law_447 : decode mL_law.2.1 447 = .ok (.if_icmp .eq 361, 3) := by decide +kernel
theorem dL_law_450 : decode mL_law.2.1 450 = .ok (.iconst 0, 1) := by decide +kernel
theorem dL_law_451 : decode mL_law.2.1 451 = .ok (.ireturn, 1) := by decide +kernel
theorem dL_law_452 : decode mL_law.2.1 452 = .ok (.aload_n 1, 1) := by decide +kernel
theorem dL_law_453 : decode mL_law.2.1 453 = .ok (.invokevirtual 64, 3) := by decide +kernel
theorem dL_law_456 : decode mL_law.2.1 456 = .ok (.aload_n 2, 1) := by decide +kernel
theorem dL_law_457 : decode mL_law.2.1 457 = .ok (.invokevirtual 67, 3) := by decide +kernel
theorem dL_law_460 : decode mL_law.2.1 460 = .ok (.if_icmp .eq 348, 3) := by decide +kernel
theorem dL_law_463 : decode mL_law.2.1 463 = .ok (.iconst 0, 1) := by decide +kernel
theorem dL_law_464 : decode mL_law.2.1 464 = .ok (.ireturn, 1) := by decide +kernel
theorem dL_law_465 : decode mL_law.2.1 465 = .ok (.aload_n 1, 1) := by decide +kernel
theorem dL_law_466 : decode mL_law.2.1 466 = .ok (.invokevirtual 68, 3) := by decide +kernel
theorem dL_law_469 : decode mL_law.2.1 469 = .ok (.aload_n 2, 1) := by decide +kernel
theorem dL_law_470 : decode mL_law.2.1 470 = .ok (.invokevirtual 71, 3) := by decide +kernel
theorem dL_law_473 : decode mL_law.2.1 473 = .ok (.if_icmp .eq 335, 3) := by decide +kernel
theorem dL_law_476 : decode mL_law.2.1 476 = .ok (.iconst 0, 1) := by decide +kernel
theorem dL_law_477 : decode mL_law.2.1 477 = .ok (.ireturn, 1) := by decide +kernel
theorem dL_law_478 : decode mL_law.2.1 478 = .ok (.aload_n 1, 1) := by decide +kernel
theorem dL_law_479 : decode mL_law.2.1 479 = .ok (.aload_n 0, 1) := by decide +kernel
theorem dL_law_480 : decode mL_law.2.1 480 = .ok (.iload_n 3, 1) := by decide +kernel
theorem dL_law_481 : decode mL_law.2.1 481 = .ok (.iconst 1, 1) := by decide +kernel
theorem dL_law_482 : decode mL_law.2.1 482 = .ok (.iadd, 1) := by decide +kernel
theorem dL_law_483 : decode mL_law.2.1 483 = .ok (.iaload, 1) := by decide +kernel
theorem dL_law_484 : decode mL_law.2.1 484 = .ok (.invokevirtual 72, 3) := by decide +kernel
theorem dL_law_487 : decode mL_law.2.1 487 = .ok (.aload_n 2, 1) := by decide +kernel
theorem dL_law_488 : decode mL_law.2.1 488 = .ok (.aload_n 0, 1) := by decide +kernel
theorem dL_law_489 : decode mL_law.2.1 489 = .ok (.iload_n 3, 1) := by decide +kernel
theorem dL_law_490 : decode mL_law.2.1 490 = .ok (.iconst 1, 1) := by decide +kernel
theorem dL_law_491 : decode mL_law.2.1 491 = .ok (.iadd, 1) := by decide +kernel
theorem dL_law_492 : decode mL_law.2.1 492 = .ok (.iaload, 1) := by decide +kernel
theorem dL_law_493 : decode mL_law.2.1 493 = .ok (.invokevirtual 75, 3) := by decide +kernel
theorem dL_law_496 : decode mL_law.2.1 496 = .ok (.if_icmp .eq 312, 3) := by decide +kernel
theorem dL_law_499 : decode mL_law.2.1 499 = .ok (.iconst 0, 1) := by decide +kernel
theorem dL_law_500 : decode mL_law.2.1 500 = .ok (.ireturn, 1) := by decide +kernel
theorem dL_law_501 : decode mL_law.2.1 501 = .ok (.aload_n 1, 1) := by decide +kernel
theorem dL_law_502 : decode mL_law.2.1 502 = .ok (.aload_n 0, 1) := by decide +kernel
theorem dL_law_503 : decode mL_law.2.1 503 = .ok (.iload_n 3, 1) := by decide +kernel
theorem dL_law_504 : decode mL_law.2.1 504 = .ok (.iconst 1, 1) := by decide +kernel
theorem dL_law_505 : decode mL_law.2.1 505 = .ok (.iadd, 1) := by decide +kernel
theorem dL_law_506 : decode mL_law.2.1 506 = .ok (.iaload, 1) := by decide +kernel
theorem dL_law_507 : decode mL_law.2.1 507 = .ok (.aload_n 0, 1) := by decide +kernel
theorem dL_law_508 : decode mL_law.2.1 508 = .ok (.iload_n 3, 1) := by decide +kernel
theorem dL_law_509 : decode mL_law.2.1 509 = .ok (.iconst 2, 1) := by decide +kernel
theorem dL_law_510 : decode mL_law.2.1 510 = .ok (.iadd, 1) := by decide +kernel
theorem dL_law_511 : decode mL_law.2.1 511 = .ok (.iaload, 1) := by decide +kernel
theorem dL_law_512 : decode mL_law.2.1 512 = .ok (.invokevirtual 76, 3) := by decide +kernel
theorem dL_law_515 : decode mL_law.2.1 515 = .ok (.aload_n 2, 1) := by decide +kernel
theorem dL_law_516 : decode mL_law.2.1 516 = .ok (.aload_n 0, 1) := by decide +kernel
theorem dL_law_517 : decode mL_law.2.1 517 = .ok (.iload_n 3, 1) := by decide +kernel
theorem dL_law_518 : decode mL_law.2.1 518 = .ok (.iconst 1, 1) := by decide +kernel
theorem dL_law_519 : decode mL_law.2.1 519 = .ok (.iadd, 1) := by decide +kernel
theorem dL_law_520 : decode mL_law.2.1 520 = .ok (.iaload, 1) := by decide +kernel
theorem dL_law_521 : decode mL_law.2.1 521 = .ok (.aload_n 0, 1) := by decide +kernel
theorem dL_law_522 : decode mL_law.2.1 522 = .ok (.iload_n 3, 1) := by decide +kernel
theorem dL_law_523 : decode mL_law.2.1 523 = .ok (.iconst 2, 1) := by decide +kernel
theorem dL_law_524 : decode mL_law.2.1 524 = .ok (.iadd, 1) := by decide +kernel
theorem dL_law_525 : decode mL_law.2.1 525 = .ok (.iaload, 1) := by decide +kernel
theorem dL_law_526 : decode mL_law.2.1 526 = .ok (.invokevirtual 79, 3) := by decide +kernel
theorem dL_law_529 : decode mL_law.2.1 529 = .ok (.if_icmp .eq 279, 3) := by decide +kernel
theorem dL_law_532 : decode mL_law.2.1 532 = .ok (.iconst 0, 1) := by decide +kernel
theorem dL_law_533 : decode mL_law.2.1 533 = .ok (.ireturn, 1) := by decide +kernel
theorem dL_law_534 : decode mL_law.2.1 534 = .ok (.aload_n 1, 1) := by decide +kernel
theorem dL_law_535 : decode mL_law.2.1 535 = .ok (.invokevirtual 80, 3) := by decide +kernel
theorem dL_law_538 : decode mL_law.2.1 538 = .ok (.aload_n 2, 1) := by decide +kernel
theorem dL_law_539 : decode mL_law.2.1 539 = .ok (.invokevirtual 83, 3) := by decide +kernel
theorem dL_law_542 : decode mL_law.2.1 542 = .ok (.if_icmp .eq 266, 3) := by decide +kernel
theorem dL_law_545 : decode mL_law.2.1 545 = .ok (.iconst 0, 1) := by decide +kernel
theorem dL_law_546 : decode mL_law.2.1 546 = .ok (.ireturn, 1) := by decide +kernel
theorem dL_law_547 : decode mL_law.2.1 547 = .ok (.aload_n 1, 1) := by decide +kernel
theorem dL_law_548 : decode mL_law.2.1 548 = .ok (.aload_n 0, 1) := by decide +kernel
theorem dL_law_549 : decode mL_law.2.1 549 = .ok (.iload_n 3, 1) := by decide +kernel
theorem dL_law_550 : decode mL_law.2.1 550 = .ok (.iconst 1, 1) := by decide +kernel
theorem dL_law_551 : decode mL_law.2.1 551 = .ok (.iadd, 1) := by decide +kernel
theorem dL_law_552 : decode mL_law.2.1 552 = .ok (.iaload, 1) := by decide +kernel
theorem dL_law_553 : decode mL_law.2.1 553 = .ok (.invokevirtual 84, 3) := by decide +kernel
theorem dL_law_556 : decode mL_law.2.1 556 = .ok (.aload_n 2, 1) := by decide +kernel
theorem dL_law_557 : decode mL_law.2.1 557 = .ok (.aload_n 0, 1) := by decide +kernel
theorem dL_law_558 : decode mL_law.2.1 558 = .ok (.iload_n 3, 1) := by decide +kernel
theorem dL_law_559 : decode mL_law.2.1 559 = .ok (.iconst 1, 1) := by decide +kernel
theorem dL_law_560 : decode mL_law.2.1 560 = .ok (.iadd, 1) := by decide +kernel
theorem dL_law_561 : decode mL_law.2.1 561 = .ok (.iaload, 1) := by decide +kernel
theorem dL_law_562 : decode mL_law.2.1 562 = .ok (.invokevirtual 87, 3) := by decide +kernel
theorem dL_law_565 : decode mL_law.2.1 565 = .ok (.if_icmp .eq 243, 3) := by decide +kernel
theorem dL_law_568 : decode mL_law.2.1 568 = .ok (.iconst 0, 1) := by decide +kernel
theorem dL_law_569 : decode mL_law.2.1 569 = .ok (.ireturn, 1) := by decide +kernel
theorem dL_law_570 : decode mL_law.2.1 570 = .ok (.aload_n 1, 1) := by decide +kernel
theorem dL_law_571 : decode mL_law.2.1 571 = .ok (.invokevirtual 88, 3) := by decide +kernel
theorem dL_law_574 : decode mL_law.2.1 574 = .ok (.aload_n 2, 1) := by decide +kernel
theorem dL_law_575 : decode mL_law.2.1 575 = .ok (.invokevirtual 91, 3) := by decide +kernel
theorem dL_law_578 : decode mL_law.2.1 578 = .ok (.if_icmp .eq 230, 3) := by decide +kernel
theorem dL_law_581 : decode mL_law.2.1 581 = .ok (.iconst 0, 1) := by decide +kernel
theorem dL_law_582 : decode mL_law.2.1 582 = .ok (.ireturn, 1) := by decide +kernel
theorem dL_law_583 : decode mL_law.2.1 583 = .ok (.aload_n 1, 1) := by decide +kernel
theorem dL_law_584 : decode mL_law.2.1 584 = .ok (.aload_n 0, 1) := by decide +kernel
theorem dL_law_585 : decode mL_law.2.1 585 = .ok (.iload_n 3, 1) := by decide +kernel
theorem dL_law_586 : decode mL_law.2.1 586 = .ok (.iconst 1, 1) := by decide +kernel
theorem dL_law_587 : decode mL_law.2.1 587 = .ok (.iadd, 1) := by decide +kernel
theorem dL_law_588 : decode mL_law.2.1 588 = .ok (.iaload, 1) := by decide +kernel
theorem dL_law_589 : decode mL_law.2.1 589 = .ok (.aload_n 0, 1) := by decide +kernel
theorem dL_law_590 : decode mL_law.2.1 590 = .ok (.iload_n 3, 1) := by decide +kernel
theorem dL_law_591 : decode mL_law.2.1 591 = .ok (.iconst 2, 1) := by decide +kernel
theorem dL_law_592 : decode mL_law.2.1 592 = .ok (.iadd, 1) := by decide +kernel
theorem dL_law_593 : decode mL_law.2.1 593 = .ok (.iaload, 1) := by decide +kernel
theorem dL_law_594 : decode mL_law.2.1 594 = .ok (.invokevirtual 92, 3) := by decide +kernel
theorem dL_law_597 : decode mL_law.2.1 597 = .ok (.aload_n 2, 1) := by decide +kernel
theorem dL_law_598 : decode mL_law.2.1 598 = .ok (.aload_n 0, 1) := by decide +kernel
theorem dL_law_599 : decode mL_law.2.1 599 = .ok (.iload_n 3, 1) := by decide +kernel
theorem dL_law_600 : decode mL_law.2.1 600 = .ok (.iconst 1, 1) := by decide +kernel
theorem dL_law_601 : decode mL_law.2.1 601 = .ok (.iadd, 1) := by decide +kernel
theorem dL_law_602 : decode mL_law.2.1 602 = .ok (.iaload, 1) := by decide +kernel
theorem dL_law_603 : decode mL_law.2.1 603 = .ok (.aload_n 0, 1) := by decide +kernel
theorem dL_law_604 : decode mL_law.2.1 604 = .ok (.iload_n 3, 1) := by decide +kernel
theorem dL_law_605 : decode mL_law.2.1 605 = .ok (.iconst 2, 1) := by decide +kernel
theorem dL_law_606 : decode mL_law.2.1 606 = .ok (.iadd, 1) := by decide +kernel
theorem dL_law_607 : decode mL_law.2.1 607 = .ok (.iaload, 1) := by decide +kernel
theorem dL_law_608 : decode mL_law.2.1 608 = .ok (.invokevirtual 95, 3) := by decide +kernel
theorem dL_law_611 : decode mL_law.2.1 611 = .ok (.if_icmp .eq 197, 3) := by decide +kernel
theorem dL_law_614 : decode mL_law.2.1 614 = .ok (.iconst 0, 1) := by decide +kernel
theorem dL_law_615 : decode mL_law.2.1 615 = .ok (.ireturn, 1) := by decide +kernel
theorem dL_law_616 : decode mL_law.2.1 616 = .ok (.aload_n 1, 1) := by decide +kernel
theorem dL_law_617 : decode mL_law.2.1 617 = .ok (.aload_n 0, 1) := by decide +kernel
theorem dL_law_618 : decode mL_law.2.1 618 = .ok (.iload_n 3, 1) := by decide +kernel
theorem dL_law_619 : decode mL_law.2.1 619 = .ok (.iconst 1, 1) := by decide +kernel
theorem dL_law_620 : decode mL_law.2.1 620 = .ok (.iadd, 1) := by decide +kernel
theorem dL_law_621 : decode mL_law.2.1 621 = .ok (.iaload, 1) := by decide +kernel
theorem dL_law_622 : decode mL_law.2.1 622 = .ok (.aload_n 0, 1) := by decide +kernel
theorem dL_law_623 : decode mL_law.2.1 623 = .ok (.iload_n 3, 1) := by decide +kernel
theorem dL_law_624 : decode mL_law.2.1 624 = .ok (.iconst 2, 1) := by decide +kernel
theorem dL_law_625 : decode mL_law.2.1 625 = .ok (.iadd, 1) := by decide +kernel
theorem dL_law_626 : decode mL_law.2.1 626 = .ok (.iaload, 1) := by decide +kernel
theorem dL_law_627 : decode mL_law.2.1 627 = .ok (.invokevirtual 96, 3) := by decide +kernel
theorem dL_law_630 : decode mL_law.2.1 630 = .ok (.aload_n 2, 1) := by decide +kernel
theorem dL_law_631 : decode mL_law.2.1 631 = .ok (.aload_n 0, 1) := by decide +kernel
theorem dL_law_632 : decode mL_law.2.1 632 = .ok (.iload_n 3, 1) := by decide +kernel
theorem dL_law_633 : decode mL_law.2.1 633 = .ok (.iconst 1, 1) := by decide +kernel
theorem dL_law_634 : decode mL_law.2.1 634 = .ok (.iadd, 1) := by decide +kernel
theorem dL_law_635 : decode mL_law.2.1 635 = .ok (.iaload, 1) := by decide +kernel
theorem dL_law_636 : decode mL_law.2.1 636 = .ok (.aload_n 0, 1) := by decide +kernel
theorem dL_law_637 : decode mL_law.2.1 637 = .ok (.iload_n 3, 1) := by decide +kernel
theorem dL_law_638 : decode mL_law.2.1 638 = .ok (.iconst 2, 1) := by decide +kernel
theorem dL_law_639 : decode mL_law.2.1 639 = .ok (.iadd, 1) := by decide +kernel
theorem dL_law_640 : decode mL_law.2.1 640 = .ok (.iaload, 1) := by decide +kernel
theorem dL_law_641 : decode mL_law.2.1 641 = .ok (.invokevirtual 99, 3) := by decide +kernel
theorem dL_law_644 : decode mL_law.2.1 644 = .ok (.if_icmp .eq 164, 3) := by decide +kernel
theorem dL_law_647 : decode mL_law.2.1 647 = .ok (.iconst 0, 1) := by decide +kernel
theorem dL_law_648 : decode mL_law.2.1 648 = .ok (.ireturn, 1) := by decide +kernel
theorem dL_law_649 : decode mL_law.2.1 649 = .ok (.aload_n 1, 1) := by decide +kernel
theorem dL_law_650 : decode mL_law.2.1 650 = .ok (.aload_n 0, 1) := by decide +kernel
theorem dL_law_651 : decode mL_law.2.1 651 = .ok (.iload_n 3, 1) := by decide +kernel
theorem dL_law_652 : decode mL_law.2.1 652 = .ok (.iconst 1, 1) := by decide +kernel
theorem dL_law_653 : decode mL_law.2.1 653 = .ok (.iadd, 1) := by decide +kernel
theorem dL_law_654 : decode mL_law.2.1 654 = .ok (.iaload, 1) := by decide +kernel
theorem dL_law_655 : decode mL_law.2.1 655 = .ok (.aload_n 0, 1) := by decide +kernel
theorem dL_law_656 : decode mL_law.2.1 656 = .ok (.iload_n 3, 1) := by decide +kernel
theorem dL_law_657 : decode mL_law.2.1 657 = .ok (.iconst 2, 1) := by decide +kernel
theorem dL_law_658 : decode mL_law.2.1 658 = .ok (.iadd, 1) := by decide +kernel
theorem dL_law_659 : decode mL_law.2.1 659 = .ok (.iaload, 1) := by decide +kernel
theorem dL_law_660 : decode mL_law.2.1 660 = .ok (.aload_n 0, 1) := by decide +kernel
theorem dL_law_661 : decode mL_law.2.1 661 = .ok (.iload_n 3, 1) := by decide +kernel
theorem dL_law_662 : decode mL_law.2.1 662 = .ok (.iconst 3, 1) := by decide +kernel
theorem dL_law_663 : decode mL_law.2.1 663 = .ok (.iadd, 1) := by decide +kernel
theorem dL_law_664 : decode mL_law.2.1 664 = .ok (.iaload, 1) := by decide +kernel
theorem dL_law_665 : decode mL_law.2.1 665 = .ok (.invokevirtual 100, 3) := by decide +kernel
theorem dL_law_668 : decode mL_law.2.1 668 = .ok (.aload_n 2, 1) := by decide +kernel
theorem dL_law_669 : decode mL_law.2.1 669 = .ok (.aload_n 0, 1) := by decide +kernel
theorem dL_law_670 : decode mL_law.2.1 670 = .ok (.iload_n 3, 1) := by decide +kernel
theorem dL_law_671 : decode mL_law.2.1 671 = .ok (.iconst 1, 1) := by decide +kernel
theorem dL_law_672 : decode mL_law.2.1 672 = .ok (.iadd, 1) := by decide +kernel
theorem dL_law_673 : decode mL_law.2.1 673 = .ok (.iaload, 1) := by decide +kernel
theorem dL_law_674 : decode mL_law.2.1 674 = .ok (.aload_n 0, 1) := by decide +kernel
theorem dL_law_675 : decode mL_law.2.1 675 = .ok (.iload_n 3, 1) := by decide +kernel
theorem dL_law_676 : decode mL_law.2.1 676 = .ok (.iconst 2, 1) := by decide +kernel
theorem dL_law_677 : decode mL_law.2.1 677 = .ok (.iadd, 1) := by decide +kernel
theorem dL_law_678 : decode mL_law.2.1 678 = .ok (.iaload, 1) := by decide +kernel
theorem dL_law_679 : decode mL_law.2.1 679 = .ok (.aload_n 0, 1) := by decide +kernel
theorem dL_law_680 : decode mL_law.2.1 680 = .ok (.iload_n 3, 1) := by decide +kernel
theorem dL_law_681 : decode mL_law.2.1 681 = .ok (.iconst 3, 1) := by decide +kernel
theorem dL_law_682 : decode mL_law.2.1 682 = .ok (.iadd, 1) := by decide +kernel
theorem dL_law_683 : decode mL_law.2.1 683 = .ok (.iaload, 1) := by decide +kernel
theorem dL_law_684 : decode mL_law.2.1 684 = .ok (.invokevirtual 104, 3) := by decide +kernel
theorem dL_law_687 : decode mL_law.2.1 687 = .ok (.if_icmp .eq 121, 3) := by decide +kernel
theorem dL_law_690 : decode mL_law.2.1 690 = .ok (.iconst 0, 1) := by decide +kernel
theorem dL_law_691 : decode mL_law.2.1 691 = .ok (.ireturn, 1) := by decide +kernel
theorem dL_law_692 : decode mL_law.2.1 692 = .ok (.aload_n 1, 1) := by decide +kernel
theorem dL_law_693 : decode mL_law.2.1 693 = .ok (.aload_n 0, 1) := by decide +kernel
theorem dL_law_694 : decode mL_law.2.1 694 = .ok (.iload_n 3, 1) := by decide +kernel
theorem dL_law_695 : decode mL_law.2.1 695 = .ok (.iconst 1, 1) := by decide +kernel
theorem dL_law_696 : decode mL_law.2.1 696 = .ok (.iadd, 1) := by decide +kernel
theorem dL_law_697 : decode mL_law.2.1 697 = .ok (.iaload, 1) := by decide +kernel
theorem dL_law_698 : decode mL_law.2.1 698 = .ok (.aload_n 0, 1) := by decide +kernel
theorem dL_law_699 : decode mL_law.2.1 699 = .ok (.iload_n 3, 1) := by decide +kernel
theorem dL_law_700 : decode mL_law.2.1 700 = .ok (.iconst 2, 1) := by decide +kernel
theorem dL_law_701 : decode mL_law.2.1 701 = .ok (.iadd, 1) := by decide +kernel
theorem dL_law_702 : decode mL_law.2.1 702 = .ok (.iaload, 1) := by decide +kernel
theorem dL_law_703 : decode mL_law.2.1 703 = .ok (.invokevirtual 105, 3) := by decide +kernel
theorem dL_law_706 : decode mL_law.2.1 706 = .ok (.aload_n 2, 1) := by decide +kernel
theorem dL_law_707 : decode mL_law.2.1 707 = .ok (.aload_n 0, 1) := by decide +kernel
theorem dL_law_708 : decode mL_law.2.1 708 = .ok (.iload_n 3, 1) := by decide +kernel
theorem dL_law_709 : decode mL_law.2.1 709 = .ok (.iconst 1, 1) := by decide +kernel
theorem dL_law_710 : decode mL_law.2.1 710 = .ok (.iadd, 1) := by decide +kernel
theorem dL_law_711 : decode mL_law.2.1 711 = .ok (.iaload, 1) := by decide +kernel
theorem dL_law_712 : decode mL_law.2.1 712 = .ok (.aload_n 0, 1) := by decide +kernel
theorem dL_law_713 : decode mL_law.2.1 713 = .ok (.iload_n 3, 1) := by decide +kernel
theorem dL_law_714 : decode mL_law.2.1 714 = .ok (.iconst 2, 1) := by decide +kernel
theorem dL_law_715 : decode mL_law.2.1 715 = .ok (.iadd, 1) := by decide +kernel
theorem dL_law_716 : decode mL_law.2.1 716 = .ok (.iaload, 1) := by decide +kernel
theorem dL_law_717 : decode mL_law.2.1 717 = .ok (.invokevirtual 108, 3) := by decide +kernel
theorem dL_law_720 : decode mL_law.2.1 720 = .ok (.if_icmp .eq 88, 3) := by decide +kernel
theorem dL_law_723 : decode mL_law.2.1 723 = .ok (.iconst 0, 1) := by decide +kernel
theorem dL_law_724 : decode mL_law.2.1 724 = .ok (.ireturn, 1) := by decide +kernel
theorem dL_law_725 : decode mL_law.2.1 725 = .ok (.aload_n 1, 1) := by decide +kernel
theorem dL_law_726 : decode mL_law.2.1 726 = .ok (.aload_n 0, 1) := by decide +kernel
theorem dL_law_727 : decode mL_law.2.1 727 = .ok (.iload_n 3, 1) := by decide +kernel
theorem dL_law_728 : decode mL_law.2.1 728 = .ok (.iconst 1, 1) := by decide +kernel
theorem dL_law_729 : decode mL_law.2.1 729 = .ok (.iadd, 1) := by decide +kernel
theorem dL_law_730 : decode mL_law.2.1 730 = .ok (.iaload, 1) := by decide +kernel
theorem dL_law_731 : decode mL_law.2.1 731 = .ok (.invokevirtual 109, 3) := by decide +kernel
theorem dL_law_734 : decode mL_law.2.1 734 = .ok (.aload_n 2, 1) := by decide +kernel
theorem dL_law_735 : decode mL_law.2.1 735 = .ok (.aload_n 0, 1) := by decide +kernel
theorem dL_law_736 : decode mL_law.2.1 736 = .ok (.iload_n 3, 1) := by decide +kernel
theorem dL_law_737 : decode mL_law.2.1 737 = .ok (.iconst 1, 1) := by decide +kernel
theorem dL_law_738 : decode mL_law.2.1 738 = .ok (.iadd, 1) := by decide +kernel
theorem dL_law_739 : decode mL_law.2.1 739 = .ok (.iaload, 1) := by decide +kernel
theorem dL_law_740 : decode mL_law.2.1 740 = .ok (.invokevirtual 112, 3) := by decide +kernel
theorem dL_law_743 : decode mL_law.2.1 743 = .ok (.if_icmp .eq 65, 3) := by decide +kernel
theorem dL_law_746 : decode mL_law.2.1 746 = .ok (.iconst 0, 1) := by decide +kernel
theorem dL_law_747 : decode mL_law.2.1 747 = .ok (.ireturn, 1) := by decide +kernel
theorem dL_law_748 : decode mL_law.2.1 748 = .ok (.aload_n 1, 1) := by decide +kernel
theorem dL_law_749 : decode mL_law.2.1 749 = .ok (.aload_n 0, 1) := by decide +kernel
theorem dL_law_750 : decode mL_law.2.1 750 = .ok (.iload_n 3, 1) := by decide +kernel
theorem dL_law_751 : decode mL_law.2.1 751 = .ok (.iconst 1, 1) := by decide +kernel
theorem dL_law_752 : decode mL_law.2.1 752 = .ok (.iadd, 1) := by decide +kernel
theorem dL_law_753 : decode mL_law.2.1 753 = .ok (.iaload, 1) := by decide +kernel
theorem dL_law_754 : decode mL_law.2.1 754 = .ok (.invokevirtual 113, 3) := by decide +kernel
theorem dL_law_757 : decode mL_law.2.1 757 = .ok (.aload_n 2, 1) := by decide +kernel
theorem dL_law_758 : decode mL_law.2.1 758 = .ok (.aload_n 0, 1) := by decide +kernel
theorem dL_law_759 : decode mL_law.2.1 759 = .ok (.iload_n 3, 1) := by decide +kernel
theorem dL_law_760 : decode mL_law.2.1 760 = .ok (.iconst 1, 1) := by decide +kernel
theorem dL_law_761 : decode mL_law.2.1 761 = .ok (.iadd, 1) := by decide +kernel
theorem dL_law_762 : decode mL_law.2.1 762 = .ok (.iaload, 1) := by decide +kernel
theorem dL_law_763 : decode mL_law.2.1 763 = .ok (.invokevirtual 116, 3) := by decide +kernel
theorem dL_law_766 : decode mL_law.2.1 766 = .ok (.if_icmp .eq 42, 3) := by decide +kernel
theorem dL_law_769 : decode mL_law.2.1 769 = .ok (.iconst 0, 1) := by decide +kernel
theorem dL_law_770 : decode mL_law.2.1 770 = .ok (.ireturn, 1) := by decide +kernel
theorem dL_law_771 : decode mL_law.2.1 771 = .ok (.aload_n 1, 1) := by decide +kernel
theorem dL_law_772 : decode mL_law.2.1 772 = .ok (.aload_n 0, 1) := by decide +kernel
theorem dL_law_773 : decode mL_law.2.1 773 = .ok (.iload_n 3, 1) := by decide +kernel
theorem dL_law_774 : decode mL_law.2.1 774 = .ok (.iconst 1, 1) := by decide +kernel
theorem dL_law_775 : decode mL_law.2.1 775 = .ok (.iadd, 1) := by decide +kernel
theorem dL_law_776 : decode mL_law.2.1 776 = .ok (.iaload, 1) := by decide +kernel
theorem dL_law_777 : decode mL_law.2.1 777 = .ok (.invokevirtual 117, 3) := by decide +kernel
theorem dL_law_780 : decode mL_law.2.1 780 = .ok (.aload_n 2, 1) := by decide +kernel
theorem dL_law_781 : decode mL_law.2.1 781 = .ok (.aload_n 0, 1) := by decide +kernel
theorem dL_law_782 : decode mL_law.2.1 782 = .ok (.iload_n 3, 1) := by decide +kernel
theorem dL_law_783 : decode mL_law.2.1 783 = .ok (.iconst 1, 1) := by decide +kernel
theorem dL_law_784 : decode mL_law.2.1 784 = .ok (.iadd, 1) := by decide +kernel
theorem dL_law_785 : decode mL_law.2.1 785 = .ok (.iaload, 1) := by decide +kernel
theorem dL_law_786 : decode mL_law.2.1 786 = .ok (.invokevirtual 120, 3) := by decide +kernel
theorem dL_law_789 : decode mL_law.2.1 789 = .ok (.if_icmp .eq 19, 3) := by decide +kernel
theorem dL_law_792 : decode mL_law.2.1 792 = .ok (.iconst 0, 1) := by decide +kernel
theorem dL_law_793 : decode mL_law.2.1 793 = .ok (.ireturn, 1) := by decide +kernel
theorem dL_law_794 : decode mL_law.2.1 794 = .ok (.aload_n 1, 1) := by decide +kernel
theorem dL_law_795 : decode mL_law.2.1 795 = .ok (.invokevirtual 121, 3) := by decide +kernel
theorem dL_law_798 : decode mL_law.2.1 798 = .ok (.aload_n 2, 1) := by decide +kernel
theorem dL_law_799 : decode mL_law.2.1 799 = .ok (.invokevirtual 125, 3) := by decide +kernel
theorem dL_law_802 : decode mL_law.2.1 802 = .ok (.lcmp, 1) := by decide +kernel
theorem dL_law_803 : decode mL_law.2.1 803 = .ok (.ifCond .eq 5, 3) := by decide +kernel
theorem dL_law_806 : decode mL_law.2.1 806 = .ok (.iconst 0, 1) := by decide +kernel
theorem dL_law_807 : decode mL_law.2.1 807 = .ok (.ireturn, 1) := by decide +kernel
theorem dL_law_808 : decode mL_law.2.1 808 = .ok (.iinc 3 4, 3) := by decide +kernel
theorem dL_law_811 : decode mL_law.2.1 811 = .ok (.goto (-793), 3) := by decide +kernel
theorem dL_law_814 : decode mL_law.2.1 814 = .ok (.iconst 1, 1) := by decide +kernel
theorem dL_law_815 : decode mL_law.2.1 815 = .ok (.ireturn, 1) := by decide +kernel
end
section
/-! own rows: an abstract heap (a list of cells, the script the first), and one judgement J over it -/
def lw_good : List Cond := lw_tbl.filter goodWord
theorem lw_good_sub : ∀ w ∈ lw_good, w ∈ lw_tbl := fun w h => (List.mem_filter.mp h).1
theorem lw_good_of {w : Cond} (h : w ∈ lw_tbl) (hg : goodWord w = true) : w ∈ lw_good := List.mem_filter.mpr ⟨h, hg⟩
/-- a cell: its kind (below 8 the class of that number; 8 ints, 9 booleans, 10 scenes, 11 the script), its slots -/
abbrev AC : Type := Nat × List Value
/-- launch, the script's address, the first new address, the classes, the arrays' classes -/
abbrev GG : Type := Launch × Nat × Nat × va_G × (Nat → ClassId)
def jad (g : GG) : Nat → Nat
  | 0 => g.2.1
  | k + 1 => g.2.2.1 + k
def jv (g : GG) : Value → Value
  | .ref k => .ref (jad g k)
  | v => v
theorem jv_cat (g : GG) (v : Value) : (jv g v).category = v.category := by cases v <;> rfl
theorem jv_cats (g : GG) (l : List Value) : ((l.map (jv g)).map fun v => v.category) = l.map fun v => v.category := by
  rw [List.map_map]
  exact List.map_congr_left (fun v _ => jv_cat g v)
def jty : Nat → Option FieldType
  | 8 => some .int
  | 9 => some .boolean
  | 10 => some (.object "LychWeights$Scene")
  | 11 => some .int
  | _ => none
def jA (g : GG) : Nat → Prop := fun q => g.2.2.1 ≤ q
def jcell (g : GG) (H : Heap) (a : Nat) (c : AC) : Prop :=
  ∃ cell : Cell, H[a]? = some cell ∧ (∀ q, cell.vm ≠ .statics q) ∧ cell.vm ≠ .unknown ∧
    ((c.1 < 8 ∧ cell.cls = g.2.2.2.1.1 c.1 ∧ cell.vm = .none ∧ (∀ q : vw_C, vwCl[c.1]? = some q → c.2.length = q.2.2) ∧ ∀ (k : Nat) (v : Value), c.2[k]? = some v → cell.slots[g.2.2.2.1.2 c.1 k]? = some (jv g v)) ∨
     (8 ≤ c.1 ∧ cell.cls = g.2.2.2.2 c.1 ∧ cell.slots.size = c.2.length ∧ ∀ (k : Nat) (v : Value), c.2[k]? = some v → cell.slots[k]? = some (jv g v)))
def jH (g : GG) (H : Heap) (h : List AC) : Prop := 1 ≤ h.length ∧ H.size + 1 = g.2.2.1 + h.length ∧ g.2.1 < g.2.2.1 ∧ (∀ c : AC, h[0]? = some c → c.1 = 11) ∧ ∀ (k : Nat) (c : AC), h[k]? = some c → jcell g H (jad g k) c
def jnest : List (String × Nat × MethodName × String) := [("LychWeights", 39, ⟨"LychWeights$Scene", "<init>", "()V"⟩, "LychWeights"), ("LychWeights", 50, ⟨"LychWeights$History", "<init>", "()V"⟩, "LychWeights"), ("LychWeights$Shelf", 21, ⟨"LychWeights$Scene", "<init>", "()V"⟩, "LychWeights"), ("LychWeights$Reader", 122, ⟨"LychWeights", "isWithin", "(III)Z"⟩, "LychWeights"), ("LychWeights$Reader", 106, ⟨"LychWeights", "isIn", "(II)Z"⟩, "LychWeights"), ("LychWeights$Reader", 98, ⟨"LychWeights", "bit", "(I)I"⟩, "LychWeights"), ("LychWeights$Row", 21, ⟨"LychWeights", "isIn", "(II)Z"⟩, "LychWeights")]
def jK (g : GG) (U : State) : Prop :=
  va_K g.2.2.2.1 vwCl [] U ∧
  (∀ (t : Nat) (ty : FieldType), jty t = some ty → ∃ (k : Class) (comp : ClassId), U.vm.classes[g.2.2.2.2 t]? = some k ∧ k.kind = .array comp ty ∧ (t = 10 → comp = g.2.2.2.1.1 4)) ∧
  (∀ t : Nat, t < 11 → ∀ ty : FieldType, jty t = some ty → U.vm.findClass ("[" ++ ty.toString) = some (g.2.2.2.2 t)) ∧
  (∀ w ∈ jnest, va_Nw (.methodLinkNest w.1 w.2.1 w.2.2.1 w.2.2.2) U) ∧ va_AO "LychWeights$Scene" U
theorem jK.warm {g : GG} {s U : State} (hW : s.WarmedH U.vm) (h : jK g s) : jK g U := by
  obtain ⟨h1, h2, h3, h4, h5⟩ := h
  refine ⟨va_K.moved hW.alike h1, fun t ty e => ?_, fun t ht ty e => ?_, fun w hw => va_Nw.warmM hW (h4 w hw), va_AO.moved hW.alike h5⟩
  · obtain ⟨k, comp, a, b, c0⟩ := h2 t ty e
    obtain ⟨k', hk', he⟩ := hW.alike.2.2 _ _ a
    exact ⟨k', comp, hk', by rw [he]; exact b, c0⟩
  · rw [hW.alike.findClass]
    exact h3 t ht ty e
/-- what stays through a method, and the heap as it is -/
def jX (g : GG) (y : MI) (d mc ms : Nat) (h : List AC) (p : Program) (R : Room) (s : State) (m : MethodId) (args : Array Value) (meth : Method) (c : Code) (H : Heap) (locs : List Loc) (cells slots : Nat) : Prop :=
  (p.tables.exec = Jvm.exec ∧ c.code = y.2.1 ∧ c.maxLocals = y.2.2.1 ∧ meth.sig.returnType = y.2.2.2 ∧ meth.locks = false ∧ s.vm.findClass y.1.cls = some m.cls ∧ meth.name = y.1.name ∧
   (∀ w ∈ lw_good, w.before args s = true) ∧ jK g s ∧ d ≤ R.frames ∧ 64 * d ≤ R.locals ∧ g.2.2.1 ≤ s.heap.size) ∧
  (cells + mc ≤ R.cells ∧ slots + ms ≤ R.slots) ∧ jH g H h ∧ va_S (jA g) s.heap H locs
/-- the locals: what is known of them, by number -/
def jL (g : GG) (n : Nat) (lsr : Array Slot) (ls : List (Option Value)) : Prop := lsr.size = n ∧ lv_wf lsr ∧ ls.length = n ∧ ∀ (i : Nat) (v : Value), ls[i]? = some (some v) → v.category = 1 ∧ lsr[i]? = some (.val (jv g v))
def jZ (g : GG) (below : List Frame) (args : Array Value) (s : State) (kc ks : Nat) (Q : Option Value → List AC → Prop) : State → Prop := fun t =>
  ∃ (r : Option Value) (h' : List AC), Q r h' ∧ MQ below (fun _ st o u => o = .returned (r.map (jv g)) ∧ jH g u.heap h' ∧ va_F (jA g) st u) args s kc ks (jA g) t
/-- from here the method comes to its end, with Q of its answer and of the heap -/
def J (g : GG) (y : MI) (d mc ms : Nat) (Q : Option Value → List AC → Prop) (h : List AC) (pc : Nat) (ls : List (Option Value)) (st : List Value) : Prop :=
  ∀ (p : Program) (e : Env) (R : Room) (s : State) (m : MethodId) (args : Array Value) (below : List Frame) (meth : Method) (c : Code) (H : Heap) (locs : List Loc) (cells slots : Nat) (lsr : Array Slot),
    jX g y d mc ms h p R s m args meth c H locs cells slots → jL g y.2.2.1 lsr ls →
    W p g.1 e R s m args below meth c H locs cells slots (jZ g below args s (cells + mc) (slots + ms) Q) (F0 m pc lsr (st.map (jv g)))
section
variable {g : GG} {y : MI} {d mc ms : Nat} {Q : Option Value → List AC → Prop} {h : List AC} {pc : Nat} {ls : List (Option Value)} {st : List Value}
theorem J.post {Q' : Option Value → List AC → Prop} (k : J g y d mc ms Q h pc ls st) (hQ : ∀ r h', Q r h' → Q' r h') : J g y d mc ms Q' h pc ls st := by
  intro p e R s m args below meth c H locs cells slots lsr X L T hT S
  obtain ⟨t, a, r, h', q, b⟩ := k p e R s m args below meth c H locs cells slots lsr X L T hT S
  exact ⟨t, a, r, h', hQ r h' q, b⟩
theorem J.deeper {d' : Nat} (hd : d ≤ d') (k : J g y d mc ms Q h pc ls st) : J g y d' mc ms Q h pc ls st := by
  intro p e R s m args below meth c H locs cells slots lsr X L
  obtain ⟨⟨x1, x2, x3, x4, x5, x6, x7, x8, x9, x10, x11, x12⟩, X2⟩ := X
  exact k p e R s m args below meth c H locs cells slots lsr ⟨⟨x1, x2, x3, x4, x5, x6, x7, x8, x9, Nat.le_trans hd x10, Nat.le_trans (Nat.mul_le_mul_left 64 hd) x11, x12⟩, X2⟩ L
/-- less is known of the locals -/
def jle : List (Option Value) → List (Option Value) → Prop
  | [], [] => True
  | none :: a, _ :: b => jle a b
  | some v :: a, w :: b => w = some v ∧ jle a b
  | _ :: _, [] => False
  | [], _ :: _ => False
theorem jle_len : ∀ {a b : List (Option Value)}, jle a b → a.length = b.length
  | [], [], _ => rfl
  | none :: a, _ :: b, hl => by simpa using jle_len (a := a) (b := b) hl
  | some x :: a, w :: b, hl => by simpa using jle_len (a := a) (b := b) hl.2
theorem jle_at : ∀ {a b : List (Option Value)}, jle a b → ∀ (i : Nat) (v : Value), a[i]? = some (some v) → b[i]? = some (some v)
  | [], _, _, i, v, h => by simp at h
  | none :: a, _ :: b, hl, i, v, h => by
    cases i with
    | zero => simp at h
    | succ i => simpa using jle_at (a := a) (b := b) hl i v (by simpa using h)
  | some x :: a, w :: b, hl, i, v, h => by
    cases i with
    | zero =>
      simp at h
      subst h
      simp [hl.1]
    | succ i => simpa using jle_at (a := a) (b := b) hl.2 i v (by simpa using h)
theorem j_weak {ls' : List (Option Value)} (hl : jle ls' ls) (k : J g y d mc ms Q h pc ls' st) : J g y d mc ms Q h pc ls st := by
  intro p e R s m args below meth c H locs cells slots lsr X L
  exact k p e R s m args below meth c H locs cells slots lsr X ⟨L.1, L.2.1, (jle_len hl).trans L.2.2.1, fun i v hv => L.2.2.2 i v (jle_at hl i v hv)⟩
theorem jL.at {n : Nat} {lsr : Array Slot} {ls : List (Option Value)} (L : jL g n lsr ls) {i : Nat} {v : Value} (h : ls[i]? = some (some v)) : lsr[i]? = some (.val (jv g v)) := (L.2.2.2 i v h).2
/-- the known locals as the kit lists them -/
def jlist (g : GG) : Nat → List (Option Value) → List (Nat × Value)
  | _, [] => []
  | i, none :: l => jlist g (i + 1) l
  | i, some v :: l => (i, jv g v) :: jlist g (i + 1) l
theorem jlist_mem : ∀ (l : List (Option Value)) (i : Nat) (q : Nat × Value), q ∈ jlist g i l ↔ ∃ (k : Nat) (v : Value), l[k]? = some (some v) ∧ q = (i + k, jv g v)
  | [], i, q => by simp [jlist]
  | none :: l, i, q => by
    rw [show jlist g i (none :: l) = jlist g (i + 1) l from rfl, jlist_mem l (i + 1) q]
    constructor
    · rintro ⟨k, v, h1, h2⟩
      exact ⟨k + 1, v, by simpa using h1, by rw [h2]; congr 1; omega⟩
    · rintro ⟨k, v, h1, h2⟩
      cases k with
      | zero => simp at h1
      | succ k => exact ⟨k, v, by simpa using h1, by rw [h2]; congr 1; omega⟩
  | some w :: l, i, q => by
    rw [show jlist g i (some w :: l) = (i, jv g w) :: jlist g (i + 1) l from rfl, List.mem_cons, jlist_mem l (i + 1) q]
    constructor
    · rintro (h | ⟨k, v, h1, h2⟩)
      · exact ⟨0, w, by simp, by simpa using h⟩
      · exact ⟨k + 1, v, by simpa using h1, by rw [h2]; congr 1; omega⟩
    · rintro ⟨k, v, h1, h2⟩
      cases k with
      | zero =>
        simp at h1
        subst h1
        exact Or.inl (by simpa using h2)
      | succ k => exact Or.inr ⟨k, v, by simpa using h1, by rw [h2]; congr 1; omega⟩
theorem jL.has {n : Nat} {lsr : Array Slot} {ls : List (Option Value)} (L : jL g n lsr ls) : lv_has lsr n (jlist g 0 ls) := by
  refine ⟨L.1, L.2.1, fun q hq => ?_⟩
  obtain ⟨k, v, h1, rfl⟩ := (jlist_mem ls 0 q).mp hq
  rw [Nat.zero_add]
  exact L.at h1
theorem jL.set {n : Nat} {lsr lsr' : Array Slot} {ls : List (Option Value)} {i : Nat} {v : Value} (L0 : jL g n lsr ls) (hv : v.category = 1) (L : lv_has lsr' n ((i, jv g v) :: (jlist g 0 ls).filter (fun q => !(q.1 == i) && !(q.1 + 1 == i && q.2.category == 2)))) : jL g n lsr' (ls.set i (some v)) := by
  refine ⟨L.1, L.2.1, by rw [List.length_set]; exact L0.2.2.1, fun j w hj => ?_⟩
  by_cases e : j = i
  · subst e
    have hlt : j < ls.length := by
      have := (List.getElem?_eq_some_iff.mp hj).1
      simpa using this
    rw [List.getElem?_set_self hlt] at hj
    cases hj
    exact ⟨hv, L.2.2 _ List.mem_cons_self⟩
  · rw [List.getElem?_set_ne (Ne.symm e)] at hj
    have hw := (L0.2.2.2 j w hj).1
    refine ⟨hw, L.2.2 (j, jv g w) (List.mem_cons_of_mem _ (List.mem_filter.mpr ⟨(jlist_mem ls 0 _).mpr ⟨j, w, hj, by rw [Nat.zero_add]⟩, ?_⟩))⟩
    have hc : (jv g w).category = 1 := by rw [jv_cat]; exact hw
    simp [e, hc]
end
end
section
/-! what a link says -/
/-- a link to a field: class number, place, final, type -/
def jfl (own : String) (idx ci i : Nat) (fin : Bool) (ty : FieldType) : Prop :=
  ci < 8 ∧ ∃ q : vw_C, vwCl[ci]? = some q ∧ i < q.2.2 ∧ Cond.fieldLink own idx (q.2.1 i).1 (q.2.1 i).2.1 (q.2.1 i).2.2.1 ∈ lw_good ∧ (q.2.1 i).2.2.2 = fin ∧ parseFieldDescriptor (q.2.1 i).2.2.1 = some ty
def jfit (ty : FieldType) (v : Value) : Prop := ∀ g : GG, narrow ty (jv g v) = jv g v ∧ fits ty (jv g v) = true
def jnl (own : String) (idx ci : Nat) (N : Nat) : Prop := ci < 8 ∧ ∃ q : vw_C, vwCl[ci]? = some q ∧ q.2.2 = N ∧ Cond.classLink own idx q.1 ∈ lw_good ∧ Cond.instantiable q.1 N ∈ lw_good ∧ Cond.initialized q.1 ∈ lw_good
/-- what is said of a method wherever it's called: its code, its class, its arguments' number -/
def jmc (y' : MI) (n : Nat) : Prop := Cond.code y'.1 y'.2.1 y'.2.2.1 y'.2.2.2 ∈ lw_good ∧ Cond.initialized y'.1.cls ∈ lw_good ∧ (y'.1.cls ≠ "java/lang/invoke/MethodHandle" ∧ y'.1.cls ≠ "java/lang/invoke/VarHandle") ∧ (parseMethodDescriptor y'.1.desc).map (fun d => d.parameters.length) = some n ∧ y'.2.2.1 ≤ 45
def b2i : Bool → Int32
  | true => 1
  | false => 0
end
section
/-! links: methods, fields, classes (written by wip/whole/gen08.py out of the tables) -/
theorem jg {w : Cond} (k : Nat) (h : lw_tbl[k]? = some w) (hg : goodWord w = true) : w ∈ lw_good := lw_good_of (List.mem_of_getElem? h) hg
theorem mc_X0_init : jmc mX0_init 0 := ⟨jg 248 (by decide +kernel) (by decide +kernel), jg 71 (by decide +kernel) (by decide +kernel), by decide +kernel, by decide +kernel, by decide⟩
theorem im_X0_init : Cond.instanceMethod yX0_init ∈ lw_good := jg 247 (by decide +kernel) (by decide +kernel)
theorem mc_X0_remember : jmc mX0_remember 1 := ⟨jg 508 (by decide +kernel) (by decide +kernel), jg 71 (by decide +kernel) (by decide +kernel), by decide +kernel, by decide +kernel, by decide⟩
theorem im_X0_remember : Cond.instanceMethod yX0_remember ∈ lw_good := jg 506 (by decide +kernel) (by decide +kernel)
theorem se_X0_remember : Cond.selects yX0_remember.cls yX0_remember yX0_remember ∈ lw_good := jg 507 (by decide +kernel) (by decide +kernel)
theorem mc_X0_recall : jmc mX0_recall 1 := ⟨jg 555 (by decide +kernel) (by decide +kernel), jg 71 (by decide +kernel) (by decide +kernel), by decide +kernel, by decide +kernel, by decide⟩
theorem im_X0_recall : Cond.instanceMethod yX0_recall ∈ lw_good := jg 553 (by decide +kernel) (by decide +kernel)
theorem se_X0_recall : Cond.selects yX0_recall.cls yX0_recall yX0_recall ∈ lw_good := jg 554 (by decide +kernel) (by decide +kernel)
theorem mc_X0_loseAll : jmc mX0_loseAll 0 := ⟨jg 426 (by decide +kernel) (by decide +kernel), jg 71 (by decide +kernel) (by decide +kernel), by decide +kernel, by decide +kernel, by decide⟩
theorem im_X0_loseAll : Cond.instanceMethod yX0_loseAll ∈ lw_good := jg 424 (by decide +kernel) (by decide +kernel)
theorem se_X0_loseAll : Cond.selects yX0_loseAll.cls yX0_loseAll yX0_loseAll ∈ lw_good := jg 425 (by decide +kernel) (by decide +kernel)
theorem mc_X1_init : jmc mX1_init 0 := ⟨jg 135 (by decide +kernel) (by decide +kernel), jg 69 (by decide +kernel) (by decide +kernel), by decide +kernel, by decide +kernel, by decide⟩
theorem im_X1_init : Cond.instanceMethod yX1_init ∈ lw_good := jg 134 (by decide +kernel) (by decide +kernel)
theorem mc_X1_begin : jmc mX1_begin 0 := ⟨jg 142 (by decide +kernel) (by decide +kernel), jg 69 (by decide +kernel) (by decide +kernel), by decide +kernel, by decide +kernel, by decide⟩
theorem im_X1_begin : Cond.instanceMethod yX1_begin ∈ lw_good := jg 140 (by decide +kernel) (by decide +kernel)
theorem se_X1_begin : Cond.selects yX1_begin.cls yX1_begin yX1_begin ∈ lw_good := jg 141 (by decide +kernel) (by decide +kernel)
theorem mc_X1_hasDeed : jmc mX1_hasDeed 1 := ⟨jg 396 (by decide +kernel) (by decide +kernel), jg 69 (by decide +kernel) (by decide +kernel), by decide +kernel, by decide +kernel, by decide⟩
theorem im_X1_hasDeed : Cond.instanceMethod yX1_hasDeed ∈ lw_good := jg 394 (by decide +kernel) (by decide +kernel)
theorem se_X1_hasDeed : Cond.selects yX1_hasDeed.cls yX1_hasDeed yX1_hasDeed ∈ lw_good := jg 395 (by decide +kernel) (by decide +kernel)
theorem mc_X1_hasDead : jmc mX1_hasDead 1 := ⟨jg 447 (by decide +kernel) (by decide +kernel), jg 69 (by decide +kernel) (by decide +kernel), by decide +kernel, by decide +kernel, by decide⟩
theorem im_X1_hasDead : Cond.instanceMethod yX1_hasDead ∈ lw_good := jg 445 (by decide +kernel) (by decide +kernel)
theorem se_X1_hasDead : Cond.selects yX1_hasDead.cls yX1_hasDead yX1_hasDead ∈ lw_good := jg 446 (by decide +kernel) (by decide +kernel)
theorem mc_X1_hasBearer : jmc mX1_hasBearer 1 := ⟨jg 492 (by decide +kernel) (by decide +kernel), jg 69 (by decide +kernel) (by decide +kernel), by decide +kernel, by decide +kernel, by decide⟩
theorem im_X1_hasBearer : Cond.instanceMethod yX1_hasBearer ∈ lw_good := jg 490 (by decide +kernel) (by decide +kernel)
theorem se_X1_hasBearer : Cond.selects yX1_hasBearer.cls yX1_hasBearer yX1_hasBearer ∈ lw_good := jg 491 (by decide +kernel) (by decide +kernel)
theorem mc_X1_addDeed : jmc mX1_addDeed 1 := ⟨jg 379 (by decide +kernel) (by decide +kernel), jg 69 (by decide +kernel) (by decide +kernel), by decide +kernel, by decide +kernel, by decide⟩
theorem im_X1_addDeed : Cond.instanceMethod yX1_addDeed ∈ lw_good := jg 377 (by decide +kernel) (by decide +kernel)
theorem se_X1_addDeed : Cond.selects yX1_addDeed.cls yX1_addDeed yX1_addDeed ∈ lw_good := jg 378 (by decide +kernel) (by decide +kernel)
theorem mc_X1_addDead : jmc mX1_addDead 3 := ⟨jg 406 (by decide +kernel) (by decide +kernel), jg 69 (by decide +kernel) (by decide +kernel), by decide +kernel, by decide +kernel, by decide⟩
theorem im_X1_addDead : Cond.instanceMethod yX1_addDead ∈ lw_good := jg 404 (by decide +kernel) (by decide +kernel)
theorem se_X1_addDead : Cond.selects yX1_addDead.cls yX1_addDead yX1_addDead ∈ lw_good := jg 405 (by decide +kernel) (by decide +kernel)
theorem mc_X1_addBearer : jmc mX1_addBearer 1 := ⟨jg 414 (by decide +kernel) (by decide +kernel), jg 69 (by decide +kernel) (by decide +kernel), by decide +kernel, by decide +kernel, by decide⟩
theorem im_X1_addBearer : Cond.instanceMethod yX1_addBearer ∈ lw_good := jg 412 (by decide +kernel) (by decide +kernel)
theorem se_X1_addBearer : Cond.selects yX1_addBearer.cls yX1_addBearer yX1_addBearer ∈ lw_good := jg 413 (by decide +kernel) (by decide +kernel)
theorem mc_X2_init : jmc mX2_init 1 := ⟨jg 101 (by decide +kernel) (by decide +kernel), jg 68 (by decide +kernel) (by decide +kernel), by decide +kernel, by decide +kernel, by decide⟩
theorem im_X2_init : Cond.instanceMethod yX2_init ∈ lw_good := jg 100 (by decide +kernel) (by decide +kernel)
theorem mc_X2_read : jmc mX2_read 2 := ⟨jg 342 (by decide +kernel) (by decide +kernel), jg 68 (by decide +kernel) (by decide +kernel), by decide +kernel, by decide +kernel, by decide⟩
theorem im_X2_read : Cond.instanceMethod yX2_read ∈ lw_good := jg 340 (by decide +kernel) (by decide +kernel)
theorem se_X2_read : Cond.selects yX2_read.cls yX2_read yX2_read ∈ lw_good := jg 341 (by decide +kernel) (by decide +kernel)
theorem mc_X2_readDeed : jmc mX2_readDeed 1 := ⟨jg 362 (by decide +kernel) (by decide +kernel), jg 68 (by decide +kernel) (by decide +kernel), by decide +kernel, by decide +kernel, by decide⟩
theorem im_X2_readDeed : Cond.instanceMethod yX2_readDeed ∈ lw_good := jg 361 (by decide +kernel) (by decide +kernel)
theorem se_X2_readDeed : Cond.selects yX2_readDeed.cls yX2_readDeed yX2_readDeed ∈ lw_good := jg 2 (by decide +kernel) (by decide +kernel)
theorem mc_X2_readDead : jmc mX2_readDead 1 := ⟨jg 384 (by decide +kernel) (by decide +kernel), jg 68 (by decide +kernel) (by decide +kernel), by decide +kernel, by decide +kernel, by decide⟩
theorem im_X2_readDead : Cond.instanceMethod yX2_readDead ∈ lw_good := jg 383 (by decide +kernel) (by decide +kernel)
theorem se_X2_readDead : Cond.selects yX2_readDead.cls yX2_readDead yX2_readDead ∈ lw_good := jg 6 (by decide +kernel) (by decide +kernel)
theorem mc_X2_readDone : jmc mX2_readDone 1 := ⟨jg 388 (by decide +kernel) (by decide +kernel), jg 68 (by decide +kernel) (by decide +kernel), by decide +kernel, by decide +kernel, by decide⟩
theorem im_X2_readDone : Cond.instanceMethod yX2_readDone ∈ lw_good := jg 387 (by decide +kernel) (by decide +kernel)
theorem se_X2_readDone : Cond.selects yX2_readDone.cls yX2_readDone yX2_readDone ∈ lw_good := jg 7 (by decide +kernel) (by decide +kernel)
theorem mc_X2_mayBeDone : jmc mX2_mayBeDone 2 := ⟨jg 392 (by decide +kernel) (by decide +kernel), jg 68 (by decide +kernel) (by decide +kernel), by decide +kernel, by decide +kernel, by decide⟩
theorem im_X2_mayBeDone : Cond.instanceMethod yX2_mayBeDone ∈ lw_good := jg 391 (by decide +kernel) (by decide +kernel)
theorem se_X2_mayBeDone : Cond.selects yX2_mayBeDone.cls yX2_mayBeDone yX2_mayBeDone ∈ lw_good := jg 8 (by decide +kernel) (by decide +kernel)
theorem mc_X2_readBearer : jmc mX2_readBearer 1 := ⟨jg 410 (by decide +kernel) (by decide +kernel), jg 68 (by decide +kernel) (by decide +kernel), by decide +kernel, by decide +kernel, by decide⟩
theorem im_X2_readBearer : Cond.instanceMethod yX2_readBearer ∈ lw_good := jg 409 (by decide +kernel) (by decide +kernel)
theorem se_X2_readBearer : Cond.selects yX2_readBearer.cls yX2_readBearer yX2_readBearer ∈ lw_good := jg 9 (by decide +kernel) (by decide +kernel)
theorem mc_X2_readPin : jmc mX2_readPin 1 := ⟨jg 418 (by decide +kernel) (by decide +kernel), jg 68 (by decide +kernel) (by decide +kernel), by decide +kernel, by decide +kernel, by decide⟩
theorem im_X2_readPin : Cond.instanceMethod yX2_readPin ∈ lw_good := jg 417 (by decide +kernel) (by decide +kernel)
theorem se_X2_readPin : Cond.selects yX2_readPin.cls yX2_readPin yX2_readPin ∈ lw_good := jg 10 (by decide +kernel) (by decide +kernel)
theorem mc_X2_readRust : jmc mX2_readRust 1 := ⟨jg 422 (by decide +kernel) (by decide +kernel), jg 68 (by decide +kernel) (by decide +kernel), by decide +kernel, by decide +kernel, by decide⟩
theorem im_X2_readRust : Cond.instanceMethod yX2_readRust ∈ lw_good := jg 421 (by decide +kernel) (by decide +kernel)
theorem se_X2_readRust : Cond.selects yX2_readRust.cls yX2_readRust yX2_readRust ∈ lw_good := jg 11 (by decide +kernel) (by decide +kernel)
theorem mc_X2_open : jmc mX2_open 1 := ⟨jg 366 (by decide +kernel) (by decide +kernel), jg 68 (by decide +kernel) (by decide +kernel), by decide +kernel, by decide +kernel, by decide⟩
theorem im_X2_open : Cond.instanceMethod yX2_open ∈ lw_good := jg 365 (by decide +kernel) (by decide +kernel)
theorem se_X2_open : Cond.selects yX2_open.cls yX2_open yX2_open ∈ lw_good := jg 3 (by decide +kernel) (by decide +kernel)
theorem mc_X2_number : jmc mX2_number 2 := ⟨jg 370 (by decide +kernel) (by decide +kernel), jg 68 (by decide +kernel) (by decide +kernel), by decide +kernel, by decide +kernel, by decide⟩
theorem im_X2_number : Cond.instanceMethod yX2_number ∈ lw_good := jg 369 (by decide +kernel) (by decide +kernel)
theorem se_X2_number : Cond.selects yX2_number.cls yX2_number yX2_number ∈ lw_good := jg 4 (by decide +kernel) (by decide +kernel)
theorem mc_X2_close : jmc mX2_close 1 := ⟨jg 375 (by decide +kernel) (by decide +kernel), jg 68 (by decide +kernel) (by decide +kernel), by decide +kernel, by decide +kernel, by decide⟩
theorem im_X2_close : Cond.instanceMethod yX2_close ∈ lw_good := jg 374 (by decide +kernel) (by decide +kernel)
theorem se_X2_close : Cond.selects yX2_close.cls yX2_close yX2_close ∈ lw_good := jg 5 (by decide +kernel) (by decide +kernel)
theorem mc_X2_step : jmc mX2_step 0 := ⟨jg 347 (by decide +kernel) (by decide +kernel), jg 68 (by decide +kernel) (by decide +kernel), by decide +kernel, by decide +kernel, by decide⟩
theorem im_X2_step : Cond.instanceMethod yX2_step ∈ lw_good := jg 346 (by decide +kernel) (by decide +kernel)
theorem se_X2_step : Cond.selects yX2_step.cls yX2_step yX2_step ∈ lw_good := jg 0 (by decide +kernel) (by decide +kernel)
theorem mc_X2_stepNumber : jmc mX2_stepNumber 0 := ⟨jg 355 (by decide +kernel) (by decide +kernel), jg 68 (by decide +kernel) (by decide +kernel), by decide +kernel, by decide +kernel, by decide⟩
theorem im_X2_stepNumber : Cond.instanceMethod yX2_stepNumber ∈ lw_good := jg 354 (by decide +kernel) (by decide +kernel)
theorem se_X2_stepNumber : Cond.selects yX2_stepNumber.cls yX2_stepNumber yX2_stepNumber ∈ lw_good := jg 1 (by decide +kernel) (by decide +kernel)
theorem mc_X2_isDigit : jmc mX2_isDigit 1 := ⟨jg 351 (by decide +kernel) (by decide +kernel), jg 68 (by decide +kernel) (by decide +kernel), by decide +kernel, by decide +kernel, by decide⟩
theorem sm_X2_isDigit : Cond.static yX2_isDigit ∈ lw_good := jg 350 (by decide +kernel) (by decide +kernel)
theorem mc_X2_isSign : jmc mX2_isSign 1 := ⟨jg 358 (by decide +kernel) (by decide +kernel), jg 68 (by decide +kernel) (by decide +kernel), by decide +kernel, by decide +kernel, by decide⟩
theorem sm_X2_isSign : Cond.static yX2_isSign ∈ lw_good := jg 357 (by decide +kernel) (by decide +kernel)
theorem mc_X3_init : jmc mX3_init 1 := ⟨jg 87 (by decide +kernel) (by decide +kernel), jg 66 (by decide +kernel) (by decide +kernel), by decide +kernel, by decide +kernel, by decide⟩
theorem im_X3_init : Cond.instanceMethod yX3_init ∈ lw_good := jg 86 (by decide +kernel) (by decide +kernel)
theorem mc_X3_at : jmc mX3_at 1 := ⟨jg 239 (by decide +kernel) (by decide +kernel), jg 66 (by decide +kernel) (by decide +kernel), by decide +kernel, by decide +kernel, by decide⟩
theorem im_X3_at : Cond.instanceMethod yX3_at ∈ lw_good := jg 237 (by decide +kernel) (by decide +kernel)
theorem se_X3_at : Cond.selects yX3_at.cls yX3_at yX3_at ∈ lw_good := jg 238 (by decide +kernel) (by decide +kernel)
theorem mc_X3_put : jmc mX3_put 2 := ⟨jg 330 (by decide +kernel) (by decide +kernel), jg 66 (by decide +kernel) (by decide +kernel), by decide +kernel, by decide +kernel, by decide⟩
theorem im_X3_put : Cond.instanceMethod yX3_put ∈ lw_good := jg 328 (by decide +kernel) (by decide +kernel)
theorem se_X3_put : Cond.selects yX3_put.cls yX3_put yX3_put ∈ lw_good := jg 329 (by decide +kernel) (by decide +kernel)
theorem mc_X3_sumOf : jmc mX3_sumOf 1 := ⟨jg 451 (by decide +kernel) (by decide +kernel), jg 66 (by decide +kernel) (by decide +kernel), by decide +kernel, by decide +kernel, by decide⟩
theorem im_X3_sumOf : Cond.instanceMethod yX3_sumOf ∈ lw_good := jg 449 (by decide +kernel) (by decide +kernel)
theorem se_X3_sumOf : Cond.selects yX3_sumOf.cls yX3_sumOf yX3_sumOf ∈ lw_good := jg 450 (by decide +kernel) (by decide +kernel)
theorem mc_X3_fill : jmc mX3_fill 1 := ⟨jg 243 (by decide +kernel) (by decide +kernel), jg 66 (by decide +kernel) (by decide +kernel), by decide +kernel, by decide +kernel, by decide⟩
theorem im_X3_fill : Cond.instanceMethod yX3_fill ∈ lw_good := jg 241 (by decide +kernel) (by decide +kernel)
theorem se_X3_fill : Cond.selects yX3_fill.cls yX3_fill yX3_fill ∈ lw_good := jg 242 (by decide +kernel) (by decide +kernel)
theorem mc_X3_copyFrom : jmc mX3_copyFrom 1 := ⟨jg 235 (by decide +kernel) (by decide +kernel), jg 66 (by decide +kernel) (by decide +kernel), by decide +kernel, by decide +kernel, by decide⟩
theorem im_X3_copyFrom : Cond.instanceMethod yX3_copyFrom ∈ lw_good := jg 233 (by decide +kernel) (by decide +kernel)
theorem se_X3_copyFrom : Cond.selects yX3_copyFrom.cls yX3_copyFrom yX3_copyFrom ∈ lw_good := jg 234 (by decide +kernel) (by decide +kernel)
theorem mc_X4_init : jmc mX4_init 0 := ⟨jg 199 (by decide +kernel) (by decide +kernel), jg 70 (by decide +kernel) (by decide +kernel), by decide +kernel, by decide +kernel, by decide⟩
theorem im_X4_init : Cond.instanceMethod yX4_init ∈ lw_good := jg 198 (by decide +kernel) (by decide +kernel)
theorem mc_X4_begin : jmc mX4_begin 1 := ⟨jg 231 (by decide +kernel) (by decide +kernel), jg 70 (by decide +kernel) (by decide +kernel), by decide +kernel, by decide +kernel, by decide⟩
theorem im_X4_begin : Cond.instanceMethod yX4_begin ∈ lw_good := jg 229 (by decide +kernel) (by decide +kernel)
theorem se_X4_begin : Cond.selects yX4_begin.cls yX4_begin yX4_begin ∈ lw_good := jg 230 (by decide +kernel) (by decide +kernel)
theorem mc_X4_copyFrom : jmc mX4_copyFrom 1 := ⟨jg 520 (by decide +kernel) (by decide +kernel), jg 70 (by decide +kernel) (by decide +kernel), by decide +kernel, by decide +kernel, by decide⟩
theorem im_X4_copyFrom : Cond.instanceMethod yX4_copyFrom ∈ lw_good := jg 518 (by decide +kernel) (by decide +kernel)
theorem se_X4_copyFrom : Cond.selects yX4_copyFrom.cls yX4_copyFrom yX4_copyFrom ∈ lw_good := jg 519 (by decide +kernel) (by decide +kernel)
theorem mc_X4_isChalked : jmc mX4_isChalked 1 := ⟨jg 483 (by decide +kernel) (by decide +kernel), jg 70 (by decide +kernel) (by decide +kernel), by decide +kernel, by decide +kernel, by decide⟩
theorem im_X4_isChalked : Cond.instanceMethod yX4_isChalked ∈ lw_good := jg 481 (by decide +kernel) (by decide +kernel)
theorem se_X4_isChalked : Cond.selects yX4_isChalked.cls yX4_isChalked yX4_isChalked ∈ lw_good := jg 482 (by decide +kernel) (by decide +kernel)
theorem mc_X5_init : jmc mX5_init 1 := ⟨jg 254 (by decide +kernel) (by decide +kernel), jg 72 (by decide +kernel) (by decide +kernel), by decide +kernel, by decide +kernel, by decide⟩
theorem im_X5_init : Cond.instanceMethod yX5_init ∈ lw_good := jg 253 (by decide +kernel) (by decide +kernel)
theorem mc_X5_has : jmc mX5_has 1 := ⟨jg 516 (by decide +kernel) (by decide +kernel), jg 72 (by decide +kernel) (by decide +kernel), by decide +kernel, by decide +kernel, by decide⟩
theorem im_X5_has : Cond.instanceMethod yX5_has ∈ lw_good := jg 515 (by decide +kernel) (by decide +kernel)
theorem se_X5_has : Cond.selects yX5_has.cls yX5_has yX5_has ∈ lw_good := jg 19 (by decide +kernel) (by decide +kernel)
theorem mc_X5_put : jmc mX5_put 2 := ⟨jg 512 (by decide +kernel) (by decide +kernel), jg 72 (by decide +kernel) (by decide +kernel), by decide +kernel, by decide +kernel, by decide⟩
theorem im_X5_put : Cond.instanceMethod yX5_put ∈ lw_good := jg 510 (by decide +kernel) (by decide +kernel)
theorem se_X5_put : Cond.selects yX5_put.cls yX5_put yX5_put ∈ lw_good := jg 511 (by decide +kernel) (by decide +kernel)
theorem mc_X5_copyTo : jmc mX5_copyTo 2 := ⟨jg 559 (by decide +kernel) (by decide +kernel), jg 72 (by decide +kernel) (by decide +kernel), by decide +kernel, by decide +kernel, by decide⟩
theorem im_X5_copyTo : Cond.instanceMethod yX5_copyTo ∈ lw_good := jg 557 (by decide +kernel) (by decide +kernel)
theorem se_X5_copyTo : Cond.selects yX5_copyTo.cls yX5_copyTo yX5_copyTo ∈ lw_good := jg 558 (by decide +kernel) (by decide +kernel)
theorem mc_X6_init : jmc mX6_init 0 := ⟨jg 79 (by decide +kernel) (by decide +kernel), jg 65 (by decide +kernel) (by decide +kernel), by decide +kernel, by decide +kernel, by decide⟩
theorem im_X6_init : Cond.instanceMethod yX6_init ∈ lw_good := jg 78 (by decide +kernel) (by decide +kernel)
theorem mc_X6_type : jmc mX6_type 1 := ⟨jg 323 (by decide +kernel) (by decide +kernel), jg 65 (by decide +kernel) (by decide +kernel), by decide +kernel, by decide +kernel, by decide⟩
theorem im_X6_type : Cond.instanceMethod yX6_type ∈ lw_good := jg 321 (by decide +kernel) (by decide +kernel)
theorem se_X6_type : Cond.selects yX6_type.cls yX6_type yX6_type ∈ lw_good := jg 322 (by decide +kernel) (by decide +kernel)
theorem mc_X6_clear : jmc mX6_clear 0 := ⟨jg 334 (by decide +kernel) (by decide +kernel), jg 65 (by decide +kernel) (by decide +kernel), by decide +kernel, by decide +kernel, by decide⟩
theorem im_X6_clear : Cond.instanceMethod yX6_clear ∈ lw_good := jg 332 (by decide +kernel) (by decide +kernel)
theorem se_X6_clear : Cond.selects yX6_clear.cls yX6_clear yX6_clear ∈ lw_good := jg 333 (by decide +kernel) (by decide +kernel)
theorem mc_X6_gate : jmc mX6_gate 0 := ⟨jg 338 (by decide +kernel) (by decide +kernel), jg 65 (by decide +kernel) (by decide +kernel), by decide +kernel, by decide +kernel, by decide⟩
theorem im_X6_gate : Cond.instanceMethod yX6_gate ∈ lw_good := jg 336 (by decide +kernel) (by decide +kernel)
theorem se_X6_gate : Cond.selects yX6_gate.cls yX6_gate yX6_gate ∈ lw_good := jg 337 (by decide +kernel) (by decide +kernel)
theorem mc_X6_deed : jmc mX6_deed 2 := ⟨jg 430 (by decide +kernel) (by decide +kernel), jg 65 (by decide +kernel) (by decide +kernel), by decide +kernel, by decide +kernel, by decide⟩
theorem im_X6_deed : Cond.instanceMethod yX6_deed ∈ lw_good := jg 428 (by decide +kernel) (by decide +kernel)
theorem se_X6_deed : Cond.selects yX6_deed.cls yX6_deed yX6_deed ∈ lw_good := jg 429 (by decide +kernel) (by decide +kernel)
theorem mc_X6_dead : jmc mX6_dead 2 := ⟨jg 443 (by decide +kernel) (by decide +kernel), jg 65 (by decide +kernel) (by decide +kernel), by decide +kernel, by decide +kernel, by decide⟩
theorem im_X6_dead : Cond.instanceMethod yX6_dead ∈ lw_good := jg 441 (by decide +kernel) (by decide +kernel)
theorem se_X6_dead : Cond.selects yX6_dead.cls yX6_dead yX6_dead ∈ lw_good := jg 442 (by decide +kernel) (by decide +kernel)
theorem mc_X6_bearer : jmc mX6_bearer 1 := ⟨jg 488 (by decide +kernel) (by decide +kernel), jg 65 (by decide +kernel) (by decide +kernel), by decide +kernel, by decide +kernel, by decide⟩
theorem im_X6_bearer : Cond.instanceMethod yX6_bearer ∈ lw_good := jg 486 (by decide +kernel) (by decide +kernel)
theorem se_X6_bearer : Cond.selects yX6_bearer.cls yX6_bearer yX6_bearer ∈ lw_good := jg 487 (by decide +kernel) (by decide +kernel)
theorem mc_X6_now : jmc mX6_now 1 := ⟨jg 496 (by decide +kernel) (by decide +kernel), jg 65 (by decide +kernel) (by decide +kernel), by decide +kernel, by decide +kernel, by decide⟩
theorem im_X6_now : Cond.instanceMethod yX6_now ∈ lw_good := jg 494 (by decide +kernel) (by decide +kernel)
theorem se_X6_now : Cond.selects yX6_now.cls yX6_now yX6_now ∈ lw_good := jg 495 (by decide +kernel) (by decide +kernel)
theorem mc_X6_lays : jmc mX6_lays 1 := ⟨jg 504 (by decide +kernel) (by decide +kernel), jg 65 (by decide +kernel) (by decide +kernel), by decide +kernel, by decide +kernel, by decide⟩
theorem im_X6_lays : Cond.instanceMethod yX6_lays ∈ lw_good := jg 502 (by decide +kernel) (by decide +kernel)
theorem se_X6_lays : Cond.selects yX6_lays.cls yX6_lays yX6_lays ∈ lw_good := jg 503 (by decide +kernel) (by decide +kernel)
theorem mc_X6_thumbs : jmc mX6_thumbs 1 := ⟨jg 525 (by decide +kernel) (by decide +kernel), jg 65 (by decide +kernel) (by decide +kernel), by decide +kernel, by decide +kernel, by decide⟩
theorem im_X6_thumbs : Cond.instanceMethod yX6_thumbs ∈ lw_good := jg 523 (by decide +kernel) (by decide +kernel)
theorem se_X6_thumbs : Cond.selects yX6_thumbs.cls yX6_thumbs yX6_thumbs ∈ lw_good := jg 524 (by decide +kernel) (by decide +kernel)
theorem mc_X6_adorns : jmc mX6_adorns 2 := ⟨jg 529 (by decide +kernel) (by decide +kernel), jg 65 (by decide +kernel) (by decide +kernel), by decide +kernel, by decide +kernel, by decide⟩
theorem im_X6_adorns : Cond.instanceMethod yX6_adorns ∈ lw_good := jg 527 (by decide +kernel) (by decide +kernel)
theorem se_X6_adorns : Cond.selects yX6_adorns.cls yX6_adorns yX6_adorns ∈ lw_good := jg 528 (by decide +kernel) (by decide +kernel)
theorem mc_X6_sins : jmc mX6_sins 2 := ⟨jg 533 (by decide +kernel) (by decide +kernel), jg 65 (by decide +kernel) (by decide +kernel), by decide +kernel, by decide +kernel, by decide⟩
theorem im_X6_sins : Cond.instanceMethod yX6_sins ∈ lw_good := jg 531 (by decide +kernel) (by decide +kernel)
theorem se_X6_sins : Cond.selects yX6_sins.cls yX6_sins yX6_sins ∈ lw_good := jg 532 (by decide +kernel) (by decide +kernel)
theorem mc_X6_oils : jmc mX6_oils 1 := ⟨jg 543 (by decide +kernel) (by decide +kernel), jg 65 (by decide +kernel) (by decide +kernel), by decide +kernel, by decide +kernel, by decide⟩
theorem im_X6_oils : Cond.instanceMethod yX6_oils ∈ lw_good := jg 541 (by decide +kernel) (by decide +kernel)
theorem se_X6_oils : Cond.selects yX6_oils.cls yX6_oils yX6_oils ∈ lw_good := jg 542 (by decide +kernel) (by decide +kernel)
theorem mc_X6_year : jmc mX6_year 0 := ⟨jg 547 (by decide +kernel) (by decide +kernel), jg 65 (by decide +kernel) (by decide +kernel), by decide +kernel, by decide +kernel, by decide⟩
theorem im_X6_year : Cond.instanceMethod yX6_year ∈ lw_good := jg 545 (by decide +kernel) (by decide +kernel)
theorem se_X6_year : Cond.selects yX6_year.cls yX6_year yX6_year ∈ lw_good := jg 546 (by decide +kernel) (by decide +kernel)
theorem mc_X6_undo : jmc mX6_undo 0 := ⟨jg 551 (by decide +kernel) (by decide +kernel), jg 65 (by decide +kernel) (by decide +kernel), by decide +kernel, by decide +kernel, by decide⟩
theorem im_X6_undo : Cond.instanceMethod yX6_undo ∈ lw_good := jg 549 (by decide +kernel) (by decide +kernel)
theorem se_X6_undo : Cond.selects yX6_undo.cls yX6_undo yX6_undo ∈ lw_good := jg 550 (by decide +kernel) (by decide +kernel)
theorem mc_X6_order : jmc mX6_order 1 := ⟨jg 563 (by decide +kernel) (by decide +kernel), jg 65 (by decide +kernel) (by decide +kernel), by decide +kernel, by decide +kernel, by decide⟩
theorem im_X6_order : Cond.instanceMethod yX6_order ∈ lw_good := jg 561 (by decide +kernel) (by decide +kernel)
theorem se_X6_order : Cond.selects yX6_order.cls yX6_order yX6_order ∈ lw_good := jg 562 (by decide +kernel) (by decide +kernel)
theorem mc_X6_tells : jmc mX6_tells 2 := ⟨jg 590 (by decide +kernel) (by decide +kernel), jg 65 (by decide +kernel) (by decide +kernel), by decide +kernel, by decide +kernel, by decide⟩
theorem im_X6_tells : Cond.instanceMethod yX6_tells ∈ lw_good := jg 588 (by decide +kernel) (by decide +kernel)
theorem se_X6_tells : Cond.selects yX6_tells.cls yX6_tells yX6_tells ∈ lw_good := jg 589 (by decide +kernel) (by decide +kernel)
theorem mc_X6_forget : jmc mX6_forget 0 := ⟨jg 594 (by decide +kernel) (by decide +kernel), jg 65 (by decide +kernel) (by decide +kernel), by decide +kernel, by decide +kernel, by decide⟩
theorem im_X6_forget : Cond.instanceMethod yX6_forget ∈ lw_good := jg 592 (by decide +kernel) (by decide +kernel)
theorem se_X6_forget : Cond.selects yX6_forget.cls yX6_forget yX6_forget ∈ lw_good := jg 593 (by decide +kernel) (by decide +kernel)
theorem mc_X6_can : jmc mX6_can 1 := ⟨jg 598 (by decide +kernel) (by decide +kernel), jg 65 (by decide +kernel) (by decide +kernel), by decide +kernel, by decide +kernel, by decide⟩
theorem im_X6_can : Cond.instanceMethod yX6_can ∈ lw_good := jg 596 (by decide +kernel) (by decide +kernel)
theorem se_X6_can : Cond.selects yX6_can.cls yX6_can yX6_can ∈ lw_good := jg 597 (by decide +kernel) (by decide +kernel)
theorem mc_X6_ask : jmc mX6_ask 0 := ⟨jg 618 (by decide +kernel) (by decide +kernel), jg 65 (by decide +kernel) (by decide +kernel), by decide +kernel, by decide +kernel, by decide⟩
theorem im_X6_ask : Cond.instanceMethod yX6_ask ∈ lw_good := jg 616 (by decide +kernel) (by decide +kernel)
theorem se_X6_ask : Cond.selects yX6_ask.cls yX6_ask yX6_ask ∈ lw_good := jg 617 (by decide +kernel) (by decide +kernel)
theorem mc_X6_life : jmc mX6_life 2 := ⟨jg 622 (by decide +kernel) (by decide +kernel), jg 65 (by decide +kernel) (by decide +kernel), by decide +kernel, by decide +kernel, by decide⟩
theorem im_X6_life : Cond.instanceMethod yX6_life ∈ lw_good := jg 620 (by decide +kernel) (by decide +kernel)
theorem se_X6_life : Cond.selects yX6_life.cls yX6_life yX6_life ∈ lw_good := jg 621 (by decide +kernel) (by decide +kernel)
theorem mc_X6_carry : jmc mX6_carry 2 := ⟨jg 626 (by decide +kernel) (by decide +kernel), jg 65 (by decide +kernel) (by decide +kernel), by decide +kernel, by decide +kernel, by decide⟩
theorem im_X6_carry : Cond.instanceMethod yX6_carry ∈ lw_good := jg 624 (by decide +kernel) (by decide +kernel)
theorem se_X6_carry : Cond.selects yX6_carry.cls yX6_carry yX6_carry ∈ lw_good := jg 625 (by decide +kernel) (by decide +kernel)
theorem mc_X6_odds : jmc mX6_odds 3 := ⟨jg 655 (by decide +kernel) (by decide +kernel), jg 65 (by decide +kernel) (by decide +kernel), by decide +kernel, by decide +kernel, by decide⟩
theorem im_X6_odds : Cond.instanceMethod yX6_odds ∈ lw_good := jg 653 (by decide +kernel) (by decide +kernel)
theorem se_X6_odds : Cond.selects yX6_odds.cls yX6_odds yX6_odds ∈ lw_good := jg 654 (by decide +kernel) (by decide +kernel)
theorem mc_X6_rate : jmc mX6_rate 2 := ⟨jg 669 (by decide +kernel) (by decide +kernel), jg 65 (by decide +kernel) (by decide +kernel), by decide +kernel, by decide +kernel, by decide⟩
theorem im_X6_rate : Cond.instanceMethod yX6_rate ∈ lw_good := jg 667 (by decide +kernel) (by decide +kernel)
theorem se_X6_rate : Cond.selects yX6_rate.cls yX6_rate yX6_rate ∈ lw_good := jg 668 (by decide +kernel) (by decide +kernel)
theorem mc_X6_keep : jmc mX6_keep 1 := ⟨jg 702 (by decide +kernel) (by decide +kernel), jg 65 (by decide +kernel) (by decide +kernel), by decide +kernel, by decide +kernel, by decide⟩
theorem im_X6_keep : Cond.instanceMethod yX6_keep ∈ lw_good := jg 700 (by decide +kernel) (by decide +kernel)
theorem se_X6_keep : Cond.selects yX6_keep.cls yX6_keep yX6_keep ∈ lw_good := jg 701 (by decide +kernel) (by decide +kernel)
theorem mc_X6_back : jmc mX6_back 1 := ⟨jg 707 (by decide +kernel) (by decide +kernel), jg 65 (by decide +kernel) (by decide +kernel), by decide +kernel, by decide +kernel, by decide⟩
theorem im_X6_back : Cond.instanceMethod yX6_back ∈ lw_good := jg 705 (by decide +kernel) (by decide +kernel)
theorem se_X6_back : Cond.selects yX6_back.cls yX6_back yX6_back ∈ lw_good := jg 706 (by decide +kernel) (by decide +kernel)
theorem mc_X6_count : jmc mX6_count 1 := ⟨jg 712 (by decide +kernel) (by decide +kernel), jg 65 (by decide +kernel) (by decide +kernel), by decide +kernel, by decide +kernel, by decide⟩
theorem im_X6_count : Cond.instanceMethod yX6_count ∈ lw_good := jg 710 (by decide +kernel) (by decide +kernel)
theorem se_X6_count : Cond.selects yX6_count.cls yX6_count yX6_count ∈ lw_good := jg 711 (by decide +kernel) (by decide +kernel)
theorem mc_X6_trace : jmc mX6_trace 0 := ⟨jg 716 (by decide +kernel) (by decide +kernel), jg 65 (by decide +kernel) (by decide +kernel), by decide +kernel, by decide +kernel, by decide⟩
theorem im_X6_trace : Cond.instanceMethod yX6_trace ∈ lw_good := jg 714 (by decide +kernel) (by decide +kernel)
theorem se_X6_trace : Cond.selects yX6_trace.cls yX6_trace yX6_trace ∈ lw_good := jg 715 (by decide +kernel) (by decide +kernel)
theorem mc_X6_isWithin : jmc mX6_isWithin 3 := ⟨jg 326 (by decide +kernel) (by decide +kernel), jg 65 (by decide +kernel) (by decide +kernel), by decide +kernel, by decide +kernel, by decide⟩
theorem sm_X6_isWithin : Cond.static yX6_isWithin ∈ lw_good := jg 325 (by decide +kernel) (by decide +kernel)
theorem mc_X6_bit : jmc mX6_bit 1 := ⟨jg 402 (by decide +kernel) (by decide +kernel), jg 65 (by decide +kernel) (by decide +kernel), by decide +kernel, by decide +kernel, by decide⟩
theorem sm_X6_bit : Cond.static yX6_bit ∈ lw_good := jg 401 (by decide +kernel) (by decide +kernel)
theorem mc_X6_isIn : jmc mX6_isIn 2 := ⟨jg 399 (by decide +kernel) (by decide +kernel), jg 65 (by decide +kernel) (by decide +kernel), by decide +kernel, by decide +kernel, by decide⟩
theorem sm_X6_isIn : Cond.static yX6_isIn ∈ lw_good := jg 398 (by decide +kernel) (by decide +kernel)
theorem mc_X6_allOf : jmc mX6_allOf 1 := ⟨jg 566 (by decide +kernel) (by decide +kernel), jg 65 (by decide +kernel) (by decide +kernel), by decide +kernel, by decide +kernel, by decide⟩
theorem sm_X6_allOf : Cond.static yX6_allOf ∈ lw_good := jg 565 (by decide +kernel) (by decide +kernel)
theorem mc_X6_power : jmc mX6_power 2 := ⟨jg 662 (by decide +kernel) (by decide +kernel), jg 65 (by decide +kernel) (by decide +kernel), by decide +kernel, by decide +kernel, by decide⟩
theorem sm_X6_power : Cond.static yX6_power ∈ lw_good := jg 661 (by decide +kernel) (by decide +kernel)
theorem mc_X6_commonDivisor : jmc mX6_commonDivisor 2 := ⟨jg 665 (by decide +kernel) (by decide +kernel), jg 65 (by decide +kernel) (by decide +kernel), by decide +kernel, by decide +kernel, by decide⟩
theorem sm_X6_commonDivisor : Cond.static yX6_commonDivisor ∈ lw_good := jg 664 (by decide +kernel) (by decide +kernel)
theorem mc_X6_needleBy : jmc mX6_needleBy 2 := ⟨jg 472 (by decide +kernel) (by decide +kernel), jg 65 (by decide +kernel) (by decide +kernel), by decide +kernel, by decide +kernel, by decide⟩
theorem im_X6_needleBy : Cond.instanceMethod yX6_needleBy ∈ lw_good := jg 471 (by decide +kernel) (by decide +kernel)
theorem se_X6_needleBy : Cond.selects yX6_needleBy.cls yX6_needleBy yX6_needleBy ∈ lw_good := jg 16 (by decide +kernel) (by decide +kernel)
theorem mc_X6_burdenOf : jmc mX6_burdenOf 1 := ⟨jg 460 (by decide +kernel) (by decide +kernel), jg 65 (by decide +kernel) (by decide +kernel), by decide +kernel, by decide +kernel, by decide⟩
theorem im_X6_burdenOf : Cond.instanceMethod yX6_burdenOf ∈ lw_good := jg 459 (by decide +kernel) (by decide +kernel)
theorem se_X6_burdenOf : Cond.selects yX6_burdenOf.cls yX6_burdenOf yX6_burdenOf ∈ lw_good := jg 14 (by decide +kernel) (by decide +kernel)
theorem mc_X6_loadBy : jmc mX6_loadBy 2 := ⟨jg 463 (by decide +kernel) (by decide +kernel), jg 65 (by decide +kernel) (by decide +kernel), by decide +kernel, by decide +kernel, by decide⟩
theorem sm_X6_loadBy : Cond.static yX6_loadBy ∈ lw_good := jg 462 (by decide +kernel) (by decide +kernel)
theorem mc_X6_loadOf : jmc mX6_loadOf 1 := ⟨jg 456 (by decide +kernel) (by decide +kernel), jg 65 (by decide +kernel) (by decide +kernel), by decide +kernel, by decide +kernel, by decide⟩
theorem im_X6_loadOf : Cond.instanceMethod yX6_loadOf ∈ lw_good := jg 455 (by decide +kernel) (by decide +kernel)
theorem se_X6_loadOf : Cond.selects yX6_loadOf.cls yX6_loadOf yX6_loadOf ∈ lw_good := jg 13 (by decide +kernel) (by decide +kernel)
theorem mc_X6_readingOf : jmc mX6_readingOf 1 := ⟨jg 468 (by decide +kernel) (by decide +kernel), jg 65 (by decide +kernel) (by decide +kernel), by decide +kernel, by decide +kernel, by decide⟩
theorem im_X6_readingOf : Cond.instanceMethod yX6_readingOf ∈ lw_good := jg 467 (by decide +kernel) (by decide +kernel)
theorem se_X6_readingOf : Cond.selects yX6_readingOf.cls yX6_readingOf yX6_readingOf ∈ lw_good := jg 15 (by decide +kernel) (by decide +kernel)
theorem mc_X6_errorOf : jmc mX6_errorOf 1 := ⟨jg 479 (by decide +kernel) (by decide +kernel), jg 65 (by decide +kernel) (by decide +kernel), by decide +kernel, by decide +kernel, by decide⟩
theorem im_X6_errorOf : Cond.instanceMethod yX6_errorOf ∈ lw_good := jg 478 (by decide +kernel) (by decide +kernel)
theorem se_X6_errorOf : Cond.selects yX6_errorOf.cls yX6_errorOf yX6_errorOf ∈ lw_good := jg 17 (by decide +kernel) (by decide +kernel)
theorem mc_X6_whoIsChalked : jmc mX6_whoIsChalked 0 := ⟨jg 500 (by decide +kernel) (by decide +kernel), jg 65 (by decide +kernel) (by decide +kernel), by decide +kernel, by decide +kernel, by decide⟩
theorem im_X6_whoIsChalked : Cond.instanceMethod yX6_whoIsChalked ∈ lw_good := jg 499 (by decide +kernel) (by decide +kernel)
theorem se_X6_whoIsChalked : Cond.selects yX6_whoIsChalked.cls yX6_whoIsChalked yX6_whoIsChalked ∈ lw_good := jg 18 (by decide +kernel) (by decide +kernel)
theorem mc_X6_whoDid : jmc mX6_whoDid 1 := ⟨jg 437 (by decide +kernel) (by decide +kernel), jg 65 (by decide +kernel) (by decide +kernel), by decide +kernel, by decide +kernel, by decide⟩
theorem im_X6_whoDid : Cond.instanceMethod yX6_whoDid ∈ lw_good := jg 436 (by decide +kernel) (by decide +kernel)
theorem se_X6_whoDid : Cond.selects yX6_whoDid.cls yX6_whoDid yX6_whoDid ∈ lw_good := jg 12 (by decide +kernel) (by decide +kernel)
theorem mc_X6_leastError : jmc mX6_leastError 4 := ⟨jg 570 (by decide +kernel) (by decide +kernel), jg 65 (by decide +kernel) (by decide +kernel), by decide +kernel, by decide +kernel, by decide⟩
theorem im_X6_leastError : Cond.instanceMethod yX6_leastError ∈ lw_good := jg 569 (by decide +kernel) (by decide +kernel)
theorem se_X6_leastError : Cond.selects yX6_leastError.cls yX6_leastError yX6_leastError ∈ lw_good := jg 20 (by decide +kernel) (by decide +kernel)
theorem mc_X6_leastErrorFrom : jmc mX6_leastErrorFrom 5 := ⟨jg 575 (by decide +kernel) (by decide +kernel), jg 65 (by decide +kernel) (by decide +kernel), by decide +kernel, by decide +kernel, by decide⟩
theorem im_X6_leastErrorFrom : Cond.instanceMethod yX6_leastErrorFrom ∈ lw_good := jg 574 (by decide +kernel) (by decide +kernel)
theorem se_X6_leastErrorFrom : Cond.selects yX6_leastErrorFrom.cls yX6_leastErrorFrom yX6_leastErrorFrom ∈ lw_good := jg 21 (by decide +kernel) (by decide +kernel)
theorem mc_X6_inOrder : jmc mX6_inOrder 2 := ⟨jg 582 (by decide +kernel) (by decide +kernel), jg 65 (by decide +kernel) (by decide +kernel), by decide +kernel, by decide +kernel, by decide⟩
theorem im_X6_inOrder : Cond.instanceMethod yX6_inOrder ∈ lw_good := jg 581 (by decide +kernel) (by decide +kernel)
theorem se_X6_inOrder : Cond.selects yX6_inOrder.cls yX6_inOrder yX6_inOrder ∈ lw_good := jg 22 (by decide +kernel) (by decide +kernel)
theorem mc_X6_bestNext : jmc mX6_bestNext 4 := ⟨jg 586 (by decide +kernel) (by decide +kernel), jg 65 (by decide +kernel) (by decide +kernel), by decide +kernel, by decide +kernel, by decide⟩
theorem im_X6_bestNext : Cond.instanceMethod yX6_bestNext ∈ lw_good := jg 585 (by decide +kernel) (by decide +kernel)
theorem se_X6_bestNext : Cond.selects yX6_bestNext.cls yX6_bestNext yX6_bestNext ∈ lw_good := jg 23 (by decide +kernel) (by decide +kernel)
theorem mc_X6_explainsAll : jmc mX6_explainsAll 1 := ⟨jg 606 (by decide +kernel) (by decide +kernel), jg 65 (by decide +kernel) (by decide +kernel), by decide +kernel, by decide +kernel, by decide⟩
theorem im_X6_explainsAll : Cond.instanceMethod yX6_explainsAll ∈ lw_good := jg 605 (by decide +kernel) (by decide +kernel)
theorem se_X6_explainsAll : Cond.selects yX6_explainsAll.cls yX6_explainsAll yX6_explainsAll ∈ lw_good := jg 25 (by decide +kernel) (by decide +kernel)
theorem mc_X6_setsWith : jmc mX6_setsWith 1 := ⟨jg 602 (by decide +kernel) (by decide +kernel), jg 65 (by decide +kernel) (by decide +kernel), by decide +kernel, by decide +kernel, by decide⟩
theorem im_X6_setsWith : Cond.instanceMethod yX6_setsWith ∈ lw_good := jg 601 (by decide +kernel) (by decide +kernel)
theorem se_X6_setsWith : Cond.selects yX6_setsWith.cls yX6_setsWith yX6_setsWith ∈ lw_good := jg 24 (by decide +kernel) (by decide +kernel)
theorem mc_X6_deedsInAllSets : jmc mX6_deedsInAllSets 0 := ⟨jg 610 (by decide +kernel) (by decide +kernel), jg 65 (by decide +kernel) (by decide +kernel), by decide +kernel, by decide +kernel, by decide⟩
theorem im_X6_deedsInAllSets : Cond.instanceMethod yX6_deedsInAllSets ∈ lw_good := jg 609 (by decide +kernel) (by decide +kernel)
theorem se_X6_deedsInAllSets : Cond.selects yX6_deedsInAllSets.cls yX6_deedsInAllSets yX6_deedsInAllSets ∈ lw_good := jg 26 (by decide +kernel) (by decide +kernel)
theorem mc_X6_deedsInSomeSets : jmc mX6_deedsInSomeSets 0 := ⟨jg 614 (by decide +kernel) (by decide +kernel), jg 65 (by decide +kernel) (by decide +kernel), by decide +kernel, by decide +kernel, by decide⟩
theorem im_X6_deedsInSomeSets : Cond.instanceMethod yX6_deedsInSomeSets ∈ lw_good := jg 613 (by decide +kernel) (by decide +kernel)
theorem se_X6_deedsInSomeSets : Cond.selects yX6_deedsInSomeSets.cls yX6_deedsInSomeSets yX6_deedsInSomeSets ∈ lw_good := jg 27 (by decide +kernel) (by decide +kernel)
theorem mc_X6_wayOf : jmc mX6_wayOf 2 := ⟨jg 637 (by decide +kernel) (by decide +kernel), jg 65 (by decide +kernel) (by decide +kernel), by decide +kernel, by decide +kernel, by decide⟩
theorem sm_X6_wayOf : Cond.static yX6_wayOf ∈ lw_good := jg 636 (by decide +kernel) (by decide +kernel)
theorem mc_X6_fourOf : jmc mX6_fourOf 1 := ⟨jg 651 (by decide +kernel) (by decide +kernel), jg 65 (by decide +kernel) (by decide +kernel), by decide +kernel, by decide +kernel, by decide⟩
theorem sm_X6_fourOf : Cond.static yX6_fourOf ∈ lw_good := jg 650 (by decide +kernel) (by decide +kernel)
theorem mc_X6_leftOf : jmc mX6_leftOf 1 := ⟨jg 648 (by decide +kernel) (by decide +kernel), jg 65 (by decide +kernel) (by decide +kernel), by decide +kernel, by decide +kernel, by decide⟩
theorem sm_X6_leftOf : Cond.static yX6_leftOf ∈ lw_good := jg 647 (by decide +kernel) (by decide +kernel)
theorem mc_X6_unevenness : jmc mX6_unevenness 1 := ⟨jg 645 (by decide +kernel) (by decide +kernel), jg 65 (by decide +kernel) (by decide +kernel), by decide +kernel, by decide +kernel, by decide⟩
theorem im_X6_unevenness : Cond.instanceMethod yX6_unevenness ∈ lw_good := jg 644 (by decide +kernel) (by decide +kernel)
theorem se_X6_unevenness : Cond.selects yX6_unevenness.cls yX6_unevenness yX6_unevenness ∈ lw_good := jg 31 (by decide +kernel) (by decide +kernel)
theorem mc_X6_isBetter : jmc mX6_isBetter 2 := ⟨jg 641 (by decide +kernel) (by decide +kernel), jg 65 (by decide +kernel) (by decide +kernel), by decide +kernel, by decide +kernel, by decide⟩
theorem im_X6_isBetter : Cond.instanceMethod yX6_isBetter ∈ lw_good := jg 640 (by decide +kernel) (by decide +kernel)
theorem se_X6_isBetter : Cond.selects yX6_isBetter.cls yX6_isBetter yX6_isBetter ∈ lw_good := jg 30 (by decide +kernel) (by decide +kernel)
theorem mc_X6_bestWay : jmc mX6_bestWay 1 := ⟨jg 630 (by decide +kernel) (by decide +kernel), jg 65 (by decide +kernel) (by decide +kernel), by decide +kernel, by decide +kernel, by decide⟩
theorem im_X6_bestWay : Cond.instanceMethod yX6_bestWay ∈ lw_good := jg 629 (by decide +kernel) (by decide +kernel)
theorem se_X6_bestWay : Cond.selects yX6_bestWay.cls yX6_bestWay yX6_bestWay ∈ lw_good := jg 28 (by decide +kernel) (by decide +kernel)
theorem mc_X6_betterWay : jmc mX6_betterWay 2 := ⟨jg 634 (by decide +kernel) (by decide +kernel), jg 65 (by decide +kernel) (by decide +kernel), by decide +kernel, by decide +kernel, by decide⟩
theorem im_X6_betterWay : Cond.instanceMethod yX6_betterWay ∈ lw_good := jg 633 (by decide +kernel) (by decide +kernel)
theorem se_X6_betterWay : Cond.selects yX6_betterWay.cls yX6_betterWay yX6_betterWay ∈ lw_good := jg 29 (by decide +kernel) (by decide +kernel)
theorem mc_X6_partLeaning : jmc mX6_partLeaning 2 := ⟨jg 659 (by decide +kernel) (by decide +kernel), jg 65 (by decide +kernel) (by decide +kernel), by decide +kernel, by decide +kernel, by decide⟩
theorem im_X6_partLeaning : Cond.instanceMethod yX6_partLeaning ∈ lw_good := jg 658 (by decide +kernel) (by decide +kernel)
theorem se_X6_partLeaning : Cond.selects yX6_partLeaning.cls yX6_partLeaning yX6_partLeaning ∈ lw_good := jg 32 (by decide +kernel) (by decide +kernel)
theorem mc_X6_rateAsDeed : jmc mX6_rateAsDeed 1 := ⟨jg 673 (by decide +kernel) (by decide +kernel), jg 65 (by decide +kernel) (by decide +kernel), by decide +kernel, by decide +kernel, by decide⟩
theorem im_X6_rateAsDeed : Cond.instanceMethod yX6_rateAsDeed ∈ lw_good := jg 672 (by decide +kernel) (by decide +kernel)
theorem se_X6_rateAsDeed : Cond.selects yX6_rateAsDeed.cls yX6_rateAsDeed yX6_rateAsDeed ∈ lw_good := jg 33 (by decide +kernel) (by decide +kernel)
theorem mc_X6_rateAsDebt : jmc mX6_rateAsDebt 1 := ⟨jg 677 (by decide +kernel) (by decide +kernel), jg 65 (by decide +kernel) (by decide +kernel), by decide +kernel, by decide +kernel, by decide⟩
theorem im_X6_rateAsDebt : Cond.instanceMethod yX6_rateAsDebt ∈ lw_good := jg 676 (by decide +kernel) (by decide +kernel)
theorem se_X6_rateAsDebt : Cond.selects yX6_rateAsDebt.cls yX6_rateAsDebt yX6_rateAsDebt ∈ lw_good := jg 34 (by decide +kernel) (by decide +kernel)
theorem mc_X6_rateAsLie : jmc mX6_rateAsLie 1 := ⟨jg 682 (by decide +kernel) (by decide +kernel), jg 65 (by decide +kernel) (by decide +kernel), by decide +kernel, by decide +kernel, by decide⟩
theorem im_X6_rateAsLie : Cond.instanceMethod yX6_rateAsLie ∈ lw_good := jg 681 (by decide +kernel) (by decide +kernel)
theorem se_X6_rateAsLie : Cond.selects yX6_rateAsLie.cls yX6_rateAsLie yX6_rateAsLie ∈ lw_good := jg 35 (by decide +kernel) (by decide +kernel)
theorem mc_X6_rateAsOath : jmc mX6_rateAsOath 1 := ⟨jg 687 (by decide +kernel) (by decide +kernel), jg 65 (by decide +kernel) (by decide +kernel), by decide +kernel, by decide +kernel, by decide⟩
theorem im_X6_rateAsOath : Cond.instanceMethod yX6_rateAsOath ∈ lw_good := jg 686 (by decide +kernel) (by decide +kernel)
theorem se_X6_rateAsOath : Cond.selects yX6_rateAsOath.cls yX6_rateAsOath yX6_rateAsOath ∈ lw_good := jg 36 (by decide +kernel) (by decide +kernel)
theorem mc_X6_rateAsKiss : jmc mX6_rateAsKiss 1 := ⟨jg 692 (by decide +kernel) (by decide +kernel), jg 65 (by decide +kernel) (by decide +kernel), by decide +kernel, by decide +kernel, by decide⟩
theorem im_X6_rateAsKiss : Cond.instanceMethod yX6_rateAsKiss ∈ lw_good := jg 691 (by decide +kernel) (by decide +kernel)
theorem se_X6_rateAsKiss : Cond.selects yX6_rateAsKiss.cls yX6_rateAsKiss yX6_rateAsKiss ∈ lw_good := jg 37 (by decide +kernel) (by decide +kernel)
theorem mc_X6_rateAsTheft : jmc mX6_rateAsTheft 1 := ⟨jg 697 (by decide +kernel) (by decide +kernel), jg 65 (by decide +kernel) (by decide +kernel), by decide +kernel, by decide +kernel, by decide⟩
theorem im_X6_rateAsTheft : Cond.instanceMethod yX6_rateAsTheft ∈ lw_good := jg 696 (by decide +kernel) (by decide +kernel)
theorem se_X6_rateAsTheft : Cond.selects yX6_rateAsTheft.cls yX6_rateAsTheft yX6_rateAsTheft ∈ lw_good := jg 38 (by decide +kernel) (by decide +kernel)
theorem mc_X7_init : jmc mX7_init 0 := ⟨jg 721 (by decide +kernel) (by decide +kernel), jg 73 (by decide +kernel) (by decide +kernel), by decide +kernel, by decide +kernel, by decide⟩
theorem im_X7_init : Cond.instanceMethod yX7_init ∈ lw_good := jg 720 (by decide +kernel) (by decide +kernel)
theorem mc_X7_in : jmc mX7_in 3 := ⟨jg 842 (by decide +kernel) (by decide +kernel), jg 73 (by decide +kernel) (by decide +kernel), by decide +kernel, by decide +kernel, by decide⟩
theorem sm_X7_in : Cond.static yX7_in ∈ lw_good := jg 841 (by decide +kernel) (by decide +kernel)
theorem mc_X7_has : jmc mX7_has 2 := ⟨jg 884 (by decide +kernel) (by decide +kernel), jg 73 (by decide +kernel) (by decide +kernel), by decide +kernel, by decide +kernel, by decide⟩
theorem sm_X7_has : Cond.static yX7_has ∈ lw_good := jg 883 (by decide +kernel) (by decide +kernel)
theorem mc_X7_bits : jmc mX7_bits 1 := ⟨jg 975 (by decide +kernel) (by decide +kernel), jg 73 (by decide +kernel) (by decide +kernel), by decide +kernel, by decide +kernel, by decide⟩
theorem sm_X7_bits : Cond.static yX7_bits ∈ lw_good := jg 974 (by decide +kernel) (by decide +kernel)
theorem mc_X7_size : jmc mX7_size 1 := ⟨jg 1005 (by decide +kernel) (by decide +kernel), jg 73 (by decide +kernel) (by decide +kernel), by decide +kernel, by decide +kernel, by decide⟩
theorem sm_X7_size : Cond.static yX7_size ∈ lw_good := jg 1004 (by decide +kernel) (by decide +kernel)
theorem mc_X7_isDeed : jmc mX7_isDeed 1 := ⟨jg 896 (by decide +kernel) (by decide +kernel), jg 73 (by decide +kernel) (by decide +kernel), by decide +kernel, by decide +kernel, by decide⟩
theorem im_X7_isDeed : Cond.instanceMethod yX7_isDeed ∈ lw_good := jg 895 (by decide +kernel) (by decide +kernel)
theorem se_X7_isDeed : Cond.selects yX7_isDeed.cls yX7_isDeed yX7_isDeed ∈ lw_good := jg 47 (by decide +kernel) (by decide +kernel)
theorem mc_X7_isDead : jmc mX7_isDead 1 := ⟨jg 909 (by decide +kernel) (by decide +kernel), jg 73 (by decide +kernel) (by decide +kernel), by decide +kernel, by decide +kernel, by decide⟩
theorem im_X7_isDead : Cond.instanceMethod yX7_isDead ∈ lw_good := jg 908 (by decide +kernel) (by decide +kernel)
theorem se_X7_isDead : Cond.selects yX7_isDead.cls yX7_isDead yX7_isDead ∈ lw_good := jg 49 (by decide +kernel) (by decide +kernel)
theorem mc_X7_copy : jmc mX7_copy 4 := ⟨jg 916 (by decide +kernel) (by decide +kernel), jg 73 (by decide +kernel) (by decide +kernel), by decide +kernel, by decide +kernel, by decide⟩
theorem sm_X7_copy : Cond.static yX7_copy ∈ lw_good := jg 915 (by decide +kernel) (by decide +kernel)
theorem mc_X7_type : jmc mX7_type 1 := ⟨jg 839 (by decide +kernel) (by decide +kernel), jg 73 (by decide +kernel) (by decide +kernel), by decide +kernel, by decide +kernel, by decide⟩
theorem im_X7_type : Cond.instanceMethod yX7_type ∈ lw_good := jg 837 (by decide +kernel) (by decide +kernel)
theorem se_X7_type : Cond.selects yX7_type.cls yX7_type yX7_type ∈ lw_good := jg 838 (by decide +kernel) (by decide +kernel)
theorem mc_X7_clear : jmc mX7_clear 0 := ⟨jg 846 (by decide +kernel) (by decide +kernel), jg 73 (by decide +kernel) (by decide +kernel), by decide +kernel, by decide +kernel, by decide⟩
theorem im_X7_clear : Cond.instanceMethod yX7_clear ∈ lw_good := jg 844 (by decide +kernel) (by decide +kernel)
theorem se_X7_clear : Cond.selects yX7_clear.cls yX7_clear yX7_clear ∈ lw_good := jg 845 (by decide +kernel) (by decide +kernel)
theorem mc_X7_letterAt : jmc mX7_letterAt 1 := ⟨jg 858 (by decide +kernel) (by decide +kernel), jg 73 (by decide +kernel) (by decide +kernel), by decide +kernel, by decide +kernel, by decide⟩
theorem im_X7_letterAt : Cond.instanceMethod yX7_letterAt ∈ lw_good := jg 857 (by decide +kernel) (by decide +kernel)
theorem se_X7_letterAt : Cond.selects yX7_letterAt.cls yX7_letterAt yX7_letterAt ∈ lw_good := jg 40 (by decide +kernel) (by decide +kernel)
theorem mc_X7_isFigure : jmc mX7_isFigure 1 := ⟨jg 861 (by decide +kernel) (by decide +kernel), jg 73 (by decide +kernel) (by decide +kernel), by decide +kernel, by decide +kernel, by decide⟩
theorem sm_X7_isFigure : Cond.static yX7_isFigure ∈ lw_good := jg 860 (by decide +kernel) (by decide +kernel)
theorem mc_X7_next : jmc mX7_next 0 := ⟨jg 854 (by decide +kernel) (by decide +kernel), jg 73 (by decide +kernel) (by decide +kernel), by decide +kernel, by decide +kernel, by decide⟩
theorem im_X7_next : Cond.instanceMethod yX7_next ∈ lw_good := jg 853 (by decide +kernel) (by decide +kernel)
theorem se_X7_next : Cond.selects yX7_next.cls yX7_next yX7_next ∈ lw_good := jg 39 (by decide +kernel) (by decide +kernel)
theorem mc_X7_takesNumber : jmc mX7_takesNumber 2 := ⟨jg 877 (by decide +kernel) (by decide +kernel), jg 73 (by decide +kernel) (by decide +kernel), by decide +kernel, by decide +kernel, by decide⟩
theorem im_X7_takesNumber : Cond.instanceMethod yX7_takesNumber ∈ lw_good := jg 876 (by decide +kernel) (by decide +kernel)
theorem se_X7_takesNumber : Cond.selects yX7_takesNumber.cls yX7_takesNumber yX7_takesNumber ∈ lw_good := jg 44 (by decide +kernel) (by decide +kernel)
theorem mc_X7_readDead : jmc mX7_readDead 0 := ⟨jg 881 (by decide +kernel) (by decide +kernel), jg 73 (by decide +kernel) (by decide +kernel), by decide +kernel, by decide +kernel, by decide⟩
theorem im_X7_readDead : Cond.instanceMethod yX7_readDead ∈ lw_good := jg 880 (by decide +kernel) (by decide +kernel)
theorem se_X7_readDead : Cond.selects yX7_readDead.cls yX7_readDead yX7_readDead ∈ lw_good := jg 45 (by decide +kernel) (by decide +kernel)
theorem mc_X7_mayBegin : jmc mX7_mayBegin 1 := ⟨jg 869 (by decide +kernel) (by decide +kernel), jg 73 (by decide +kernel) (by decide +kernel), by decide +kernel, by decide +kernel, by decide⟩
theorem im_X7_mayBegin : Cond.instanceMethod yX7_mayBegin ∈ lw_good := jg 868 (by decide +kernel) (by decide +kernel)
theorem se_X7_mayBegin : Cond.selects yX7_mayBegin.cls yX7_mayBegin yX7_mayBegin ∈ lw_good := jg 42 (by decide +kernel) (by decide +kernel)
theorem mc_X7_readBody : jmc mX7_readBody 1 := ⟨jg 873 (by decide +kernel) (by decide +kernel), jg 73 (by decide +kernel) (by decide +kernel), by decide +kernel, by decide +kernel, by decide⟩
theorem im_X7_readBody : Cond.instanceMethod yX7_readBody ∈ lw_good := jg 872 (by decide +kernel) (by decide +kernel)
theorem se_X7_readBody : Cond.selects yX7_readBody.cls yX7_readBody yX7_readBody ∈ lw_good := jg 43 (by decide +kernel) (by decide +kernel)
theorem mc_X7_readItem : jmc mX7_readItem 0 := ⟨jg 865 (by decide +kernel) (by decide +kernel), jg 73 (by decide +kernel) (by decide +kernel), by decide +kernel, by decide +kernel, by decide⟩
theorem im_X7_readItem : Cond.instanceMethod yX7_readItem ∈ lw_good := jg 864 (by decide +kernel) (by decide +kernel)
theorem se_X7_readItem : Cond.selects yX7_readItem.cls yX7_readItem yX7_readItem ∈ lw_good := jg 41 (by decide +kernel) (by decide +kernel)
theorem mc_X7_gate : jmc mX7_gate 0 := ⟨jg 850 (by decide +kernel) (by decide +kernel), jg 73 (by decide +kernel) (by decide +kernel), by decide +kernel, by decide +kernel, by decide⟩
theorem im_X7_gate : Cond.instanceMethod yX7_gate ∈ lw_good := jg 848 (by decide +kernel) (by decide +kernel)
theorem se_X7_gate : Cond.selects yX7_gate.cls yX7_gate yX7_gate ∈ lw_good := jg 849 (by decide +kernel) (by decide +kernel)
theorem mc_X7_settles : jmc mX7_settles 0 := ⟨jg 888 (by decide +kernel) (by decide +kernel), jg 73 (by decide +kernel) (by decide +kernel), by decide +kernel, by decide +kernel, by decide⟩
theorem im_X7_settles : Cond.instanceMethod yX7_settles ∈ lw_good := jg 887 (by decide +kernel) (by decide +kernel)
theorem se_X7_settles : Cond.selects yX7_settles.cls yX7_settles yX7_settles ∈ lw_good := jg 46 (by decide +kernel) (by decide +kernel)
theorem mc_X7_asItIs : jmc mX7_asItIs 0 := ⟨jg 913 (by decide +kernel) (by decide +kernel), jg 73 (by decide +kernel) (by decide +kernel), by decide +kernel, by decide +kernel, by decide⟩
theorem im_X7_asItIs : Cond.instanceMethod yX7_asItIs ∈ lw_good := jg 912 (by decide +kernel) (by decide +kernel)
theorem se_X7_asItIs : Cond.selects yX7_asItIs.cls yX7_asItIs yX7_asItIs ∈ lw_good := jg 50 (by decide +kernel) (by decide +kernel)
theorem mc_X7_weightOf : jmc mX7_weightOf 1 := ⟨jg 920 (by decide +kernel) (by decide +kernel), jg 73 (by decide +kernel) (by decide +kernel), by decide +kernel, by decide +kernel, by decide⟩
theorem im_X7_weightOf : Cond.instanceMethod yX7_weightOf ∈ lw_good := jg 919 (by decide +kernel) (by decide +kernel)
theorem se_X7_weightOf : Cond.selects yX7_weightOf.cls yX7_weightOf yX7_weightOf ∈ lw_good := jg 51 (by decide +kernel) (by decide +kernel)
theorem mc_X7_truly : jmc mX7_truly 1 := ⟨jg 928 (by decide +kernel) (by decide +kernel), jg 73 (by decide +kernel) (by decide +kernel), by decide +kernel, by decide +kernel, by decide⟩
theorem im_X7_truly : Cond.instanceMethod yX7_truly ∈ lw_good := jg 927 (by decide +kernel) (by decide +kernel)
theorem se_X7_truly : Cond.selects yX7_truly.cls yX7_truly yX7_truly ∈ lw_good := jg 53 (by decide +kernel) (by decide +kernel)
theorem mc_X7_loadOf : jmc mX7_loadOf 1 := ⟨jg 924 (by decide +kernel) (by decide +kernel), jg 73 (by decide +kernel) (by decide +kernel), by decide +kernel, by decide +kernel, by decide⟩
theorem im_X7_loadOf : Cond.instanceMethod yX7_loadOf ∈ lw_good := jg 923 (by decide +kernel) (by decide +kernel)
theorem se_X7_loadOf : Cond.selects yX7_loadOf.cls yX7_loadOf yX7_loadOf ∈ lw_good := jg 52 (by decide +kernel) (by decide +kernel)
theorem mc_X7_moves : jmc mX7_moves 1 := ⟨jg 940 (by decide +kernel) (by decide +kernel), jg 73 (by decide +kernel) (by decide +kernel), by decide +kernel, by decide +kernel, by decide⟩
theorem im_X7_moves : Cond.instanceMethod yX7_moves ∈ lw_good := jg 939 (by decide +kernel) (by decide +kernel)
theorem se_X7_moves : Cond.selects yX7_moves.cls yX7_moves yX7_moves ∈ lw_good := jg 56 (by decide +kernel) (by decide +kernel)
theorem mc_X7_laid : jmc mX7_laid 1 := ⟨jg 936 (by decide +kernel) (by decide +kernel), jg 73 (by decide +kernel) (by decide +kernel), by decide +kernel, by decide +kernel, by decide⟩
theorem im_X7_laid : Cond.instanceMethod yX7_laid ∈ lw_good := jg 935 (by decide +kernel) (by decide +kernel)
theorem se_X7_laid : Cond.selects yX7_laid.cls yX7_laid yX7_laid ∈ lw_good := jg 55 (by decide +kernel) (by decide +kernel)
theorem mc_X7_readsOf : jmc mX7_readsOf 1 := ⟨jg 932 (by decide +kernel) (by decide +kernel), jg 73 (by decide +kernel) (by decide +kernel), by decide +kernel, by decide +kernel, by decide⟩
theorem im_X7_readsOf : Cond.instanceMethod yX7_readsOf ∈ lw_good := jg 931 (by decide +kernel) (by decide +kernel)
theorem se_X7_readsOf : Cond.selects yX7_readsOf.cls yX7_readsOf yX7_readsOf ∈ lw_good := jg 54 (by decide +kernel) (by decide +kernel)
theorem mc_X7_chalked : jmc mX7_chalked 0 := ⟨jg 952 (by decide +kernel) (by decide +kernel), jg 73 (by decide +kernel) (by decide +kernel), by decide +kernel, by decide +kernel, by decide⟩
theorem im_X7_chalked : Cond.instanceMethod yX7_chalked ∈ lw_good := jg 951 (by decide +kernel) (by decide +kernel)
theorem se_X7_chalked : Cond.selects yX7_chalked.cls yX7_chalked yX7_chalked ∈ lw_good := jg 57 (by decide +kernel) (by decide +kernel)
theorem mc_X7_whoDid : jmc mX7_whoDid 1 := ⟨jg 901 (by decide +kernel) (by decide +kernel), jg 73 (by decide +kernel) (by decide +kernel), by decide +kernel, by decide +kernel, by decide⟩
theorem im_X7_whoDid : Cond.instanceMethod yX7_whoDid ∈ lw_good := jg 900 (by decide +kernel) (by decide +kernel)
theorem se_X7_whoDid : Cond.selects yX7_whoDid.cls yX7_whoDid yX7_whoDid ∈ lw_good := jg 48 (by decide +kernel) (by decide +kernel)
theorem mc_X7_deed : jmc mX7_deed 2 := ⟨jg 892 (by decide +kernel) (by decide +kernel), jg 73 (by decide +kernel) (by decide +kernel), by decide +kernel, by decide +kernel, by decide⟩
theorem im_X7_deed : Cond.instanceMethod yX7_deed ∈ lw_good := jg 890 (by decide +kernel) (by decide +kernel)
theorem se_X7_deed : Cond.selects yX7_deed.cls yX7_deed yX7_deed ∈ lw_good := jg 891 (by decide +kernel) (by decide +kernel)
theorem mc_X7_dead : jmc mX7_dead 2 := ⟨jg 905 (by decide +kernel) (by decide +kernel), jg 73 (by decide +kernel) (by decide +kernel), by decide +kernel, by decide +kernel, by decide⟩
theorem im_X7_dead : Cond.instanceMethod yX7_dead ∈ lw_good := jg 903 (by decide +kernel) (by decide +kernel)
theorem se_X7_dead : Cond.selects yX7_dead.cls yX7_dead yX7_dead ∈ lw_good := jg 904 (by decide +kernel) (by decide +kernel)
theorem mc_X7_bearer : jmc mX7_bearer 1 := ⟨jg 944 (by decide +kernel) (by decide +kernel), jg 73 (by decide +kernel) (by decide +kernel), by decide +kernel, by decide +kernel, by decide⟩
theorem im_X7_bearer : Cond.instanceMethod yX7_bearer ∈ lw_good := jg 942 (by decide +kernel) (by decide +kernel)
theorem se_X7_bearer : Cond.selects yX7_bearer.cls yX7_bearer yX7_bearer ∈ lw_good := jg 943 (by decide +kernel) (by decide +kernel)
theorem mc_X7_now : jmc mX7_now 1 := ⟨jg 948 (by decide +kernel) (by decide +kernel), jg 73 (by decide +kernel) (by decide +kernel), by decide +kernel, by decide +kernel, by decide⟩
theorem im_X7_now : Cond.instanceMethod yX7_now ∈ lw_good := jg 946 (by decide +kernel) (by decide +kernel)
theorem se_X7_now : Cond.selects yX7_now.cls yX7_now yX7_now ∈ lw_good := jg 947 (by decide +kernel) (by decide +kernel)
theorem mc_X7_remembers : jmc mX7_remembers 0 := ⟨jg 960 (by decide +kernel) (by decide +kernel), jg 73 (by decide +kernel) (by decide +kernel), by decide +kernel, by decide +kernel, by decide⟩
theorem im_X7_remembers : Cond.instanceMethod yX7_remembers ∈ lw_good := jg 959 (by decide +kernel) (by decide +kernel)
theorem se_X7_remembers : Cond.selects yX7_remembers.cls yX7_remembers yX7_remembers ∈ lw_good := jg 58 (by decide +kernel) (by decide +kernel)
theorem mc_X7_lays : jmc mX7_lays 1 := ⟨jg 956 (by decide +kernel) (by decide +kernel), jg 73 (by decide +kernel) (by decide +kernel), by decide +kernel, by decide +kernel, by decide⟩
theorem im_X7_lays : Cond.instanceMethod yX7_lays ∈ lw_good := jg 954 (by decide +kernel) (by decide +kernel)
theorem se_X7_lays : Cond.selects yX7_lays.cls yX7_lays yX7_lays ∈ lw_good := jg 955 (by decide +kernel) (by decide +kernel)
theorem mc_X7_thumbs : jmc mX7_thumbs 1 := ⟨jg 964 (by decide +kernel) (by decide +kernel), jg 73 (by decide +kernel) (by decide +kernel), by decide +kernel, by decide +kernel, by decide⟩
theorem im_X7_thumbs : Cond.instanceMethod yX7_thumbs ∈ lw_good := jg 962 (by decide +kernel) (by decide +kernel)
theorem se_X7_thumbs : Cond.selects yX7_thumbs.cls yX7_thumbs yX7_thumbs ∈ lw_good := jg 963 (by decide +kernel) (by decide +kernel)
theorem mc_X7_adorns : jmc mX7_adorns 2 := ⟨jg 968 (by decide +kernel) (by decide +kernel), jg 73 (by decide +kernel) (by decide +kernel), by decide +kernel, by decide +kernel, by decide⟩
theorem im_X7_adorns : Cond.instanceMethod yX7_adorns ∈ lw_good := jg 966 (by decide +kernel) (by decide +kernel)
theorem se_X7_adorns : Cond.selects yX7_adorns.cls yX7_adorns yX7_adorns ∈ lw_good := jg 967 (by decide +kernel) (by decide +kernel)
theorem mc_X7_sins : jmc mX7_sins 2 := ⟨jg 972 (by decide +kernel) (by decide +kernel), jg 73 (by decide +kernel) (by decide +kernel), by decide +kernel, by decide +kernel, by decide⟩
theorem im_X7_sins : Cond.instanceMethod yX7_sins ∈ lw_good := jg 970 (by decide +kernel) (by decide +kernel)
theorem se_X7_sins : Cond.selects yX7_sins.cls yX7_sins yX7_sins ∈ lw_good := jg 971 (by decide +kernel) (by decide +kernel)
theorem mc_X7_oils : jmc mX7_oils 1 := ⟨jg 979 (by decide +kernel) (by decide +kernel), jg 73 (by decide +kernel) (by decide +kernel), by decide +kernel, by decide +kernel, by decide⟩
theorem im_X7_oils : Cond.instanceMethod yX7_oils ∈ lw_good := jg 977 (by decide +kernel) (by decide +kernel)
theorem se_X7_oils : Cond.selects yX7_oils.cls yX7_oils yX7_oils ∈ lw_good := jg 978 (by decide +kernel) (by decide +kernel)
theorem mc_X7_year : jmc mX7_year 0 := ⟨jg 983 (by decide +kernel) (by decide +kernel), jg 73 (by decide +kernel) (by decide +kernel), by decide +kernel, by decide +kernel, by decide⟩
theorem im_X7_year : Cond.instanceMethod yX7_year ∈ lw_good := jg 981 (by decide +kernel) (by decide +kernel)
theorem se_X7_year : Cond.selects yX7_year.cls yX7_year yX7_year ∈ lw_good := jg 982 (by decide +kernel) (by decide +kernel)
theorem mc_X7_undo : jmc mX7_undo 0 := ⟨jg 987 (by decide +kernel) (by decide +kernel), jg 73 (by decide +kernel) (by decide +kernel), by decide +kernel, by decide +kernel, by decide⟩
theorem im_X7_undo : Cond.instanceMethod yX7_undo ∈ lw_good := jg 985 (by decide +kernel) (by decide +kernel)
theorem se_X7_undo : Cond.selects yX7_undo.cls yX7_undo yX7_undo ∈ lw_good := jg 986 (by decide +kernel) (by decide +kernel)
theorem mc_X7_isOrder : jmc mX7_isOrder 3 := ⟨jg 998 (by decide +kernel) (by decide +kernel), jg 73 (by decide +kernel) (by decide +kernel), by decide +kernel, by decide +kernel, by decide⟩
theorem im_X7_isOrder : Cond.instanceMethod yX7_isOrder ∈ lw_good := jg 997 (by decide +kernel) (by decide +kernel)
theorem se_X7_isOrder : Cond.selects yX7_isOrder.cls yX7_isOrder yX7_isOrder ∈ lw_good := jg 59 (by decide +kernel) (by decide +kernel)
theorem mc_X7_sixes : jmc mX7_sixes 1 := ⟨jg 994 (by decide +kernel) (by decide +kernel), jg 73 (by decide +kernel) (by decide +kernel), by decide +kernel, by decide +kernel, by decide⟩
theorem sm_X7_sixes : Cond.static yX7_sixes ∈ lw_good := jg 993 (by decide +kernel) (by decide +kernel)
theorem mc_X7_differsBy : jmc mX7_differsBy 1 := ⟨jg 1002 (by decide +kernel) (by decide +kernel), jg 73 (by decide +kernel) (by decide +kernel), by decide +kernel, by decide +kernel, by decide⟩
theorem im_X7_differsBy : Cond.instanceMethod yX7_differsBy ∈ lw_good := jg 1001 (by decide +kernel) (by decide +kernel)
theorem se_X7_differsBy : Cond.selects yX7_differsBy.cls yX7_differsBy yX7_differsBy ∈ lw_good := jg 60 (by decide +kernel) (by decide +kernel)
theorem mc_X7_order : jmc mX7_order 1 := ⟨jg 991 (by decide +kernel) (by decide +kernel), jg 73 (by decide +kernel) (by decide +kernel), by decide +kernel, by decide +kernel, by decide⟩
theorem im_X7_order : Cond.instanceMethod yX7_order ∈ lw_good := jg 989 (by decide +kernel) (by decide +kernel)
theorem se_X7_order : Cond.selects yX7_order.cls yX7_order yX7_order ∈ lw_good := jg 990 (by decide +kernel) (by decide +kernel)
theorem mc_X7_tells : jmc mX7_tells 2 := ⟨jg 1009 (by decide +kernel) (by decide +kernel), jg 73 (by decide +kernel) (by decide +kernel), by decide +kernel, by decide +kernel, by decide⟩
theorem im_X7_tells : Cond.instanceMethod yX7_tells ∈ lw_good := jg 1007 (by decide +kernel) (by decide +kernel)
theorem se_X7_tells : Cond.selects yX7_tells.cls yX7_tells yX7_tells ∈ lw_good := jg 1008 (by decide +kernel) (by decide +kernel)
theorem mc_X7_forget : jmc mX7_forget 0 := ⟨jg 1013 (by decide +kernel) (by decide +kernel), jg 73 (by decide +kernel) (by decide +kernel), by decide +kernel, by decide +kernel, by decide⟩
theorem im_X7_forget : Cond.instanceMethod yX7_forget ∈ lw_good := jg 1011 (by decide +kernel) (by decide +kernel)
theorem se_X7_forget : Cond.selects yX7_forget.cls yX7_forget yX7_forget ∈ lw_good := jg 1012 (by decide +kernel) (by decide +kernel)
theorem mc_X7_isSo : jmc mX7_isSo 1 := ⟨jg 1025 (by decide +kernel) (by decide +kernel), jg 73 (by decide +kernel) (by decide +kernel), by decide +kernel, by decide +kernel, by decide⟩
theorem im_X7_isSo : Cond.instanceMethod yX7_isSo ∈ lw_good := jg 1024 (by decide +kernel) (by decide +kernel)
theorem se_X7_isSo : Cond.selects yX7_isSo.cls yX7_isSo yX7_isSo ∈ lw_good := jg 62 (by decide +kernel) (by decide +kernel)
theorem mc_X7_canBe : jmc mX7_canBe 2 := ⟨jg 1021 (by decide +kernel) (by decide +kernel), jg 73 (by decide +kernel) (by decide +kernel), by decide +kernel, by decide +kernel, by decide⟩
theorem im_X7_canBe : Cond.instanceMethod yX7_canBe ∈ lw_good := jg 1020 (by decide +kernel) (by decide +kernel)
theorem se_X7_canBe : Cond.selects yX7_canBe.cls yX7_canBe yX7_canBe ∈ lw_good := jg 61 (by decide +kernel) (by decide +kernel)
theorem mc_X7_can : jmc mX7_can 1 := ⟨jg 1017 (by decide +kernel) (by decide +kernel), jg 73 (by decide +kernel) (by decide +kernel), by decide +kernel, by decide +kernel, by decide⟩
theorem im_X7_can : Cond.instanceMethod yX7_can ∈ lw_good := jg 1015 (by decide +kernel) (by decide +kernel)
theorem se_X7_can : Cond.selects yX7_can.cls yX7_can yX7_can ∈ lw_good := jg 1016 (by decide +kernel) (by decide +kernel)
theorem mc_X7_ask : jmc mX7_ask 0 := ⟨jg 1029 (by decide +kernel) (by decide +kernel), jg 73 (by decide +kernel) (by decide +kernel), by decide +kernel, by decide +kernel, by decide⟩
theorem im_X7_ask : Cond.instanceMethod yX7_ask ∈ lw_good := jg 1027 (by decide +kernel) (by decide +kernel)
theorem se_X7_ask : Cond.selects yX7_ask.cls yX7_ask yX7_ask ∈ lw_good := jg 1028 (by decide +kernel) (by decide +kernel)
theorem mc_X7_life : jmc mX7_life 2 := ⟨jg 1033 (by decide +kernel) (by decide +kernel), jg 73 (by decide +kernel) (by decide +kernel), by decide +kernel, by decide +kernel, by decide⟩
theorem im_X7_life : Cond.instanceMethod yX7_life ∈ lw_good := jg 1031 (by decide +kernel) (by decide +kernel)
theorem se_X7_life : Cond.selects yX7_life.cls yX7_life yX7_life ∈ lw_good := jg 1032 (by decide +kernel) (by decide +kernel)
theorem mc_X7_strengthOf : jmc mX7_strengthOf 1 := ⟨jg 1041 (by decide +kernel) (by decide +kernel), jg 73 (by decide +kernel) (by decide +kernel), by decide +kernel, by decide +kernel, by decide⟩
theorem im_X7_strengthOf : Cond.instanceMethod yX7_strengthOf ∈ lw_good := jg 1040 (by decide +kernel) (by decide +kernel)
theorem se_X7_strengthOf : Cond.selects yX7_strengthOf.cls yX7_strengthOf yX7_strengthOf ∈ lw_good := jg 63 (by decide +kernel) (by decide +kernel)
theorem mc_X7_carry : jmc mX7_carry 2 := ⟨jg 1037 (by decide +kernel) (by decide +kernel), jg 73 (by decide +kernel) (by decide +kernel), by decide +kernel, by decide +kernel, by decide⟩
theorem im_X7_carry : Cond.instanceMethod yX7_carry ∈ lw_good := jg 1035 (by decide +kernel) (by decide +kernel)
theorem se_X7_carry : Cond.selects yX7_carry.cls yX7_carry yX7_carry ∈ lw_good := jg 1036 (by decide +kernel) (by decide +kernel)
theorem mc_X7_lowest : jmc mX7_lowest 3 := ⟨jg 1048 (by decide +kernel) (by decide +kernel), jg 73 (by decide +kernel) (by decide +kernel), by decide +kernel, by decide +kernel, by decide⟩
theorem sm_X7_lowest : Cond.static yX7_lowest ∈ lw_good := jg 1047 (by decide +kernel) (by decide +kernel)
theorem mc_X7_odds : jmc mX7_odds 3 := ⟨jg 1045 (by decide +kernel) (by decide +kernel), jg 73 (by decide +kernel) (by decide +kernel), by decide +kernel, by decide +kernel, by decide⟩
theorem im_X7_odds : Cond.instanceMethod yX7_odds ∈ lw_good := jg 1043 (by decide +kernel) (by decide +kernel)
theorem se_X7_odds : Cond.selects yX7_odds.cls yX7_odds yX7_odds ∈ lw_good := jg 1044 (by decide +kernel) (by decide +kernel)
theorem mc_X7_rate : jmc mX7_rate 2 := ⟨jg 1052 (by decide +kernel) (by decide +kernel), jg 73 (by decide +kernel) (by decide +kernel), by decide +kernel, by decide +kernel, by decide⟩
theorem im_X7_rate : Cond.instanceMethod yX7_rate ∈ lw_good := jg 1050 (by decide +kernel) (by decide +kernel)
theorem se_X7_rate : Cond.selects yX7_rate.cls yX7_rate yX7_rate ∈ lw_good := jg 1051 (by decide +kernel) (by decide +kernel)
theorem mc_X7_keep : jmc mX7_keep 1 := ⟨jg 1061 (by decide +kernel) (by decide +kernel), jg 73 (by decide +kernel) (by decide +kernel), by decide +kernel, by decide +kernel, by decide⟩
theorem im_X7_keep : Cond.instanceMethod yX7_keep ∈ lw_good := jg 1059 (by decide +kernel) (by decide +kernel)
theorem se_X7_keep : Cond.selects yX7_keep.cls yX7_keep yX7_keep ∈ lw_good := jg 1060 (by decide +kernel) (by decide +kernel)
theorem mc_X7_back : jmc mX7_back 1 := ⟨jg 1065 (by decide +kernel) (by decide +kernel), jg 73 (by decide +kernel) (by decide +kernel), by decide +kernel, by decide +kernel, by decide⟩
theorem im_X7_back : Cond.instanceMethod yX7_back ∈ lw_good := jg 1063 (by decide +kernel) (by decide +kernel)
theorem se_X7_back : Cond.selects yX7_back.cls yX7_back yX7_back ∈ lw_good := jg 1064 (by decide +kernel) (by decide +kernel)
theorem mc_X7_count : jmc mX7_count 1 := ⟨jg 1069 (by decide +kernel) (by decide +kernel), jg 73 (by decide +kernel) (by decide +kernel), by decide +kernel, by decide +kernel, by decide⟩
theorem im_X7_count : Cond.instanceMethod yX7_count ∈ lw_good := jg 1067 (by decide +kernel) (by decide +kernel)
theorem se_X7_count : Cond.selects yX7_count.cls yX7_count yX7_count ∈ lw_good := jg 1068 (by decide +kernel) (by decide +kernel)
theorem mc_X7_trace : jmc mX7_trace 0 := ⟨jg 1073 (by decide +kernel) (by decide +kernel), jg 73 (by decide +kernel) (by decide +kernel), by decide +kernel, by decide +kernel, by decide⟩
theorem im_X7_trace : Cond.instanceMethod yX7_trace ∈ lw_good := jg 1071 (by decide +kernel) (by decide +kernel)
theorem se_X7_trace : Cond.selects yX7_trace.cls yX7_trace yX7_trace ∈ lw_good := jg 1072 (by decide +kernel) (by decide +kernel)
theorem mc_J6_bitCount_0f7a4 : jmc mJ6_bitCount_0f7a4 1 := ⟨jg 536 (by decide +kernel) (by decide +kernel), jg 74 (by decide +kernel) (by decide +kernel), by decide +kernel, by decide +kernel, by decide⟩
theorem sm_J6_bitCount_0f7a4 : Cond.static yJ6_bitCount_0f7a4 ∈ lw_good := jg 535 (by decide +kernel) (by decide +kernel)
theorem mc_J9_abs_0f7a4 : jmc mJ9_abs_0f7a4 1 := ⟨jg 578 (by decide +kernel) (by decide +kernel), jg 67 (by decide +kernel) (by decide +kernel), by decide +kernel, by decide +kernel, by decide⟩
theorem sm_J9_abs_0f7a4 : Cond.static yJ9_abs_0f7a4 ∈ lw_good := jg 577 (by decide +kernel) (by decide +kernel)
theorem mc_J9_max_7cf53 : jmc mJ9_max_7cf53 2 := ⟨jg 91 (by decide +kernel) (by decide +kernel), jg 67 (by decide +kernel) (by decide +kernel), by decide +kernel, by decide +kernel, by decide⟩
theorem sm_J9_max_7cf53 : Cond.static yJ9_max_7cf53 ∈ lw_good := jg 90 (by decide +kernel) (by decide +kernel)
theorem mc_J9_min_7cf53 : jmc mJ9_min_7cf53 2 := ⟨jg 475 (by decide +kernel) (by decide +kernel), jg 67 (by decide +kernel) (by decide +kernel), by decide +kernel, by decide +kernel, by decide⟩
theorem sm_J9_min_7cf53 : Cond.static yJ9_min_7cf53 ∈ lw_good := jg 474 (by decide +kernel) (by decide +kernel)
theorem ml_L_9 : Cond.methodLink RL 9 yX6_init ∈ lw_good := jg 77 (by decide +kernel) (by decide +kernel)
theorem ol_X6_1 : Cond.methodLink RX6 1 Lib.objectInit ∈ lw_good := jg 80 (by decide +kernel) (by decide +kernel)
theorem ml_X6_11 : Cond.methodLink RX6 11 yX3_init ∈ lw_good := jg 85 (by decide +kernel) (by decide +kernel)
theorem ol_X3_3 : Cond.methodLink RX3 3 Lib.objectInit ∈ lw_good := jg 88 (by decide +kernel) (by decide +kernel)
theorem ml_X3_9 : Cond.methodLink RX3 9 yJ9_max_7cf53 ∈ lw_good := jg 89 (by decide +kernel) (by decide +kernel)
theorem ml_X6_20 : Cond.methodLink RX6 20 yX2_init ∈ lw_good := jg 99 (by decide +kernel) (by decide +kernel)
theorem ol_X2_3 : Cond.methodLink RX2 3 Lib.objectInit ∈ lw_good := jg 102 (by decide +kernel) (by decide +kernel)
theorem ml_X6_29 : Cond.methodLink RX6 29 yX1_init ∈ lw_good := jg 133 (by decide +kernel) (by decide +kernel)
theorem ol_X1_3 : Cond.methodLink RX1 3 Lib.objectInit ∈ lw_good := jg 136 (by decide +kernel) (by decide +kernel)
theorem ml_X1_11 : Cond.methodLink RX1 11 yX3_init ∈ lw_good := jg 138 (by decide +kernel) (by decide +kernel)
theorem ml_X1_32 : Cond.methodLink RX1 32 yX1_begin ∈ lw_good := jg 139 (by decide +kernel) (by decide +kernel)
theorem ol_X4_3 : Cond.methodLink RX4 3 Lib.objectInit ∈ lw_good := jg 200 (by decide +kernel) (by decide +kernel)
theorem ml_X4_11 : Cond.methodLink RX4 11 yX3_init ∈ lw_good := jg 202 (by decide +kernel) (by decide +kernel)
theorem ml_X6_44 : Cond.methodLink RX6 44 yX4_begin ∈ lw_good := jg 228 (by decide +kernel) (by decide +kernel)
theorem ml_X4_40 : Cond.methodLink RX4 40 yX3_copyFrom ∈ lw_good := jg 232 (by decide +kernel) (by decide +kernel)
theorem ml_X3_25 : Cond.methodLink RX3 25 yX3_at ∈ lw_good := jg 236 (by decide +kernel) (by decide +kernel)
theorem ml_X4_45 : Cond.methodLink RX4 45 yX3_fill ∈ lw_good := jg 240 (by decide +kernel) (by decide +kernel)
theorem ol_X0_3 : Cond.methodLink RX0 3 Lib.objectInit ∈ lw_good := jg 249 (by decide +kernel) (by decide +kernel)
theorem ml_X0_11 : Cond.methodLink RX0 11 yX5_init ∈ lw_good := jg 252 (by decide +kernel) (by decide +kernel)
theorem ol_X5_1 : Cond.methodLink RX5 1 Lib.objectInit ∈ lw_good := jg 255 (by decide +kernel) (by decide +kernel)
theorem ml_X5_7 : Cond.methodLink RX5 7 yJ9_max_7cf53 ∈ lw_good := jg 256 (by decide +kernel) (by decide +kernel)
theorem ml_X6_60 : Cond.methodLink RX6 60 yX5_init ∈ lw_good := jg 276 (by decide +kernel) (by decide +kernel)
theorem ml_L_13 : Cond.methodLink RL 13 yX6_type ∈ lw_good := jg 320 (by decide +kernel) (by decide +kernel)
theorem ml_X6_71 : Cond.methodLink RX6 71 yX6_isWithin ∈ lw_good := jg 324 (by decide +kernel) (by decide +kernel)
theorem ml_X6_79 : Cond.methodLink RX6 79 yX3_put ∈ lw_good := jg 327 (by decide +kernel) (by decide +kernel)
theorem ml_L_18 : Cond.methodLink RL 18 yX6_clear ∈ lw_good := jg 331 (by decide +kernel) (by decide +kernel)
theorem ml_L_23 : Cond.methodLink RL 23 yX6_gate ∈ lw_good := jg 335 (by decide +kernel) (by decide +kernel)
theorem ml_X6_83 : Cond.methodLink RX6 83 yX2_read ∈ lw_good := jg 339 (by decide +kernel) (by decide +kernel)
theorem ml_X2_32 : Cond.methodLink RX2 32 yX1_begin ∈ lw_good := jg 343 (by decide +kernel) (by decide +kernel)
theorem ml_X2_37 : Cond.methodLink RX2 37 yX2_step ∈ lw_good := jg 344 (by decide +kernel) (by decide +kernel)
theorem ml_X2_129 : Cond.methodLink RX2 129 yX3_at ∈ lw_good := jg 348 (by decide +kernel) (by decide +kernel)
theorem ml_X2_134 : Cond.methodLink RX2 134 yX2_isDigit ∈ lw_good := jg 349 (by decide +kernel) (by decide +kernel)
theorem ml_X2_137 : Cond.methodLink RX2 137 yX2_stepNumber ∈ lw_good := jg 352 (by decide +kernel) (by decide +kernel)
theorem ml_X2_140 : Cond.methodLink RX2 140 yX2_isSign ∈ lw_good := jg 356 (by decide +kernel) (by decide +kernel)
theorem ml_X2_43 : Cond.methodLink RX2 43 yX2_readDeed ∈ lw_good := jg 359 (by decide +kernel) (by decide +kernel)
theorem ml_X2_65 : Cond.methodLink RX2 65 yX2_open ∈ lw_good := jg 363 (by decide +kernel) (by decide +kernel)
theorem ml_X2_69 : Cond.methodLink RX2 69 yX2_number ∈ lw_good := jg 367 (by decide +kernel) (by decide +kernel)
theorem ml_X2_73 : Cond.methodLink RX2 73 yX2_close ∈ lw_good := jg 372 (by decide +kernel) (by decide +kernel)
theorem ml_X2_76 : Cond.methodLink RX2 76 yX1_addDeed ∈ lw_good := jg 376 (by decide +kernel) (by decide +kernel)
theorem ml_X1_54 : Cond.methodLink RX1 54 yX3_put ∈ lw_good := jg 380 (by decide +kernel) (by decide +kernel)
theorem ml_X2_47 : Cond.methodLink RX2 47 yX2_readDead ∈ lw_good := jg 381 (by decide +kernel) (by decide +kernel)
theorem ml_X2_83 : Cond.methodLink RX2 83 yX2_readDone ∈ lw_good := jg 385 (by decide +kernel) (by decide +kernel)
theorem ml_X2_91 : Cond.methodLink RX2 91 yX2_mayBeDone ∈ lw_good := jg 389 (by decide +kernel) (by decide +kernel)
theorem ml_X2_102 : Cond.methodLink RX2 102 yX1_hasDeed ∈ lw_good := jg 393 (by decide +kernel) (by decide +kernel)
theorem ml_X2_87 : Cond.methodLink RX2 87 yX1_addDead ∈ lw_good := jg 403 (by decide +kernel) (by decide +kernel)
theorem ml_X2_50 : Cond.methodLink RX2 50 yX2_readBearer ∈ lw_good := jg 407 (by decide +kernel) (by decide +kernel)
theorem ml_X2_113 : Cond.methodLink RX2 113 yX1_addBearer ∈ lw_good := jg 411 (by decide +kernel) (by decide +kernel)
theorem ml_X2_53 : Cond.methodLink RX2 53 yX2_readPin ∈ lw_good := jg 415 (by decide +kernel) (by decide +kernel)
theorem ml_X2_56 : Cond.methodLink RX2 56 yX2_readRust ∈ lw_good := jg 419 (by decide +kernel) (by decide +kernel)
theorem ml_X6_87 : Cond.methodLink RX6 87 yX0_loseAll ∈ lw_good := jg 423 (by decide +kernel) (by decide +kernel)
theorem ml_L_27 : Cond.methodLink RL 27 yX6_deed ∈ lw_good := jg 427 (by decide +kernel) (by decide +kernel)
theorem ml_X6_99 : Cond.methodLink RX6 99 yX1_hasDeed ∈ lw_good := jg 431 (by decide +kernel) (by decide +kernel)
theorem ml_X6_107 : Cond.methodLink RX6 107 yX3_at ∈ lw_good := jg 433 (by decide +kernel) (by decide +kernel)
theorem ml_X6_111 : Cond.methodLink RX6 111 yX6_whoDid ∈ lw_good := jg 434 (by decide +kernel) (by decide +kernel)
theorem ml_X6_174 : Cond.methodLink RX6 174 yX6_isIn ∈ lw_good := jg 438 (by decide +kernel) (by decide +kernel)
theorem ml_X6_178 : Cond.methodLink RX6 178 yX6_bit ∈ lw_good := jg 439 (by decide +kernel) (by decide +kernel)
theorem ml_L_32 : Cond.methodLink RL 32 yX6_dead ∈ lw_good := jg 440 (by decide +kernel) (by decide +kernel)
theorem ml_X6_114 : Cond.methodLink RX6 114 yX1_hasDead ∈ lw_good := jg 444 (by decide +kernel) (by decide +kernel)
theorem ml_X6_126 : Cond.methodLink RX6 126 yX3_sumOf ∈ lw_good := jg 448 (by decide +kernel) (by decide +kernel)
theorem ml_X6_129 : Cond.methodLink RX6 129 yX6_loadOf ∈ lw_good := jg 453 (by decide +kernel) (by decide +kernel)
theorem ml_X6_192 : Cond.methodLink RX6 192 yX6_burdenOf ∈ lw_good := jg 457 (by decide +kernel) (by decide +kernel)
theorem ml_X6_281 : Cond.methodLink RX6 281 yX6_loadBy ∈ lw_good := jg 461 (by decide +kernel) (by decide +kernel)
theorem ml_X6_217 : Cond.methodLink RX6 217 yJ9_max_7cf53 ∈ lw_good := jg 464 (by decide +kernel) (by decide +kernel)
theorem ml_X6_135 : Cond.methodLink RX6 135 yX6_readingOf ∈ lw_good := jg 465 (by decide +kernel) (by decide +kernel)
theorem ml_X6_170 : Cond.methodLink RX6 170 yX6_needleBy ∈ lw_good := jg 469 (by decide +kernel) (by decide +kernel)
theorem ml_X6_278 : Cond.methodLink RX6 278 yJ9_min_7cf53 ∈ lw_good := jg 473 (by decide +kernel) (by decide +kernel)
theorem ml_X6_138 : Cond.methodLink RX6 138 yX6_errorOf ∈ lw_good := jg 476 (by decide +kernel) (by decide +kernel)
theorem ml_X6_163 : Cond.methodLink RX6 163 yX4_isChalked ∈ lw_good := jg 480 (by decide +kernel) (by decide +kernel)
theorem ml_X4_48 : Cond.methodLink RX4 48 yX3_at ∈ lw_good := jg 484 (by decide +kernel) (by decide +kernel)
theorem ml_L_36 : Cond.methodLink RL 36 yX6_bearer ∈ lw_good := jg 485 (by decide +kernel) (by decide +kernel)
theorem ml_X6_141 : Cond.methodLink RX6 141 yX1_hasBearer ∈ lw_good := jg 489 (by decide +kernel) (by decide +kernel)
theorem ml_L_40 : Cond.methodLink RL 40 yX6_now ∈ lw_good := jg 493 (by decide +kernel) (by decide +kernel)
theorem ml_X6_156 : Cond.methodLink RX6 156 yX6_whoIsChalked ∈ lw_good := jg 497 (by decide +kernel) (by decide +kernel)
theorem ml_L_44 : Cond.methodLink RL 44 yX6_lays ∈ lw_good := jg 501 (by decide +kernel) (by decide +kernel)
theorem ml_X6_166 : Cond.methodLink RX6 166 yX0_remember ∈ lw_good := jg 505 (by decide +kernel) (by decide +kernel)
theorem ml_X0_24 : Cond.methodLink RX0 24 yX5_put ∈ lw_good := jg 509 (by decide +kernel) (by decide +kernel)
theorem ml_X5_22 : Cond.methodLink RX5 22 yX5_has ∈ lw_good := jg 513 (by decide +kernel) (by decide +kernel)
theorem ml_X5_26 : Cond.methodLink RX5 26 yX4_copyFrom ∈ lw_good := jg 517 (by decide +kernel) (by decide +kernel)
theorem ml_X0_31 : Cond.methodLink RX0 31 yJ9_min_7cf53 ∈ lw_good := jg 521 (by decide +kernel) (by decide +kernel)
theorem ml_L_48 : Cond.methodLink RL 48 yX6_thumbs ∈ lw_good := jg 522 (by decide +kernel) (by decide +kernel)
theorem ml_L_52 : Cond.methodLink RL 52 yX6_adorns ∈ lw_good := jg 526 (by decide +kernel) (by decide +kernel)
theorem ml_L_56 : Cond.methodLink RL 56 yX6_sins ∈ lw_good := jg 530 (by decide +kernel) (by decide +kernel)
theorem ml_X6_181 : Cond.methodLink RX6 181 yJ6_bitCount_0f7a4 ∈ lw_good := jg 534 (by decide +kernel) (by decide +kernel)
theorem ml_L_60 : Cond.methodLink RL 60 yX6_oils ∈ lw_good := jg 540 (by decide +kernel) (by decide +kernel)
theorem ml_L_64 : Cond.methodLink RL 64 yX6_year ∈ lw_good := jg 544 (by decide +kernel) (by decide +kernel)
theorem ml_L_68 : Cond.methodLink RL 68 yX6_undo ∈ lw_good := jg 548 (by decide +kernel) (by decide +kernel)
theorem ml_X6_186 : Cond.methodLink RX6 186 yX0_recall ∈ lw_good := jg 552 (by decide +kernel) (by decide +kernel)
theorem ml_X0_37 : Cond.methodLink RX0 37 yX5_copyTo ∈ lw_good := jg 556 (by decide +kernel) (by decide +kernel)
theorem ml_L_72 : Cond.methodLink RL 72 yX6_order ∈ lw_good := jg 560 (by decide +kernel) (by decide +kernel)
theorem ml_X6_195 : Cond.methodLink RX6 195 yX6_allOf ∈ lw_good := jg 564 (by decide +kernel) (by decide +kernel)
theorem ml_X6_198 : Cond.methodLink RX6 198 yX6_leastError ∈ lw_good := jg 567 (by decide +kernel) (by decide +kernel)
theorem ml_X6_285 : Cond.methodLink RX6 285 yX6_leastErrorFrom ∈ lw_good := jg 572 (by decide +kernel) (by decide +kernel)
theorem ml_X6_289 : Cond.methodLink RX6 289 yJ9_abs_0f7a4 ∈ lw_good := jg 576 (by decide +kernel) (by decide +kernel)
theorem ml_X6_202 : Cond.methodLink RX6 202 yX6_inOrder ∈ lw_good := jg 579 (by decide +kernel) (by decide +kernel)
theorem ml_X6_292 : Cond.methodLink RX6 292 yX6_bestNext ∈ lw_good := jg 583 (by decide +kernel) (by decide +kernel)
theorem ml_L_76 : Cond.methodLink RL 76 yX6_tells ∈ lw_good := jg 587 (by decide +kernel) (by decide +kernel)
theorem ml_L_80 : Cond.methodLink RL 80 yX6_forget ∈ lw_good := jg 591 (by decide +kernel) (by decide +kernel)
theorem ml_L_84 : Cond.methodLink RL 84 yX6_can ∈ lw_good := jg 595 (by decide +kernel) (by decide +kernel)
theorem ml_X6_205 : Cond.methodLink RX6 205 yX6_setsWith ∈ lw_good := jg 599 (by decide +kernel) (by decide +kernel)
theorem ml_X6_295 : Cond.methodLink RX6 295 yX6_explainsAll ∈ lw_good := jg 603 (by decide +kernel) (by decide +kernel)
theorem ml_X6_208 : Cond.methodLink RX6 208 yX6_deedsInAllSets ∈ lw_good := jg 607 (by decide +kernel) (by decide +kernel)
theorem ml_X6_211 : Cond.methodLink RX6 211 yX6_deedsInSomeSets ∈ lw_good := jg 611 (by decide +kernel) (by decide +kernel)
theorem ml_L_88 : Cond.methodLink RL 88 yX6_ask ∈ lw_good := jg 615 (by decide +kernel) (by decide +kernel)
theorem ml_L_92 : Cond.methodLink RL 92 yX6_life ∈ lw_good := jg 619 (by decide +kernel) (by decide +kernel)
theorem ml_L_96 : Cond.methodLink RL 96 yX6_carry ∈ lw_good := jg 623 (by decide +kernel) (by decide +kernel)
theorem ml_X6_222 : Cond.methodLink RX6 222 yX6_bestWay ∈ lw_good := jg 627 (by decide +kernel) (by decide +kernel)
theorem ml_X6_298 : Cond.methodLink RX6 298 yX6_betterWay ∈ lw_good := jg 631 (by decide +kernel) (by decide +kernel)
theorem ml_X6_301 : Cond.methodLink RX6 301 yX6_wayOf ∈ lw_good := jg 635 (by decide +kernel) (by decide +kernel)
theorem ml_X6_304 : Cond.methodLink RX6 304 yX6_isBetter ∈ lw_good := jg 638 (by decide +kernel) (by decide +kernel)
theorem ml_X6_231 : Cond.methodLink RX6 231 yX6_unevenness ∈ lw_good := jg 642 (by decide +kernel) (by decide +kernel)
theorem ml_X6_228 : Cond.methodLink RX6 228 yX6_leftOf ∈ lw_good := jg 646 (by decide +kernel) (by decide +kernel)
theorem ml_X6_225 : Cond.methodLink RX6 225 yX6_fourOf ∈ lw_good := jg 649 (by decide +kernel) (by decide +kernel)
theorem ml_L_100 : Cond.methodLink RL 100 yX6_odds ∈ lw_good := jg 652 (by decide +kernel) (by decide +kernel)
theorem ml_X6_234 : Cond.methodLink RX6 234 yX6_partLeaning ∈ lw_good := jg 656 (by decide +kernel) (by decide +kernel)
theorem ml_X6_240 : Cond.methodLink RX6 240 yX6_power ∈ lw_good := jg 660 (by decide +kernel) (by decide +kernel)
theorem ml_X6_243 : Cond.methodLink RX6 243 yX6_commonDivisor ∈ lw_good := jg 663 (by decide +kernel) (by decide +kernel)
theorem ml_L_105 : Cond.methodLink RL 105 yX6_rate ∈ lw_good := jg 666 (by decide +kernel) (by decide +kernel)
theorem ml_X6_246 : Cond.methodLink RX6 246 yX6_rateAsDeed ∈ lw_good := jg 670 (by decide +kernel) (by decide +kernel)
theorem ml_X6_249 : Cond.methodLink RX6 249 yX6_rateAsDebt ∈ lw_good := jg 674 (by decide +kernel) (by decide +kernel)
theorem ml_X6_252 : Cond.methodLink RX6 252 yX6_rateAsLie ∈ lw_good := jg 679 (by decide +kernel) (by decide +kernel)
theorem ml_X6_255 : Cond.methodLink RX6 255 yX6_rateAsOath ∈ lw_good := jg 684 (by decide +kernel) (by decide +kernel)
theorem ml_X6_258 : Cond.methodLink RX6 258 yX6_rateAsKiss ∈ lw_good := jg 689 (by decide +kernel) (by decide +kernel)
theorem ml_X6_261 : Cond.methodLink RX6 261 yX6_rateAsTheft ∈ lw_good := jg 694 (by decide +kernel) (by decide +kernel)
theorem ml_L_109 : Cond.methodLink RL 109 yX6_keep ∈ lw_good := jg 699 (by decide +kernel) (by decide +kernel)
theorem ml_X6_264 : Cond.methodLink RX6 264 yX5_put ∈ lw_good := jg 703 (by decide +kernel) (by decide +kernel)
theorem ml_L_113 : Cond.methodLink RL 113 yX6_back ∈ lw_good := jg 704 (by decide +kernel) (by decide +kernel)
theorem ml_X6_267 : Cond.methodLink RX6 267 yX5_copyTo ∈ lw_good := jg 708 (by decide +kernel) (by decide +kernel)
theorem ml_L_117 : Cond.methodLink RL 117 yX6_count ∈ lw_good := jg 709 (by decide +kernel) (by decide +kernel)
theorem ml_L_121 : Cond.methodLink RL 121 yX6_trace ∈ lw_good := jg 713 (by decide +kernel) (by decide +kernel)
theorem ml_L_12 : Cond.methodLink RL 12 yX7_init ∈ lw_good := jg 719 (by decide +kernel) (by decide +kernel)
theorem ol_X7_1 : Cond.methodLink RX7 1 Lib.objectInit ∈ lw_good := jg 722 (by decide +kernel) (by decide +kernel)
theorem ml_L_17 : Cond.methodLink RL 17 yX7_type ∈ lw_good := jg 836 (by decide +kernel) (by decide +kernel)
theorem ml_X7_72 : Cond.methodLink RX7 72 yX7_in ∈ lw_good := jg 840 (by decide +kernel) (by decide +kernel)
theorem ml_L_22 : Cond.methodLink RL 22 yX7_clear ∈ lw_good := jg 843 (by decide +kernel) (by decide +kernel)
theorem ml_L_26 : Cond.methodLink RL 26 yX7_gate ∈ lw_good := jg 847 (by decide +kernel) (by decide +kernel)
theorem ml_X7_106 : Cond.methodLink RX7 106 yX7_next ∈ lw_good := jg 851 (by decide +kernel) (by decide +kernel)
theorem ml_X7_85 : Cond.methodLink RX7 85 yX7_letterAt ∈ lw_good := jg 855 (by decide +kernel) (by decide +kernel)
theorem ml_X7_98 : Cond.methodLink RX7 98 yX7_isFigure ∈ lw_good := jg 859 (by decide +kernel) (by decide +kernel)
theorem ml_X7_145 : Cond.methodLink RX7 145 yX7_readItem ∈ lw_good := jg 862 (by decide +kernel) (by decide +kernel)
theorem ml_X7_135 : Cond.methodLink RX7 135 yX7_mayBegin ∈ lw_good := jg 866 (by decide +kernel) (by decide +kernel)
theorem ml_X7_138 : Cond.methodLink RX7 138 yX7_readBody ∈ lw_good := jg 870 (by decide +kernel) (by decide +kernel)
theorem ml_X7_112 : Cond.methodLink RX7 112 yX7_takesNumber ∈ lw_good := jg 874 (by decide +kernel) (by decide +kernel)
theorem ml_X7_132 : Cond.methodLink RX7 132 yX7_readDead ∈ lw_good := jg 878 (by decide +kernel) (by decide +kernel)
theorem ml_X7_119 : Cond.methodLink RX7 119 yX7_has ∈ lw_good := jg 882 (by decide +kernel) (by decide +kernel)
theorem ml_X7_148 : Cond.methodLink RX7 148 yX7_settles ∈ lw_good := jg 885 (by decide +kernel) (by decide +kernel)
theorem ml_L_31 : Cond.methodLink RL 31 yX7_deed ∈ lw_good := jg 889 (by decide +kernel) (by decide +kernel)
theorem ml_X7_182 : Cond.methodLink RX7 182 yX7_isDeed ∈ lw_good := jg 893 (by decide +kernel) (by decide +kernel)
theorem ml_X7_186 : Cond.methodLink RX7 186 yX7_whoDid ∈ lw_good := jg 898 (by decide +kernel) (by decide +kernel)
theorem ml_L_35 : Cond.methodLink RL 35 yX7_dead ∈ lw_good := jg 902 (by decide +kernel) (by decide +kernel)
theorem ml_X7_189 : Cond.methodLink RX7 189 yX7_isDead ∈ lw_good := jg 906 (by decide +kernel) (by decide +kernel)
theorem ml_X7_176 : Cond.methodLink RX7 176 yX7_asItIs ∈ lw_good := jg 910 (by decide +kernel) (by decide +kernel)
theorem ml_X7_160 : Cond.methodLink RX7 160 yX7_copy ∈ lw_good := jg 914 (by decide +kernel) (by decide +kernel)
theorem ml_X7_164 : Cond.methodLink RX7 164 yX7_weightOf ∈ lw_good := jg 917 (by decide +kernel) (by decide +kernel)
theorem ml_X7_170 : Cond.methodLink RX7 170 yX7_loadOf ∈ lw_good := jg 921 (by decide +kernel) (by decide +kernel)
theorem ml_X7_167 : Cond.methodLink RX7 167 yX7_truly ∈ lw_good := jg 925 (by decide +kernel) (by decide +kernel)
theorem ml_X7_192 : Cond.methodLink RX7 192 yX7_readsOf ∈ lw_good := jg 929 (by decide +kernel) (by decide +kernel)
theorem ml_X7_179 : Cond.methodLink RX7 179 yX7_laid ∈ lw_good := jg 933 (by decide +kernel) (by decide +kernel)
theorem ml_X7_173 : Cond.methodLink RX7 173 yX7_moves ∈ lw_good := jg 937 (by decide +kernel) (by decide +kernel)
theorem ml_L_39 : Cond.methodLink RL 39 yX7_bearer ∈ lw_good := jg 941 (by decide +kernel) (by decide +kernel)
theorem ml_L_43 : Cond.methodLink RL 43 yX7_now ∈ lw_good := jg 945 (by decide +kernel) (by decide +kernel)
theorem ml_X7_195 : Cond.methodLink RX7 195 yX7_chalked ∈ lw_good := jg 949 (by decide +kernel) (by decide +kernel)
theorem ml_L_47 : Cond.methodLink RL 47 yX7_lays ∈ lw_good := jg 953 (by decide +kernel) (by decide +kernel)
theorem ml_X7_199 : Cond.methodLink RX7 199 yX7_remembers ∈ lw_good := jg 957 (by decide +kernel) (by decide +kernel)
theorem ml_L_51 : Cond.methodLink RL 51 yX7_thumbs ∈ lw_good := jg 961 (by decide +kernel) (by decide +kernel)
theorem ml_L_55 : Cond.methodLink RL 55 yX7_adorns ∈ lw_good := jg 965 (by decide +kernel) (by decide +kernel)
theorem ml_L_59 : Cond.methodLink RL 59 yX7_sins ∈ lw_good := jg 969 (by decide +kernel) (by decide +kernel)
theorem ml_X7_202 : Cond.methodLink RX7 202 yX7_bits ∈ lw_good := jg 973 (by decide +kernel) (by decide +kernel)
theorem ml_L_63 : Cond.methodLink RL 63 yX7_oils ∈ lw_good := jg 976 (by decide +kernel) (by decide +kernel)
theorem ml_L_67 : Cond.methodLink RL 67 yX7_year ∈ lw_good := jg 980 (by decide +kernel) (by decide +kernel)
theorem ml_L_71 : Cond.methodLink RL 71 yX7_undo ∈ lw_good := jg 984 (by decide +kernel) (by decide +kernel)
theorem ml_L_75 : Cond.methodLink RL 75 yX7_order ∈ lw_good := jg 988 (by decide +kernel) (by decide +kernel)
theorem ml_X7_208 : Cond.methodLink RX7 208 yX7_sixes ∈ lw_good := jg 992 (by decide +kernel) (by decide +kernel)
theorem ml_X7_211 : Cond.methodLink RX7 211 yX7_isOrder ∈ lw_good := jg 995 (by decide +kernel) (by decide +kernel)
theorem ml_X7_214 : Cond.methodLink RX7 214 yX7_differsBy ∈ lw_good := jg 999 (by decide +kernel) (by decide +kernel)
theorem ml_X7_205 : Cond.methodLink RX7 205 yX7_size ∈ lw_good := jg 1003 (by decide +kernel) (by decide +kernel)
theorem ml_L_79 : Cond.methodLink RL 79 yX7_tells ∈ lw_good := jg 1006 (by decide +kernel) (by decide +kernel)
theorem ml_L_83 : Cond.methodLink RL 83 yX7_forget ∈ lw_good := jg 1010 (by decide +kernel) (by decide +kernel)
theorem ml_L_87 : Cond.methodLink RL 87 yX7_can ∈ lw_good := jg 1014 (by decide +kernel) (by decide +kernel)
theorem ml_X7_220 : Cond.methodLink RX7 220 yX7_canBe ∈ lw_good := jg 1018 (by decide +kernel) (by decide +kernel)
theorem ml_X7_217 : Cond.methodLink RX7 217 yX7_isSo ∈ lw_good := jg 1022 (by decide +kernel) (by decide +kernel)
theorem ml_L_91 : Cond.methodLink RL 91 yX7_ask ∈ lw_good := jg 1026 (by decide +kernel) (by decide +kernel)
theorem ml_L_95 : Cond.methodLink RL 95 yX7_life ∈ lw_good := jg 1030 (by decide +kernel) (by decide +kernel)
theorem ml_L_99 : Cond.methodLink RL 99 yX7_carry ∈ lw_good := jg 1034 (by decide +kernel) (by decide +kernel)
theorem ml_X7_223 : Cond.methodLink RX7 223 yX7_strengthOf ∈ lw_good := jg 1038 (by decide +kernel) (by decide +kernel)
theorem ml_L_104 : Cond.methodLink RL 104 yX7_odds ∈ lw_good := jg 1042 (by decide +kernel) (by decide +kernel)
theorem ml_X7_226 : Cond.methodLink RX7 226 yX7_lowest ∈ lw_good := jg 1046 (by decide +kernel) (by decide +kernel)
theorem ml_L_108 : Cond.methodLink RL 108 yX7_rate ∈ lw_good := jg 1049 (by decide +kernel) (by decide +kernel)
theorem ml_L_112 : Cond.methodLink RL 112 yX7_keep ∈ lw_good := jg 1058 (by decide +kernel) (by decide +kernel)
theorem ml_L_116 : Cond.methodLink RL 116 yX7_back ∈ lw_good := jg 1062 (by decide +kernel) (by decide +kernel)
theorem ml_L_120 : Cond.methodLink RL 120 yX7_count ∈ lw_good := jg 1066 (by decide +kernel) (by decide +kernel)
theorem ml_L_125 : Cond.methodLink RL 125 yX7_trace ∈ lw_good := jg 1070 (by decide +kernel) (by decide +kernel)
theorem ol_im : Cond.instanceMethod Lib.objectInit ∈ lw_good := jg 81 (by decide +kernel) (by decide +kernel)
theorem ol_co : Cond.code Lib.objectInit ⟨#[0xb1]⟩ 1 none ∈ lw_good := jg 82 (by decide +kernel) (by decide +kernel)
theorem nk_X6_39 : (RX6, 39, yX4_init, "LychWeights") ∈ jnest := by decide +kernel
theorem nk_X6_50 : (RX6, 50, yX0_init, "LychWeights") ∈ jnest := by decide +kernel
theorem nk_X5_21 : (RX5, 21, yX4_init, "LychWeights") ∈ jnest := by decide +kernel
theorem nk_X2_122 : (RX2, 122, yX6_isWithin, "LychWeights") ∈ jnest := by decide +kernel
theorem nk_X2_106 : (RX2, 106, yX6_isIn, "LychWeights") ∈ jnest := by decide +kernel
theorem nk_X2_98 : (RX2, 98, yX6_bit, "LychWeights") ∈ jnest := by decide +kernel
theorem nk_X3_21 : (RX3, 21, yX6_isIn, "LychWeights") ∈ jnest := by decide +kernel
theorem fl_X3_15 : jfl RX3 15 3 0 true (.array .int) := ⟨by decide, _, rfl, by decide, jg 92 (by decide +kernel) (by decide +kernel), rfl, by decide +kernel⟩
theorem fl_X2_9 : jfl RX2 9 2 0 true (.object "LychWeights$Row") := ⟨by decide, _, rfl, by decide, jg 103 (by decide +kernel) (by decide +kernel), rfl, by decide +kernel⟩
theorem fl_X2_15 : jfl RX2 15 2 1 false .int := ⟨by decide, _, rfl, by decide, jg 104 (by decide +kernel) (by decide +kernel), rfl, by decide +kernel⟩
theorem fl_X2_59 : jfl RX2 59 2 2 false .int := ⟨by decide, _, rfl, by decide, jg 105 (by decide +kernel) (by decide +kernel), rfl, by decide +kernel⟩
theorem fl_X2_19 : jfl RX2 19 2 3 false .int := ⟨by decide, _, rfl, by decide, jg 106 (by decide +kernel) (by decide +kernel), rfl, by decide +kernel⟩
theorem fl_X2_40 : jfl RX2 40 2 4 false .int := ⟨by decide, _, rfl, by decide, jg 107 (by decide +kernel) (by decide +kernel), rfl, by decide +kernel⟩
theorem fl_X2_95 : jfl RX2 95 2 5 false .int := ⟨by decide, _, rfl, by decide, jg 108 (by decide +kernel) (by decide +kernel), rfl, by decide +kernel⟩
theorem fl_X2_22 : jfl RX2 22 2 6 false .boolean := ⟨by decide, _, rfl, by decide, jg 109 (by decide +kernel) (by decide +kernel), rfl, by decide +kernel⟩
theorem fl_X2_26 : jfl RX2 26 2 7 false .boolean := ⟨by decide, _, rfl, by decide, jg 110 (by decide +kernel) (by decide +kernel), rfl, by decide +kernel⟩
theorem fl_X2_29 : jfl RX2 29 2 8 false .boolean := ⟨by decide, _, rfl, by decide, jg 111 (by decide +kernel) (by decide +kernel), rfl, by decide +kernel⟩
theorem fl_X1_35 : jfl RX1 35 1 0 false .int := ⟨by decide, _, rfl, by decide, jg 143 (by decide +kernel) (by decide +kernel), rfl, by decide +kernel⟩
theorem fl_X6_96 : jfl RX6 96 1 0 false .int := ⟨by decide, _, rfl, by decide, jg 144 (by decide +kernel) (by decide +kernel), rfl, by decide +kernel⟩
theorem fl_X2_126 : jfl RX2 126 1 0 false .int := ⟨by decide, _, rfl, by decide, jg 145 (by decide +kernel) (by decide +kernel), rfl, by decide +kernel⟩
theorem fl_X1_39 : jfl RX1 39 1 1 false .int := ⟨by decide, _, rfl, by decide, jg 146 (by decide +kernel) (by decide +kernel), rfl, by decide +kernel⟩
theorem fl_X2_62 : jfl RX2 62 1 1 false .int := ⟨by decide, _, rfl, by decide, jg 147 (by decide +kernel) (by decide +kernel), rfl, by decide +kernel⟩
theorem fl_X6_214 : jfl RX6 214 1 1 false .int := ⟨by decide, _, rfl, by decide, jg 148 (by decide +kernel) (by decide +kernel), rfl, by decide +kernel⟩
theorem fl_X1_42 : jfl RX1 42 1 2 false .int := ⟨by decide, _, rfl, by decide, jg 149 (by decide +kernel) (by decide +kernel), rfl, by decide +kernel⟩
theorem fl_X2_80 : jfl RX2 80 1 2 false .int := ⟨by decide, _, rfl, by decide, jg 150 (by decide +kernel) (by decide +kernel), rfl, by decide +kernel⟩
theorem fl_X6_189 : jfl RX6 189 1 2 false .int := ⟨by decide, _, rfl, by decide, jg 151 (by decide +kernel) (by decide +kernel), rfl, by decide +kernel⟩
theorem fl_X1_45 : jfl RX1 45 1 3 false .int := ⟨by decide, _, rfl, by decide, jg 152 (by decide +kernel) (by decide +kernel), rfl, by decide +kernel⟩
theorem fl_X2_110 : jfl RX2 110 1 3 false .int := ⟨by decide, _, rfl, by decide, jg 153 (by decide +kernel) (by decide +kernel), rfl, by decide +kernel⟩
theorem fl_X6_237 : jfl RX6 237 1 3 false .int := ⟨by decide, _, rfl, by decide, jg 154 (by decide +kernel) (by decide +kernel), rfl, by decide +kernel⟩
theorem fl_X1_48 : jfl RX1 48 1 4 false .int := ⟨by decide, _, rfl, by decide, jg 155 (by decide +kernel) (by decide +kernel), rfl, by decide +kernel⟩
theorem fl_X2_116 : jfl RX2 116 1 4 false .int := ⟨by decide, _, rfl, by decide, jg 156 (by decide +kernel) (by decide +kernel), rfl, by decide +kernel⟩
theorem fl_X6_270 : jfl RX6 270 1 4 false .int := ⟨by decide, _, rfl, by decide, jg 157 (by decide +kernel) (by decide +kernel), rfl, by decide +kernel⟩
theorem fl_X4_33 : jfl RX4 33 1 5 false .int := ⟨by decide, _, rfl, by decide, jg 158 (by decide +kernel) (by decide +kernel), rfl, by decide +kernel⟩
theorem fl_X1_51 : jfl RX1 51 1 5 false .int := ⟨by decide, _, rfl, by decide, jg 159 (by decide +kernel) (by decide +kernel), rfl, by decide +kernel⟩
theorem fl_X2_119 : jfl RX2 119 1 5 false .int := ⟨by decide, _, rfl, by decide, jg 160 (by decide +kernel) (by decide +kernel), rfl, by decide +kernel⟩
theorem fl_X6_273 : jfl RX6 273 1 5 false .int := ⟨by decide, _, rfl, by decide, jg 161 (by decide +kernel) (by decide +kernel), rfl, by decide +kernel⟩
theorem fl_X1_14 : jfl RX1 14 1 6 true (.object "LychWeights$Row") := ⟨by decide, _, rfl, by decide, jg 162 (by decide +kernel) (by decide +kernel), rfl, by decide +kernel⟩
theorem fl_X6_104 : jfl RX6 104 1 6 true (.object "LychWeights$Row") := ⟨by decide, _, rfl, by decide, jg 163 (by decide +kernel) (by decide +kernel), rfl, by decide +kernel⟩
theorem fl_X1_20 : jfl RX1 20 1 7 true (.object "LychWeights$Row") := ⟨by decide, _, rfl, by decide, jg 164 (by decide +kernel) (by decide +kernel), rfl, by decide +kernel⟩
theorem fl_X6_117 : jfl RX6 117 1 7 true (.object "LychWeights$Row") := ⟨by decide, _, rfl, by decide, jg 165 (by decide +kernel) (by decide +kernel), rfl, by decide +kernel⟩
theorem fl_X1_23 : jfl RX1 23 1 8 true (.object "LychWeights$Row") := ⟨by decide, _, rfl, by decide, jg 166 (by decide +kernel) (by decide +kernel), rfl, by decide +kernel⟩
theorem fl_X4_39 : jfl RX4 39 1 8 true (.object "LychWeights$Row") := ⟨by decide, _, rfl, by decide, jg 167 (by decide +kernel) (by decide +kernel), rfl, by decide +kernel⟩
theorem fl_X1_26 : jfl RX1 26 1 9 true (.object "LychWeights$Row") := ⟨by decide, _, rfl, by decide, jg 168 (by decide +kernel) (by decide +kernel), rfl, by decide +kernel⟩
theorem fl_X4_44 : jfl RX4 44 1 9 true (.object "LychWeights$Row") := ⟨by decide, _, rfl, by decide, jg 169 (by decide +kernel) (by decide +kernel), rfl, by decide +kernel⟩
theorem fl_X1_29 : jfl RX1 29 1 10 true (.object "LychWeights$Row") := ⟨by decide, _, rfl, by decide, jg 170 (by decide +kernel) (by decide +kernel), rfl, by decide +kernel⟩
theorem fl_X6_144 : jfl RX6 144 1 10 true (.object "LychWeights$Row") := ⟨by decide, _, rfl, by decide, jg 171 (by decide +kernel) (by decide +kernel), rfl, by decide +kernel⟩
theorem fl_X4_26 : jfl RX4 26 4 0 false .int := ⟨by decide, _, rfl, by decide, jg 203 (by decide +kernel) (by decide +kernel), rfl, by decide +kernel⟩
theorem fl_X6_147 : jfl RX6 147 4 0 false .int := ⟨by decide, _, rfl, by decide, jg 204 (by decide +kernel) (by decide +kernel), rfl, by decide +kernel⟩
theorem fl_X4_30 : jfl RX4 30 4 1 false .int := ⟨by decide, _, rfl, by decide, jg 205 (by decide +kernel) (by decide +kernel), rfl, by decide +kernel⟩
theorem fl_X6_150 : jfl RX6 150 4 1 false .int := ⟨by decide, _, rfl, by decide, jg 206 (by decide +kernel) (by decide +kernel), rfl, by decide +kernel⟩
theorem fl_X4_38 : jfl RX4 38 4 2 false .int := ⟨by decide, _, rfl, by decide, jg 207 (by decide +kernel) (by decide +kernel), rfl, by decide +kernel⟩
theorem fl_X6_153 : jfl RX6 153 4 2 false .int := ⟨by decide, _, rfl, by decide, jg 208 (by decide +kernel) (by decide +kernel), rfl, by decide +kernel⟩
theorem fl_X4_14 : jfl RX4 14 4 3 true (.object "LychWeights$Row") := ⟨by decide, _, rfl, by decide, jg 209 (by decide +kernel) (by decide +kernel), rfl, by decide +kernel⟩
theorem fl_X6_120 : jfl RX6 120 4 3 true (.object "LychWeights$Row") := ⟨by decide, _, rfl, by decide, jg 210 (by decide +kernel) (by decide +kernel), rfl, by decide +kernel⟩
theorem fl_X4_20 : jfl RX4 20 4 4 true (.object "LychWeights$Row") := ⟨by decide, _, rfl, by decide, jg 211 (by decide +kernel) (by decide +kernel), rfl, by decide +kernel⟩
theorem fl_X6_123 : jfl RX6 123 4 4 true (.object "LychWeights$Row") := ⟨by decide, _, rfl, by decide, jg 212 (by decide +kernel) (by decide +kernel), rfl, by decide +kernel⟩
theorem fl_X4_23 : jfl RX4 23 4 5 true (.object "LychWeights$Row") := ⟨by decide, _, rfl, by decide, jg 213 (by decide +kernel) (by decide +kernel), rfl, by decide +kernel⟩
theorem fl_X6_132 : jfl RX6 132 4 5 true (.object "LychWeights$Row") := ⟨by decide, _, rfl, by decide, jg 214 (by decide +kernel) (by decide +kernel), rfl, by decide +kernel⟩
theorem fl_X5_15 : jfl RX5 15 5 0 true (.array (.object "LychWeights$Scene")) := ⟨by decide, _, rfl, by decide, jg 260 (by decide +kernel) (by decide +kernel), rfl, by decide +kernel⟩
theorem fl_X0_28 : jfl RX0 28 0 0 false .int := ⟨by decide, _, rfl, by decide, jg 264 (by decide +kernel) (by decide +kernel), rfl, by decide +kernel⟩
theorem fl_X6_160 : jfl RX6 160 0 0 false .int := ⟨by decide, _, rfl, by decide, jg 265 (by decide +kernel) (by decide +kernel), rfl, by decide +kernel⟩
theorem fl_X0_20 : jfl RX0 20 0 1 false .int := ⟨by decide, _, rfl, by decide, jg 266 (by decide +kernel) (by decide +kernel), rfl, by decide +kernel⟩
theorem fl_X0_14 : jfl RX0 14 0 2 true (.object "LychWeights$Shelf") := ⟨by decide, _, rfl, by decide, jg 267 (by decide +kernel) (by decide +kernel), rfl, by decide +kernel⟩
theorem fl_X6_14 : jfl RX6 14 6 0 true (.object "LychWeights$Row") := ⟨by decide, _, rfl, by decide, jg 277 (by decide +kernel) (by decide +kernel), rfl, by decide +kernel⟩
theorem fl_X6_75 : jfl RX6 75 6 1 false .int := ⟨by decide, _, rfl, by decide, jg 278 (by decide +kernel) (by decide +kernel), rfl, by decide +kernel⟩
theorem fl_X6_23 : jfl RX6 23 6 2 true (.object "LychWeights$Reader") := ⟨by decide, _, rfl, by decide, jg 279 (by decide +kernel) (by decide +kernel), rfl, by decide +kernel⟩
theorem fl_X6_30 : jfl RX6 30 6 3 false (.object "LychWeights$Parish") := ⟨by decide, _, rfl, by decide, jg 280 (by decide +kernel) (by decide +kernel), rfl, by decide +kernel⟩
theorem fl_X6_34 : jfl RX6 34 6 4 false (.object "LychWeights$Parish") := ⟨by decide, _, rfl, by decide, jg 281 (by decide +kernel) (by decide +kernel), rfl, by decide +kernel⟩
theorem fl_X6_40 : jfl RX6 40 6 5 true (.object "LychWeights$Scene") := ⟨by decide, _, rfl, by decide, jg 282 (by decide +kernel) (by decide +kernel), rfl, by decide +kernel⟩
theorem fl_X6_51 : jfl RX6 51 6 6 true (.object "LychWeights$History") := ⟨by decide, _, rfl, by decide, jg 283 (by decide +kernel) (by decide +kernel), rfl, by decide +kernel⟩
theorem fl_X6_55 : jfl RX6 55 6 7 true (.object "LychWeights$Row") := ⟨by decide, _, rfl, by decide, jg 284 (by decide +kernel) (by decide +kernel), rfl, by decide +kernel⟩
theorem fl_X6_61 : jfl RX6 61 6 8 true (.object "LychWeights$Shelf") := ⟨by decide, _, rfl, by decide, jg 285 (by decide +kernel) (by decide +kernel), rfl, by decide +kernel⟩
theorem fl_X6_90 : jfl RX6 90 6 9 false .int := ⟨by decide, _, rfl, by decide, jg 286 (by decide +kernel) (by decide +kernel), rfl, by decide +kernel⟩
theorem fl_X6_65 : jfl RX6 65 6 10 true (.object "LychWeights$Row") := ⟨by decide, _, rfl, by decide, jg 287 (by decide +kernel) (by decide +kernel), rfl, by decide +kernel⟩
theorem fl_X6_68 : jfl RX6 68 6 11 true (.object "LychWeights$Row") := ⟨by decide, _, rfl, by decide, jg 288 (by decide +kernel) (by decide +kernel), rfl, by decide +kernel⟩
theorem fl_X6_93 : jfl RX6 93 6 12 false .int := ⟨by decide, _, rfl, by decide, jg 289 (by decide +kernel) (by decide +kernel), rfl, by decide +kernel⟩
theorem fl_X6_274 : jfl RX6 274 6 13 false .long := ⟨by decide, _, rfl, by decide, jg 290 (by decide +kernel) (by decide +kernel), rfl, by decide +kernel⟩
theorem fl_X7_69 : jfl RX7 69 7 0 false .int := ⟨by decide, _, rfl, by decide, jg 723 (by decide +kernel) (by decide +kernel), rfl, by decide +kernel⟩
theorem fl_X7_7 : jfl RX7 7 7 1 true (.array .int) := ⟨by decide, _, rfl, by decide, jg 724 (by decide +kernel) (by decide +kernel), rfl, by decide +kernel⟩
theorem fl_X7_76 : jfl RX7 76 7 2 false .int := ⟨by decide, _, rfl, by decide, jg 725 (by decide +kernel) (by decide +kernel), rfl, by decide +kernel⟩
theorem fl_X7_13 : jfl RX7 13 7 3 true (.array .int) := ⟨by decide, _, rfl, by decide, jg 726 (by decide +kernel) (by decide +kernel), rfl, by decide +kernel⟩
theorem fl_X7_151 : jfl RX7 151 7 4 false .int := ⟨by decide, _, rfl, by decide, jg 727 (by decide +kernel) (by decide +kernel), rfl, by decide +kernel⟩
theorem fl_X7_16 : jfl RX7 16 7 5 true (.array .int) := ⟨by decide, _, rfl, by decide, jg 728 (by decide +kernel) (by decide +kernel), rfl, by decide +kernel⟩
theorem fl_X7_19 : jfl RX7 19 7 6 false .int := ⟨by decide, _, rfl, by decide, jg 729 (by decide +kernel) (by decide +kernel), rfl, by decide +kernel⟩
theorem fl_X7_23 : jfl RX7 23 7 7 false .int := ⟨by decide, _, rfl, by decide, jg 730 (by decide +kernel) (by decide +kernel), rfl, by decide +kernel⟩
theorem fl_X7_26 : jfl RX7 26 7 8 true (.array .int) := ⟨by decide, _, rfl, by decide, jg 731 (by decide +kernel) (by decide +kernel), rfl, by decide +kernel⟩
theorem fl_X7_29 : jfl RX7 29 7 9 true (.array .int) := ⟨by decide, _, rfl, by decide, jg 732 (by decide +kernel) (by decide +kernel), rfl, by decide +kernel⟩
theorem fl_X7_154 : jfl RX7 154 7 10 false .int := ⟨by decide, _, rfl, by decide, jg 733 (by decide +kernel) (by decide +kernel), rfl, by decide +kernel⟩
theorem fl_X7_32 : jfl RX7 32 7 11 true (.array .int) := ⟨by decide, _, rfl, by decide, jg 734 (by decide +kernel) (by decide +kernel), rfl, by decide +kernel⟩
theorem fl_X7_35 : jfl RX7 35 7 12 true (.array .boolean) := ⟨by decide, _, rfl, by decide, jg 735 (by decide +kernel) (by decide +kernel), rfl, by decide +kernel⟩
theorem fl_X7_157 : jfl RX7 157 7 13 false .int := ⟨by decide, _, rfl, by decide, jg 736 (by decide +kernel) (by decide +kernel), rfl, by decide +kernel⟩
theorem fl_X7_39 : jfl RX7 39 7 14 true (.array .int) := ⟨by decide, _, rfl, by decide, jg 737 (by decide +kernel) (by decide +kernel), rfl, by decide +kernel⟩
theorem fl_X7_230 : jfl RX7 230 7 15 false .long := ⟨by decide, _, rfl, by decide, jg 738 (by decide +kernel) (by decide +kernel), rfl, by decide +kernel⟩
theorem fl_X7_42 : jfl RX7 42 7 16 true (.array .int) := ⟨by decide, _, rfl, by decide, jg 739 (by decide +kernel) (by decide +kernel), rfl, by decide +kernel⟩
theorem fl_X7_79 : jfl RX7 79 7 17 false .int := ⟨by decide, _, rfl, by decide, jg 740 (by decide +kernel) (by decide +kernel), rfl, by decide +kernel⟩
theorem fl_X7_82 : jfl RX7 82 7 18 false .int := ⟨by decide, _, rfl, by decide, jg 741 (by decide +kernel) (by decide +kernel), rfl, by decide +kernel⟩
theorem fl_X7_89 : jfl RX7 89 7 19 false .int := ⟨by decide, _, rfl, by decide, jg 742 (by decide +kernel) (by decide +kernel), rfl, by decide +kernel⟩
theorem fl_X7_95 : jfl RX7 95 7 20 false .int := ⟨by decide, _, rfl, by decide, jg 743 (by decide +kernel) (by decide +kernel), rfl, by decide +kernel⟩
theorem fl_X7_92 : jfl RX7 92 7 21 false .int := ⟨by decide, _, rfl, by decide, jg 744 (by decide +kernel) (by decide +kernel), rfl, by decide +kernel⟩
theorem fl_X7_102 : jfl RX7 102 7 22 false .boolean := ⟨by decide, _, rfl, by decide, jg 745 (by decide +kernel) (by decide +kernel), rfl, by decide +kernel⟩
theorem fl_X7_142 : jfl RX7 142 7 23 false .int := ⟨by decide, _, rfl, by decide, jg 746 (by decide +kernel) (by decide +kernel), rfl, by decide +kernel⟩
theorem fl_X7_116 : jfl RX7 116 7 24 false .int := ⟨by decide, _, rfl, by decide, jg 747 (by decide +kernel) (by decide +kernel), rfl, by decide +kernel⟩
theorem fl_X7_45 : jfl RX7 45 7 25 true (.array .int) := ⟨by decide, _, rfl, by decide, jg 748 (by decide +kernel) (by decide +kernel), rfl, by decide +kernel⟩
theorem fl_X7_109 : jfl RX7 109 7 26 false .int := ⟨by decide, _, rfl, by decide, jg 749 (by decide +kernel) (by decide +kernel), rfl, by decide +kernel⟩
theorem fl_X7_48 : jfl RX7 48 7 27 true (.array .int) := ⟨by decide, _, rfl, by decide, jg 750 (by decide +kernel) (by decide +kernel), rfl, by decide +kernel⟩
theorem fl_X7_51 : jfl RX7 51 7 28 true (.array .int) := ⟨by decide, _, rfl, by decide, jg 751 (by decide +kernel) (by decide +kernel), rfl, by decide +kernel⟩
theorem fl_X7_54 : jfl RX7 54 7 29 true (.array .int) := ⟨by decide, _, rfl, by decide, jg 752 (by decide +kernel) (by decide +kernel), rfl, by decide +kernel⟩
theorem fl_X7_123 : jfl RX7 123 7 30 false .int := ⟨by decide, _, rfl, by decide, jg 753 (by decide +kernel) (by decide +kernel), rfl, by decide +kernel⟩
theorem fl_X7_57 : jfl RX7 57 7 31 true (.array .int) := ⟨by decide, _, rfl, by decide, jg 754 (by decide +kernel) (by decide +kernel), rfl, by decide +kernel⟩
theorem fl_X7_126 : jfl RX7 126 7 32 false .int := ⟨by decide, _, rfl, by decide, jg 755 (by decide +kernel) (by decide +kernel), rfl, by decide +kernel⟩
theorem fl_X7_129 : jfl RX7 129 7 33 false .int := ⟨by decide, _, rfl, by decide, jg 756 (by decide +kernel) (by decide +kernel), rfl, by decide +kernel⟩
theorem fl_X7_60 : jfl RX7 60 7 34 true (.array .int) := ⟨by decide, _, rfl, by decide, jg 757 (by decide +kernel) (by decide +kernel), rfl, by decide +kernel⟩
theorem fl_X7_63 : jfl RX7 63 7 35 true (.array .int) := ⟨by decide, _, rfl, by decide, jg 758 (by decide +kernel) (by decide +kernel), rfl, by decide +kernel⟩
theorem fl_X7_66 : jfl RX7 66 7 36 true (.array .int) := ⟨by decide, _, rfl, by decide, jg 759 (by decide +kernel) (by decide +kernel), rfl, by decide +kernel⟩
theorem nl_L_7 : jnl RL 7 6 14 := ⟨by decide, _, rfl, rfl, jg 75 (by decide +kernel) (by decide +kernel), jg 76 (by decide +kernel) (by decide +kernel), jg 65 (by decide +kernel) (by decide +kernel)⟩
theorem cl_L_7 : Cond.classLink RL 7 "LychWeights" ∈ lw_good := jg 75 (by decide +kernel) (by decide +kernel)
theorem nl_X6_7 : jnl RX6 7 3 1 := ⟨by decide, _, rfl, rfl, jg 83 (by decide +kernel) (by decide +kernel), jg 84 (by decide +kernel) (by decide +kernel), jg 66 (by decide +kernel) (by decide +kernel)⟩
theorem cl_X6_7 : Cond.classLink RX6 7 "LychWeights$Row" ∈ lw_good := jg 83 (by decide +kernel) (by decide +kernel)
theorem nl_X6_18 : jnl RX6 18 2 9 := ⟨by decide, _, rfl, rfl, jg 97 (by decide +kernel) (by decide +kernel), jg 98 (by decide +kernel) (by decide +kernel), jg 68 (by decide +kernel) (by decide +kernel)⟩
theorem cl_X6_18 : Cond.classLink RX6 18 "LychWeights$Reader" ∈ lw_good := jg 97 (by decide +kernel) (by decide +kernel)
theorem nl_X6_27 : jnl RX6 27 1 11 := ⟨by decide, _, rfl, rfl, jg 131 (by decide +kernel) (by decide +kernel), jg 132 (by decide +kernel) (by decide +kernel), jg 69 (by decide +kernel) (by decide +kernel)⟩
theorem cl_X6_27 : Cond.classLink RX6 27 "LychWeights$Parish" ∈ lw_good := jg 131 (by decide +kernel) (by decide +kernel)
theorem nl_X1_9 : jnl RX1 9 3 1 := ⟨by decide, _, rfl, rfl, jg 137 (by decide +kernel) (by decide +kernel), jg 84 (by decide +kernel) (by decide +kernel), jg 66 (by decide +kernel) (by decide +kernel)⟩
theorem cl_X1_9 : Cond.classLink RX1 9 "LychWeights$Row" ∈ lw_good := jg 137 (by decide +kernel) (by decide +kernel)
theorem nl_X6_37 : jnl RX6 37 4 6 := ⟨by decide, _, rfl, rfl, jg 195 (by decide +kernel) (by decide +kernel), jg 196 (by decide +kernel) (by decide +kernel), jg 70 (by decide +kernel) (by decide +kernel)⟩
theorem cl_X6_37 : Cond.classLink RX6 37 "LychWeights$Scene" ∈ lw_good := jg 195 (by decide +kernel) (by decide +kernel)
theorem nl_X4_9 : jnl RX4 9 3 1 := ⟨by decide, _, rfl, rfl, jg 201 (by decide +kernel) (by decide +kernel), jg 84 (by decide +kernel) (by decide +kernel), jg 66 (by decide +kernel) (by decide +kernel)⟩
theorem cl_X4_9 : Cond.classLink RX4 9 "LychWeights$Row" ∈ lw_good := jg 201 (by decide +kernel) (by decide +kernel)
theorem nl_X6_48 : jnl RX6 48 0 3 := ⟨by decide, _, rfl, rfl, jg 244 (by decide +kernel) (by decide +kernel), jg 245 (by decide +kernel) (by decide +kernel), jg 71 (by decide +kernel) (by decide +kernel)⟩
theorem cl_X6_48 : Cond.classLink RX6 48 "LychWeights$History" ∈ lw_good := jg 244 (by decide +kernel) (by decide +kernel)
theorem nl_X0_9 : jnl RX0 9 5 1 := ⟨by decide, _, rfl, rfl, jg 250 (by decide +kernel) (by decide +kernel), jg 251 (by decide +kernel) (by decide +kernel), jg 72 (by decide +kernel) (by decide +kernel)⟩
theorem cl_X0_9 : Cond.classLink RX0 9 "LychWeights$Shelf" ∈ lw_good := jg 250 (by decide +kernel) (by decide +kernel)
theorem nl_X5_13 : jnl RX5 13 4 6 := ⟨by decide, _, rfl, rfl, jg 257 (by decide +kernel) (by decide +kernel), jg 196 (by decide +kernel) (by decide +kernel), jg 70 (by decide +kernel) (by decide +kernel)⟩
theorem cl_X5_13 : Cond.classLink RX5 13 "LychWeights$Scene" ∈ lw_good := jg 257 (by decide +kernel) (by decide +kernel)
theorem nl_X6_58 : jnl RX6 58 5 1 := ⟨by decide, _, rfl, rfl, jg 275 (by decide +kernel) (by decide +kernel), jg 251 (by decide +kernel) (by decide +kernel), jg 72 (by decide +kernel) (by decide +kernel)⟩
theorem cl_X6_58 : Cond.classLink RX6 58 "LychWeights$Shelf" ∈ lw_good := jg 275 (by decide +kernel) (by decide +kernel)
theorem nl_L_10 : jnl RL 10 7 37 := ⟨by decide, _, rfl, rfl, jg 717 (by decide +kernel) (by decide +kernel), jg 718 (by decide +kernel) (by decide +kernel), jg 73 (by decide +kernel) (by decide +kernel)⟩
theorem cl_L_10 : Cond.classLink RL 10 "LychWeightsModel" ∈ lw_good := jg 717 (by decide +kernel) (by decide +kernel)
theorem ck_X6_103 : Cond.constant RX6 103 (-1000000) ∈ lw_good := jg 432 (by decide +kernel) (by decide +kernel)
theorem ck_J6_265 : Cond.constant RJ6 265 (1431655765) ∈ lw_good := jg 537 (by decide +kernel) (by decide +kernel)
theorem ck_J6_266 : Cond.constant RJ6 266 (858993459) ∈ lw_good := jg 538 (by decide +kernel) (by decide +kernel)
theorem ck_J6_267 : Cond.constant RJ6 267 (252645135) ∈ lw_good := jg 539 (by decide +kernel) (by decide +kernel)
theorem ck_X6_284 : Cond.constant RX6 284 (1000000) ∈ lw_good := jg 571 (by decide +kernel) (by decide +kernel)
theorem ck_X7_185 : Cond.constant RX7 185 (-1000000) ∈ lw_good := jg 897 (by decide +kernel) (by decide +kernel)
theorem ck_X6_307 : Cond.constantLong RX6 307 (10) ∈ lw_good := jg 678 (by decide +kernel) (by decide +kernel)
theorem ck_X6_309 : Cond.constantLong RX6 309 (100) ∈ lw_good := jg 683 (by decide +kernel) (by decide +kernel)
theorem ck_X6_311 : Cond.constantLong RX6 311 (1000) ∈ lw_good := jg 688 (by decide +kernel) (by decide +kernel)
theorem ck_X6_313 : Cond.constantLong RX6 313 (10000) ∈ lw_good := jg 693 (by decide +kernel) (by decide +kernel)
theorem ck_X6_315 : Cond.constantLong RX6 315 (100000) ∈ lw_good := jg 698 (by decide +kernel) (by decide +kernel)
theorem ck_X7_234 : Cond.constantLong RX7 234 (11) ∈ lw_good := jg 1053 (by decide +kernel) (by decide +kernel)
theorem ck_X7_236 : Cond.constantLong RX7 236 (101) ∈ lw_good := jg 1054 (by decide +kernel) (by decide +kernel)
theorem ck_X7_238 : Cond.constantLong RX7 238 (1011) ∈ lw_good := jg 1055 (by decide +kernel) (by decide +kernel)
theorem ck_X7_240 : Cond.constantLong RX7 240 (10101) ∈ lw_good := jg 1056 (by decide +kernel) (by decide +kernel)
theorem ck_X7_242 : Cond.constantLong RX7 242 (100001) ∈ lw_good := jg 1057 (by decide +kernel) (by decide +kernel)
theorem ac_int : Cond.arrayClass .int ∈ lw_good := jg 96 (by decide +kernel) (by decide +kernel)
theorem ac_boolean : Cond.arrayClass .boolean ∈ lw_good := jg 835 (by decide +kernel) (by decide +kernel)
theorem jfit_i (x : Int32) : jfit .int (.int x) := fun _ => ⟨rfl, rfl⟩
theorem jfit_l (x : Int64) : jfit .long (.long x) := fun _ => ⟨rfl, rfl⟩
theorem jfit_z (b : Bool) : jfit .boolean (.int (b2i b)) := fun _ => by cases b <;> exact ⟨rfl, rfl⟩
theorem jfit_r (c : String) (a : Nat) : jfit (.object c) (.ref a) := fun _ => ⟨rfl, rfl⟩
theorem jfit_a (t : FieldType) (a : Nat) : jfit (.array t) (.ref a) := fun _ => ⟨rfl, rfl⟩
end
section
/-! one row an instruction for J (written by wip/whole/gen05.py) -/
section
variable {g : GG} {y : MI} {d mc ms : Nat} {Q : Option Value → List AC → Prop} {h : List AC} {pc : Nat} {ls : List (Option Value)} {st : List Value}
theorem j_iconst {n : Int} {v : Int32} (hd : decode y.2.1 pc = .ok (.iconst n, 1)) (hv : Int32.ofInt n = v) (k : J g y d mc ms Q h (pc + 1) ls (.int v :: st)) : J g y d mc ms Q h pc ls (st) := by
  intro p e R s m args below meth c H locs cells slots lsr X L
  exact lv_iconst X.1.1 X.1.2.1 hd hv (k p e R s m args below meth c H locs cells slots lsr X L)
theorem j_bipush {n : Int} {v : Int32} (hd : decode y.2.1 pc = .ok (.bipush n, 2)) (hv : (Int8.ofInt n).toInt32 = v) (k : J g y d mc ms Q h (pc + 2) ls (.int v :: st)) : J g y d mc ms Q h pc ls (st) := by
  intro p e R s m args below meth c H locs cells slots lsr X L
  exact lv_bipush X.1.1 X.1.2.1 hd hv (k p e R s m args below meth c H locs cells slots lsr X L)
theorem j_sipush {n : Int} {v : Int32} (hd : decode y.2.1 pc = .ok (.sipush n, 3)) (hv : (Int16.ofInt n).toInt32 = v) (k : J g y d mc ms Q h (pc + 3) ls (.int v :: st)) : J g y d mc ms Q h pc ls (st) := by
  intro p e R s m args below meth c H locs cells slots lsr X L
  exact lv_sipush X.1.1 X.1.2.1 hd hv (k p e R s m args below meth c H locs cells slots lsr X L)
theorem j_lconst {n : Fin 2} {v : Int64} (hd : decode y.2.1 pc = .ok (.lconst n, 1)) (hv : Int64.ofNat (n : Nat) = v) (k : J g y d mc ms Q h (pc + 1) ls (.long v :: st)) : J g y d mc ms Q h pc ls (st) := by
  intro p e R s m args below meth c H locs cells slots lsr X L
  exact lv_lconst X.1.1 X.1.2.1 hd hv (k p e R s m args below meth c H locs cells slots lsr X L)
theorem j_ldc {index : Nat} {v : Int32} (hd : decode y.2.1 pc = .ok (.ldc index, 2)) (hw : Cond.constant y.1.cls index v ∈ lw_good) (k : J g y d mc ms Q h (pc + 2) ls (.int v :: st)) : J g y d mc ms Q h pc ls (st) := by
  intro p e R s m args below meth c H locs cells slots lsr X L
  exact lv_ldc X.1.1 X.1.2.1 X.1.2.2.2.2.2.1 (X.1.2.2.2.2.2.2.2.1 _ hw) hd (k p e R s m args below meth c H locs cells slots lsr X L)
theorem j_ldcw {index : Nat} {v : Int32} (hd : decode y.2.1 pc = .ok (.ldc_w index, 3)) (hw : Cond.constant y.1.cls index v ∈ lw_good) (k : J g y d mc ms Q h (pc + 3) ls (.int v :: st)) : J g y d mc ms Q h pc ls (st) := by
  intro p e R s m args below meth c H locs cells slots lsr X L
  exact lv_ldcw X.1.1 X.1.2.1 X.1.2.2.2.2.2.1 (X.1.2.2.2.2.2.2.2.1 _ hw) hd (k p e R s m args below meth c H locs cells slots lsr X L)
theorem j_ldc2 {index : Nat} {v : Int64} (hd : decode y.2.1 pc = .ok (.ldc2_w index, 3)) (hw : Cond.constantLong y.1.cls index v ∈ lw_good) (k : J g y d mc ms Q h (pc + 3) ls (.long v :: st)) : J g y d mc ms Q h pc ls (st) := by
  intro p e R s m args below meth c H locs cells slots lsr X L
  exact lv_ldc2 X.1.1 X.1.2.1 X.1.2.2.2.2.2.1 (X.1.2.2.2.2.2.2.2.1 _ hw) hd (k p e R s m args below meth c H locs cells slots lsr X L)
theorem j_iload_n {j : Fin 4} {x : Int32} (hd : decode y.2.1 pc = .ok (.iload_n j, 1)) (hl : ls[(j : Nat)]? = some (some (.int x))) (k : J g y d mc ms Q h (pc + 1) ls (.int x :: st)) : J g y d mc ms Q h pc ls (st) := by
  intro p e R s m args below meth c H locs cells slots lsr X L
  exact lv_iload_n X.1.1 X.1.2.1 hd rfl (L.at hl) (k p e R s m args below meth c H locs cells slots lsr X L)
theorem j_iload {i : Nat} {x : Int32} (hd : decode y.2.1 pc = .ok (.iload i, 2)) (hl : ls[i]? = some (some (.int x))) (k : J g y d mc ms Q h (pc + 2) ls (.int x :: st)) : J g y d mc ms Q h pc ls (st) := by
  intro p e R s m args below meth c H locs cells slots lsr X L
  exact lv_iload X.1.1 X.1.2.1 hd (L.at hl) (k p e R s m args below meth c H locs cells slots lsr X L)
theorem j_aload_n {j : Fin 4} {a : Nat} (hd : decode y.2.1 pc = .ok (.aload_n j, 1)) (hl : ls[(j : Nat)]? = some (some (.ref a))) (k : J g y d mc ms Q h (pc + 1) ls (.ref a :: st)) : J g y d mc ms Q h pc ls (st) := by
  intro p e R s m args below meth c H locs cells slots lsr X L
  exact lv_aload_n X.1.1 X.1.2.1 hd rfl (L.at hl) (k p e R s m args below meth c H locs cells slots lsr X L)
theorem j_aload {i : Nat} {a : Nat} (hd : decode y.2.1 pc = .ok (.aload i, 2)) (hl : ls[i]? = some (some (.ref a))) (k : J g y d mc ms Q h (pc + 2) ls (.ref a :: st)) : J g y d mc ms Q h pc ls (st) := by
  intro p e R s m args below meth c H locs cells slots lsr X L
  exact lv_aload X.1.1 X.1.2.1 hd (L.at hl) (k p e R s m args below meth c H locs cells slots lsr X L)
theorem j_istore_n {x : Int32} {i : Nat} {j : Fin 4} {ls2 : List (Option Value)} (hd : decode y.2.1 pc = .ok (.istore_n j, 1)) (hi : (j : Nat) = i) (hn : i < y.2.2.1) (hs : ls.set i (some (.int x)) = ls2) (k : J g y d mc ms Q h (pc + 1) ls2 (st)) : J g y d mc ms Q h pc ls ((.int x) :: st) := by
  intro p e R s m args below meth c H locs cells slots lsr X L
  subst hs
  refine lv_istore_n X.1.1 X.1.2.1 hd hi L.has hn rfl (fun lsr2 L2 => ?_)
  exact k p e R s m args below meth c H locs cells slots lsr2 X (L.set rfl L2)
theorem j_istore {x : Int32} {i : Nat}  {ls2 : List (Option Value)} (hd : decode y.2.1 pc = .ok (.istore i, 2))  (hn : i < y.2.2.1) (hs : ls.set i (some (.int x)) = ls2) (k : J g y d mc ms Q h (pc + 2) ls2 (st)) : J g y d mc ms Q h pc ls ((.int x) :: st) := by
  intro p e R s m args below meth c H locs cells slots lsr X L
  subst hs
  refine lv_istore X.1.1 X.1.2.1 hd L.has hn rfl (fun lsr2 L2 => ?_)
  exact k p e R s m args below meth c H locs cells slots lsr2 X (L.set rfl L2)
theorem j_astore_n {a : Nat} {i : Nat} {j : Fin 4} {ls2 : List (Option Value)} (hd : decode y.2.1 pc = .ok (.astore_n j, 1)) (hi : (j : Nat) = i) (hn : i < y.2.2.1) (hs : ls.set i (some (.ref a)) = ls2) (k : J g y d mc ms Q h (pc + 1) ls2 (st)) : J g y d mc ms Q h pc ls ((.ref a) :: st) := by
  intro p e R s m args below meth c H locs cells slots lsr X L
  subst hs
  refine lv_astore_n X.1.1 X.1.2.1 hd hi L.has hn rfl (fun lsr2 L2 => ?_)
  exact k p e R s m args below meth c H locs cells slots lsr2 X (L.set rfl L2)
theorem j_iinc {i : Nat} {n : Int} {x v : Int32} {ls2 : List (Option Value)} (hd : decode y.2.1 pc = .ok (.iinc i n, 3)) (hl : ls[i]? = some (some (.int x))) (hv : x + Int32.ofInt n = v) (hn : i < y.2.2.1) (hs : ls.set i (some (.int v)) = ls2) (k : J g y d mc ms Q h (pc + 3) ls2 (st)) : J g y d mc ms Q h pc ls (st) := by
  intro p e R s m args below meth c H locs cells slots lsr X L
  subst hs
  obtain ⟨q, hq⟩ := List.getElem?_of_mem ((jlist_mem (g := g) ls 0 (i, .int x)).mpr ⟨i, .int x, hl, by rw [Nat.zero_add]; rfl⟩)
  refine lv_iinc X.1.1 X.1.2.1 hd L.has hq hv hn rfl (fun lsr2 L2 => ?_)
  exact k p e R s m args below meth c H locs cells slots lsr2 X (L.set (v := .int v) rfl L2)
theorem j_iadd {x z : Int32} (hd : decode y.2.1 pc = .ok (.iadd, 1))  (k : J g y d mc ms Q h (pc + 1) ls (.int (x + z) :: st)) : J g y d mc ms Q h pc ls (.int z :: .int x :: st) := by
  intro p e R s m args below meth c H locs cells slots lsr X L
  exact lv_iadd X.1.1 X.1.2.1 hd  (k p e R s m args below meth c H locs cells slots lsr X L)
theorem j_isub {x z : Int32} (hd : decode y.2.1 pc = .ok (.isub, 1))  (k : J g y d mc ms Q h (pc + 1) ls (.int (x - z) :: st)) : J g y d mc ms Q h pc ls (.int z :: .int x :: st) := by
  intro p e R s m args below meth c H locs cells slots lsr X L
  exact lv_isub X.1.1 X.1.2.1 hd  (k p e R s m args below meth c H locs cells slots lsr X L)
theorem j_imul {x z : Int32} (hd : decode y.2.1 pc = .ok (.imul, 1))  (k : J g y d mc ms Q h (pc + 1) ls (.int (x * z) :: st)) : J g y d mc ms Q h pc ls (.int z :: .int x :: st) := by
  intro p e R s m args below meth c H locs cells slots lsr X L
  exact lv_imul X.1.1 X.1.2.1 hd  (k p e R s m args below meth c H locs cells slots lsr X L)
theorem j_iand {x z : Int32} (hd : decode y.2.1 pc = .ok (.iand, 1))  (k : J g y d mc ms Q h (pc + 1) ls (.int (x &&& z) :: st)) : J g y d mc ms Q h pc ls (.int z :: .int x :: st) := by
  intro p e R s m args below meth c H locs cells slots lsr X L
  exact lv_iand X.1.1 X.1.2.1 hd  (k p e R s m args below meth c H locs cells slots lsr X L)
theorem j_ior {x z : Int32} (hd : decode y.2.1 pc = .ok (.ior, 1))  (k : J g y d mc ms Q h (pc + 1) ls (.int (x ||| z) :: st)) : J g y d mc ms Q h pc ls (.int z :: .int x :: st) := by
  intro p e R s m args below meth c H locs cells slots lsr X L
  exact lv_ior X.1.1 X.1.2.1 hd  (k p e R s m args below meth c H locs cells slots lsr X L)
theorem j_ixor {x z : Int32} (hd : decode y.2.1 pc = .ok (.ixor, 1))  (k : J g y d mc ms Q h (pc + 1) ls (.int (x ^^^ z) :: st)) : J g y d mc ms Q h pc ls (.int z :: .int x :: st) := by
  intro p e R s m args below meth c H locs cells slots lsr X L
  exact lv_ixor X.1.1 X.1.2.1 hd  (k p e R s m args below meth c H locs cells slots lsr X L)
theorem j_ishl {x z : Int32} (hd : decode y.2.1 pc = .ok (.ishl, 1))  (k : J g y d mc ms Q h (pc + 1) ls (.int (x <<< (z &&& 31)) :: st)) : J g y d mc ms Q h pc ls (.int z :: .int x :: st) := by
  intro p e R s m args below meth c H locs cells slots lsr X L
  exact lv_ishl X.1.1 X.1.2.1 hd  (k p e R s m args below meth c H locs cells slots lsr X L)
theorem j_ishr {x z : Int32} (hd : decode y.2.1 pc = .ok (.ishr, 1))  (k : J g y d mc ms Q h (pc + 1) ls (.int (x >>> (z &&& 31)) :: st)) : J g y d mc ms Q h pc ls (.int z :: .int x :: st) := by
  intro p e R s m args below meth c H locs cells slots lsr X L
  exact lv_ishr X.1.1 X.1.2.1 hd  (k p e R s m args below meth c H locs cells slots lsr X L)
theorem j_idiv {x z : Int32} (hd : decode y.2.1 pc = .ok (.idiv, 1)) (hne : ¬ z = 0) (k : J g y d mc ms Q h (pc + 1) ls (.int (x / z) :: st)) : J g y d mc ms Q h pc ls (.int z :: .int x :: st) := by
  intro p e R s m args below meth c H locs cells slots lsr X L
  exact lv_idiv X.1.1 X.1.2.1 hd hne (k p e R s m args below meth c H locs cells slots lsr X L)
theorem j_irem {x z : Int32} (hd : decode y.2.1 pc = .ok (.irem, 1)) (hne : ¬ z = 0) (k : J g y d mc ms Q h (pc + 1) ls (.int (x - x / z * z) :: st)) : J g y d mc ms Q h pc ls (.int z :: .int x :: st) := by
  intro p e R s m args below meth c H locs cells slots lsr X L
  exact lv_irem X.1.1 X.1.2.1 hd hne (k p e R s m args below meth c H locs cells slots lsr X L)
theorem j_ineg {x : Int32} (hd : decode y.2.1 pc = .ok (.ineg, 1)) (k : J g y d mc ms Q h (pc + 1) ls (.int (-x) :: st)) : J g y d mc ms Q h pc ls (.int x :: st) := by
  intro p e R s m args below meth c H locs cells slots lsr X L
  exact lv_ineg X.1.1 X.1.2.1 hd (k p e R s m args below meth c H locs cells slots lsr X L)
theorem j_iushr {x z v : Int32} (hd : decode y.2.1 pc = .ok (.iushr, 1)) (hv : (x.toUInt32 >>> (z.toUInt32 &&& Int32.toUInt32 31)).toInt32 = v) (k : J g y d mc ms Q h (pc + 1) ls (.int v :: st)) : J g y d mc ms Q h pc ls (.int z :: .int x :: st) := by
  intro p e R s m args below meth c H locs cells slots lsr X L
  exact lv_iushr X.1.1 X.1.2.1 hd hv (k p e R s m args below meth c H locs cells slots lsr X L)
theorem j_ladd {x z : Int64} (hd : decode y.2.1 pc = .ok (.ladd, 1)) (k : J g y d mc ms Q h (pc + 1) ls (.long (x + z) :: st)) : J g y d mc ms Q h pc ls (.long z :: .long x :: st) := by
  intro p e R s m args below meth c H locs cells slots lsr X L
  exact lv_ladd X.1.1 X.1.2.1 hd (k p e R s m args below meth c H locs cells slots lsr X L)
theorem j_lcmp {x z : Int64} (hd : decode y.2.1 pc = .ok (.lcmp, 1)) (k : J g y d mc ms Q h (pc + 1) ls (.int (lg_cmp x z) :: st)) : J g y d mc ms Q h pc ls (.long z :: .long x :: st) := by
  intro p e R s m args below meth c H locs cells slots lsr X L
  exact W.lcmp X.1.1 X.1.2.1 hd (k p e R s m args below meth c H locs cells slots lsr X L)
theorem j_dup {v : Value} (hd : decode y.2.1 pc = .ok (.dup, 1)) (hc : v.category = 1) (k : J g y d mc ms Q h (pc + 1) ls (v :: v :: st)) : J g y d mc ms Q h pc ls (v :: st) := by
  intro p e R s m args below meth c H locs cells slots lsr X L
  exact lv_dup X.1.1 X.1.2.1 hd (by rw [jv_cat]; exact hc) (k p e R s m args below meth c H locs cells slots lsr X L)
theorem j_dup2 {v w : Value} (hd : decode y.2.1 pc = .ok (.dup2, 1)) (hc : v.category = 1) (hc2 : w.category = 1) (k : J g y d mc ms Q h (pc + 1) ls (v :: w :: v :: w :: st)) : J g y d mc ms Q h pc ls (v :: w :: st) := by
  intro p e R s m args below meth c H locs cells slots lsr X L
  exact lv_dup2_11 X.1.1 X.1.2.1 hd (by rw [jv_cat]; exact hc) (by rw [jv_cat]; exact hc2) (k p e R s m args below meth c H locs cells slots lsr X L)
theorem j_if_eq {x : Int32} {off : Int} {tgt : Nat} (hd : decode y.2.1 pc = .ok (.ifCond .eq off, 3)) (ht : (pc : Int) + off = (tgt : Int)) (kt : x = 0 → J g y d mc ms Q h tgt ls st) (kf : ¬ x = 0 → J g y d mc ms Q h (pc + 3) ls st) : J g y d mc ms Q h pc ls (.int x :: st) := by
  intro p e R s m args below meth c H locs cells slots lsr X L
  exact lv_if_eq X.1.1 X.1.2.1 hd ht (fun q => kt q p e R s m args below meth c H locs cells slots lsr X L) (fun q => kf q p e R s m args below meth c H locs cells slots lsr X L)
theorem j_icmp_eq {x z : Int32} {off : Int} {tgt : Nat} (hd : decode y.2.1 pc = .ok (.if_icmp .eq off, 3)) (ht : (pc : Int) + off = (tgt : Int)) (kt : x = z → J g y d mc ms Q h tgt ls st) (kf : ¬ x = z → J g y d mc ms Q h (pc + 3) ls st) : J g y d mc ms Q h pc ls (.int z :: .int x :: st) := by
  intro p e R s m args below meth c H locs cells slots lsr X L
  exact lv_icmp_eq X.1.1 X.1.2.1 hd ht (fun q => kt q p e R s m args below meth c H locs cells slots lsr X L) (fun q => kf q p e R s m args below meth c H locs cells slots lsr X L)
theorem j_if_ne {x : Int32} {off : Int} {tgt : Nat} (hd : decode y.2.1 pc = .ok (.ifCond .ne off, 3)) (ht : (pc : Int) + off = (tgt : Int)) (kt : ¬ x = 0 → J g y d mc ms Q h tgt ls st) (kf : x = 0 → J g y d mc ms Q h (pc + 3) ls st) : J g y d mc ms Q h pc ls (.int x :: st) := by
  intro p e R s m args below meth c H locs cells slots lsr X L
  exact lv_if_ne X.1.1 X.1.2.1 hd ht (fun q => kt q p e R s m args below meth c H locs cells slots lsr X L) (fun q => kf q p e R s m args below meth c H locs cells slots lsr X L)
theorem j_icmp_ne {x z : Int32} {off : Int} {tgt : Nat} (hd : decode y.2.1 pc = .ok (.if_icmp .ne off, 3)) (ht : (pc : Int) + off = (tgt : Int)) (kt : ¬ x = z → J g y d mc ms Q h tgt ls st) (kf : x = z → J g y d mc ms Q h (pc + 3) ls st) : J g y d mc ms Q h pc ls (.int z :: .int x :: st) := by
  intro p e R s m args below meth c H locs cells slots lsr X L
  exact lv_icmp_ne X.1.1 X.1.2.1 hd ht (fun q => kt q p e R s m args below meth c H locs cells slots lsr X L) (fun q => kf q p e R s m args below meth c H locs cells slots lsr X L)
theorem j_if_lt {x : Int32} {off : Int} {tgt : Nat} (hd : decode y.2.1 pc = .ok (.ifCond .lt off, 3)) (ht : (pc : Int) + off = (tgt : Int)) (kt : x < 0 → J g y d mc ms Q h tgt ls st) (kf : ¬ x < 0 → J g y d mc ms Q h (pc + 3) ls st) : J g y d mc ms Q h pc ls (.int x :: st) := by
  intro p e R s m args below meth c H locs cells slots lsr X L
  exact lv_if_lt X.1.1 X.1.2.1 hd ht (fun q => kt q p e R s m args below meth c H locs cells slots lsr X L) (fun q => kf q p e R s m args below meth c H locs cells slots lsr X L)
theorem j_icmp_lt {x z : Int32} {off : Int} {tgt : Nat} (hd : decode y.2.1 pc = .ok (.if_icmp .lt off, 3)) (ht : (pc : Int) + off = (tgt : Int)) (kt : x < z → J g y d mc ms Q h tgt ls st) (kf : ¬ x < z → J g y d mc ms Q h (pc + 3) ls st) : J g y d mc ms Q h pc ls (.int z :: .int x :: st) := by
  intro p e R s m args below meth c H locs cells slots lsr X L
  exact lv_icmp_lt X.1.1 X.1.2.1 hd ht (fun q => kt q p e R s m args below meth c H locs cells slots lsr X L) (fun q => kf q p e R s m args below meth c H locs cells slots lsr X L)
theorem j_if_ge {x : Int32} {off : Int} {tgt : Nat} (hd : decode y.2.1 pc = .ok (.ifCond .ge off, 3)) (ht : (pc : Int) + off = (tgt : Int)) (kt : 0 ≤ x → J g y d mc ms Q h tgt ls st) (kf : ¬ 0 ≤ x → J g y d mc ms Q h (pc + 3) ls st) : J g y d mc ms Q h pc ls (.int x :: st) := by
  intro p e R s m args below meth c H locs cells slots lsr X L
  exact lv_if_ge X.1.1 X.1.2.1 hd ht (fun q => kt q p e R s m args below meth c H locs cells slots lsr X L) (fun q => kf q p e R s m args below meth c H locs cells slots lsr X L)
theorem j_icmp_ge {x z : Int32} {off : Int} {tgt : Nat} (hd : decode y.2.1 pc = .ok (.if_icmp .ge off, 3)) (ht : (pc : Int) + off = (tgt : Int)) (kt : z ≤ x → J g y d mc ms Q h tgt ls st) (kf : ¬ z ≤ x → J g y d mc ms Q h (pc + 3) ls st) : J g y d mc ms Q h pc ls (.int z :: .int x :: st) := by
  intro p e R s m args below meth c H locs cells slots lsr X L
  exact lv_icmp_ge X.1.1 X.1.2.1 hd ht (fun q => kt q p e R s m args below meth c H locs cells slots lsr X L) (fun q => kf q p e R s m args below meth c H locs cells slots lsr X L)
theorem j_if_gt {x : Int32} {off : Int} {tgt : Nat} (hd : decode y.2.1 pc = .ok (.ifCond .gt off, 3)) (ht : (pc : Int) + off = (tgt : Int)) (kt : 0 < x → J g y d mc ms Q h tgt ls st) (kf : ¬ 0 < x → J g y d mc ms Q h (pc + 3) ls st) : J g y d mc ms Q h pc ls (.int x :: st) := by
  intro p e R s m args below meth c H locs cells slots lsr X L
  exact lv_if_gt X.1.1 X.1.2.1 hd ht (fun q => kt q p e R s m args below meth c H locs cells slots lsr X L) (fun q => kf q p e R s m args below meth c H locs cells slots lsr X L)
theorem j_icmp_gt {x z : Int32} {off : Int} {tgt : Nat} (hd : decode y.2.1 pc = .ok (.if_icmp .gt off, 3)) (ht : (pc : Int) + off = (tgt : Int)) (kt : z < x → J g y d mc ms Q h tgt ls st) (kf : ¬ z < x → J g y d mc ms Q h (pc + 3) ls st) : J g y d mc ms Q h pc ls (.int z :: .int x :: st) := by
  intro p e R s m args below meth c H locs cells slots lsr X L
  exact lv_icmp_gt X.1.1 X.1.2.1 hd ht (fun q => kt q p e R s m args below meth c H locs cells slots lsr X L) (fun q => kf q p e R s m args below meth c H locs cells slots lsr X L)
theorem j_if_le {x : Int32} {off : Int} {tgt : Nat} (hd : decode y.2.1 pc = .ok (.ifCond .le off, 3)) (ht : (pc : Int) + off = (tgt : Int)) (kt : x ≤ 0 → J g y d mc ms Q h tgt ls st) (kf : ¬ x ≤ 0 → J g y d mc ms Q h (pc + 3) ls st) : J g y d mc ms Q h pc ls (.int x :: st) := by
  intro p e R s m args below meth c H locs cells slots lsr X L
  exact lv_if_le X.1.1 X.1.2.1 hd ht (fun q => kt q p e R s m args below meth c H locs cells slots lsr X L) (fun q => kf q p e R s m args below meth c H locs cells slots lsr X L)
theorem j_icmp_le {x z : Int32} {off : Int} {tgt : Nat} (hd : decode y.2.1 pc = .ok (.if_icmp .le off, 3)) (ht : (pc : Int) + off = (tgt : Int)) (kt : x ≤ z → J g y d mc ms Q h tgt ls st) (kf : ¬ x ≤ z → J g y d mc ms Q h (pc + 3) ls st) : J g y d mc ms Q h pc ls (.int z :: .int x :: st) := by
  intro p e R s m args below meth c H locs cells slots lsr X L
  exact lv_icmp_le X.1.1 X.1.2.1 hd ht (fun q => kt q p e R s m args below meth c H locs cells slots lsr X L) (fun q => kf q p e R s m args below meth c H locs cells slots lsr X L)
theorem j_goto {off : Int} {tgt : Nat} (hd : decode y.2.1 pc = .ok (.goto off, 3)) (ht : (pc : Int) + off = (tgt : Int)) (k : J g y d mc ms Q h (tgt) ls (st)) : J g y d mc ms Q h pc ls (st) := by
  intro p e R s m args below meth c H locs cells slots lsr X L
  exact lv_goto X.1.1 X.1.2.1 hd ht (k p e R s m args below meth c H locs cells slots lsr X L)
theorem j_ifnull {a : Nat} {off : Int} (hd : decode y.2.1 pc = .ok (.ifnull off, 3)) (k : J g y d mc ms Q h (pc + 3) ls (st)) : J g y d mc ms Q h pc ls (.ref a :: st) := by
  intro p e R s m args below meth c H locs cells slots lsr X L
  exact lv_ifnull X.1.1 X.1.2.1 hd (k p e R s m args below meth c H locs cells slots lsr X L)
theorem j_lookup {dflt : Int} {ps : Array (Int × Int)} {len : Nat} {x : Int32} {off : Int} {tgt : Nat} (hd : decode y.2.1 pc = .ok (.lookupswitch dflt ps, len)) (hp : (ps.toList.zip (ps.toList.drop 1)).all (fun (a, next) => a.1 < next.1) = true) (ho : Op.lookupswitch.offset ps.toList dflt x.toInt = off) (ht : (pc : Int) + off = (tgt : Int)) (k : J g y d mc ms Q h (tgt) ls (st)) : J g y d mc ms Q h pc ls (.int x :: st) := by
  intro p e R s m args below meth c H locs cells slots lsr X L
  exact lv_lookup X.1.1 X.1.2.1 hd hp ho ht (k p e R s m args below meth c H locs cells slots lsr X L)
theorem j_tableOut {dflt lo hi : Int} {offs : Array Int} {len : Nat} {x : Int32} {tgt : Nat} (hd : decode y.2.1 pc = .ok (.tableswitch dflt lo hi offs, len)) (hx : x.toInt < lo ∨ hi < x.toInt) (ht : (pc : Int) + dflt = (tgt : Int)) (k : J g y d mc ms Q h (tgt) ls (st)) : J g y d mc ms Q h pc ls (.int x :: st) := by
  intro p e R s m args below meth c H locs cells slots lsr X L
  exact lv_tableOut X.1.1 X.1.2.1 hd hx ht (k p e R s m args below meth c H locs cells slots lsr X L)
theorem j_tableIn {dflt lo hi : Int} {offs : Array Int} {len : Nat} {x : Int32} {off : Int} {tgt : Nat} (hd : decode y.2.1 pc = .ok (.tableswitch dflt lo hi offs, len)) (h1 : ¬ x.toInt < lo) (h2 : ¬ hi < x.toInt) (ho : offs[(x.toInt - lo).toNat]? = some off) (ht : (pc : Int) + off = (tgt : Int)) (k : J g y d mc ms Q h (tgt) ls (st)) : J g y d mc ms Q h pc ls (.int x :: st) := by
  intro p e R s m args below meth c H locs cells slots lsr X L
  exact lv_tableIn X.1.1 X.1.2.1 hd h1 h2 ho ht (k p e R s m args below meth c H locs cells slots lsr X L)
end
section
variable {g : GG} {y : MI} {d mc ms : Nat} {Q : Option Value → List AC → Prop} {h : List AC} {pc : Nat} {ls : List (Option Value)} {st : List Value}
theorem jZ.of {below : List Frame} {args : Array Value} {s : State} {kc ks : Nat} {r : Option Value} {t : State} (hq : Q r h) (b : MQ below (fun _ st o u => o = .returned (r.map (jv g)) ∧ jH g u.heap h ∧ va_F (jA g) st u) args s kc ks (jA g) t) : jZ g below args s kc ks Q t := ⟨r, h, hq, b⟩
theorem j_ireturn {x : Int32} (hd : decode y.2.1 pc = .ok (.ireturn, 1)) (hr : y.2.2.2 = some .int) (hq : Q (some (.int x)) h) : J g y d mc ms Q h pc ls [.int x] := by
  intro p e R s m args below meth c H locs cells slots lsr X L
  have hlocks := X.1.2.2.2.2.1
  refine W.widen (k := cells + mc) (n := slots + ms) (Nat.le_add_right _ _) (Nat.le_add_right _ _) ?_
  intro T hT S
  obtain ⟨t, a, b⟩ := W.iret (v := x) (Qc := fun _ st o u => o = .returned ((some (Value.int x)).map (jv g)) ∧ jH g u.heap h ∧ va_F (jA g) st u) (free := jA g) X.1.1 X.1.2.1 (X.1.2.2.2.1.trans hr) (fun t ht hW => ⟨rfl, by rw [ht]; exact X.2.2.1, X.2.2.2.F ht⟩) X.2.2.2.2.2 hd hlocks T hT S
  exact ⟨t, a, jZ.of hq b⟩
theorem j_zreturn {x : Bool} (hd : decode y.2.1 pc = .ok (.ireturn, 1)) (hr : y.2.2.2 = some .boolean) {v : Int32} (hv : v = (match x with | true => 1 | false => 0)) (hq : Q (some (.int v)) h) : J g y d mc ms Q h pc ls [.int v] := by
  intro p e R s m args below meth c H locs cells slots lsr X L
  have hlocks := X.1.2.2.2.2.1
  refine W.widen (k := cells + mc) (n := slots + ms) (Nat.le_add_right _ _) (Nat.le_add_right _ _) ?_
  intro T hT S
  have hn : narrow .boolean (.int v) = .int v := by subst hv; cases x <;> rfl
  obtain ⟨t, a, b⟩ := W.zret (v := v) (Qc := fun _ st o u => o = .returned ((some (Value.int v)).map (jv g)) ∧ jH g u.heap h ∧ va_F (jA g) st u) (free := jA g) X.1.1 X.1.2.1 (X.1.2.2.2.1.trans hr) hn (fun t ht hW => ⟨rfl, by rw [ht]; exact X.2.2.1, X.2.2.2.F ht⟩) X.2.2.2.2.2 hd hlocks T hT S
  exact ⟨t, a, jZ.of hq b⟩
theorem j_lreturn {x : Int64} (hd : decode y.2.1 pc = .ok (.lreturn, 1)) (hr : y.2.2.2 = some .long) (hq : Q (some (.long x)) h) : J g y d mc ms Q h pc ls [.long x] := by
  intro p e R s m args below meth c H locs cells slots lsr X L
  have hlocks := X.1.2.2.2.2.1
  refine W.widen (k := cells + mc) (n := slots + ms) (Nat.le_add_right _ _) (Nat.le_add_right _ _) ?_
  intro T hT S
  obtain ⟨t, a, b⟩ := W.lret (v := x) (Qc := fun _ st o u => o = .returned ((some (Value.long x)).map (jv g)) ∧ jH g u.heap h ∧ va_F (jA g) st u) (free := jA g) X.1.1 X.1.2.1 (X.1.2.2.2.1.trans hr) (fun t ht hW => ⟨rfl, by rw [ht]; exact X.2.2.1, X.2.2.2.F ht⟩) X.2.2.2.2.2 hd hlocks T hT S
  exact ⟨t, a, jZ.of hq b⟩
theorem j_return (hd : decode y.2.1 pc = .ok (.return_, 1)) (hr : y.2.2.2 = none) (hq : Q none h) : J g y d mc ms Q h pc ls [] := by
  intro p e R s m args below meth c H locs cells slots lsr X L
  have hlocks := X.1.2.2.2.2.1
  refine W.widen (k := cells + mc) (n := slots + ms) (Nat.le_add_right _ _) (Nat.le_add_right _ _) ?_
  intro T hT S
  obtain ⟨t, a, b⟩ := W.vret (Qc := fun _ st o u => o = .returned ((none : Option Value).map (jv g)) ∧ jH g u.heap h ∧ va_F (jA g) st u) (free := jA g) X.1.1 X.1.2.1 (X.1.2.2.2.1.trans hr) (fun t ht hW => ⟨rfl, by rw [ht]; exact X.2.2.1, X.2.2.2.F ht⟩) X.2.2.2.2.2 hd hlocks T hT S
  exact ⟨t, a, jZ.of hq b⟩
end
end
section
/-! rows for fields, arrays, new cells -/
theorem jad_inj {g : GG} {H : Heap} {h : List AC} (X : jH g H h) {i j : Nat} (e : jad g i = jad g j) : i = j := by
  have hb := X.2.2.1
  cases i with
  | zero => cases j with
    | zero => rfl
    | succ j =>
      have : g.2.1 = g.2.2.1 + j := e
      omega
  | succ i => cases j with
    | zero =>
      have : g.2.2.1 + i = g.2.1 := e
      omega
    | succ j =>
      have : g.2.2.1 + i = g.2.2.1 + j := e
      omega
theorem jad_A {g : GG} {k : Nat} (h : 0 < k) : jA g (jad g k) := by
  cases k with
  | zero => omega
  | succ k => exact Nat.le_add_right _ _
theorem jcell.kept {g : GG} {H H1 : Heap} {a : Nat} {c : AC} (X : jcell g H a c) (hq : H1[a]? = H[a]?) : jcell g H1 a c := by
  obtain ⟨cell, h1, h2⟩ := X
  exact ⟨cell, hq.trans h1, h2⟩
theorem jH.set {g : GG} {H H1 : Heap} {h : List AC} {a : Nat} {c0 c : AC} (X : jH g H h) (ha : h[a]? = some c0) (hz : H1.size = H.size) (hq : ∀ q : Nat, q ≠ jad g a → H1[q]? = H[q]?) (hc : jcell g H1 (jad g a) c) (h11 : c.1 = c0.1) : jH g H1 (h.set a c) := by
  refine ⟨by rw [List.length_set]; exact X.1, by rw [hz, List.length_set]; exact X.2.1, X.2.2.1, fun c' hc' => ?_, fun k c' hk => ?_⟩
  · by_cases e : a = 0
    · subst e
      have hl : 0 < h.length := (List.getElem?_eq_some_iff.mp ha).1
      rw [List.getElem?_set_self hl] at hc'
      cases hc'
      rw [h11]
      exact X.2.2.2.1 c0 ha
    · rw [List.getElem?_set_ne e] at hc'
      exact X.2.2.2.1 c' hc'
  · by_cases e : k = a
    · subst e
      have hl : k < h.length := (List.getElem?_eq_some_iff.mp ha).1
      rw [List.getElem?_set_self hl] at hk
      cases hk
      exact hc
    · rw [List.getElem?_set_ne (Ne.symm e)] at hk
      exact (X.2.2.2.2 k c' hk).kept (hq _ (fun q => e (jad_inj X q)))
theorem jH.push {g : GG} {H H1 : Heap} {h : List AC} {c : AC} (X : jH g H h) (hz : H1.size = H.size + 1) (hq : ∀ q : Nat, q < H.size → H1[q]? = H[q]?) (hc : jcell g H1 H.size c) : jH g H1 (h ++ [c]) ∧ jad g h.length = H.size := by
  have hl := X.1
  have hs := X.2.1
  have hb := X.2.2.1
  have had : jad g h.length = H.size := by
    cases hn : h.length with
    | zero => omega
    | succ n => show g.2.2.1 + n = H.size; omega
  refine ⟨⟨by simp, by rw [hz]; simp; omega, hb, fun c' hc' => ?_, fun k c' hk => ?_⟩, had⟩
  · rw [List.getElem?_append_left (by omega)] at hc'
    exact X.2.2.2.1 c' hc'
  · by_cases hk2 : k < h.length
    · rw [List.getElem?_append_left hk2] at hk
      have hlt : jad g k < H.size := by
        obtain ⟨cell, h1, -⟩ := X.2.2.2.2 k c' hk
        exact (Array.getElem?_eq_some_iff.mp h1).1
      exact (X.2.2.2.2 k c' hk).kept (hq _ hlt)
    · rw [List.getElem?_append_right (by omega)] at hk
      have h0 : k - h.length < 1 := (List.getElem?_eq_some_iff.mp hk).1
      have hke : k = h.length := by omega
      subst hke
      rw [Nat.sub_self] at hk
      cases hk
      rw [had]
      exact hc
theorem jH.pos {g : GG} {H : Heap} {h : List AC} {a : Nat} {c : AC} (X : jH g H h) (ha : h[a]? = some c) (hc : c.1 ≠ 11) : 0 < a := by
  cases a with
  | zero => exact absurd (X.2.2.2.1 c ha) hc
  | succ a => exact Nat.succ_pos a
/-- what the tables say of a class: its words, its fields' types, its names apart -/
theorem jcls_w : ∀ (ci : Nat) (q : vw_C), vwCl[ci]? = some q → ∀ w ∈ u_ws q.1 q.2.1 q.2.2, w ∈ lw_good := by
  have key : ∀ {l : List Cond}, (∀ w ∈ l, w ∈ lw_tbl) → l.all goodWord = true → ∀ w ∈ l, w ∈ lw_good := fun h1 h2 w hw => lw_good_of (h1 w hw) (List.all_eq_true.mp h2 w hw)
  intro ci q h
  match ci, h with
  | 0, h => cases h; exact key (l := wsX00) (by decide +kernel) (by decide +kernel)
  | 1, h => cases h; exact key (l := wsX10) (by decide +kernel) (by decide +kernel)
  | 2, h => cases h; exact key (l := wsX20) (by decide +kernel) (by decide +kernel)
  | 3, h => cases h; exact key (l := wsX30) (by decide +kernel) (by decide +kernel)
  | 4, h => cases h; exact key (l := wsX40) (by decide +kernel) (by decide +kernel)
  | 5, h => cases h; exact key (l := wsX50) (by decide +kernel) (by decide +kernel)
  | 6, h => cases h; exact key (l := wsX60) (by decide +kernel) (by decide +kernel)
  | 7, h => cases h; exact key (l := wsX70) (by decide +kernel) (by decide +kernel)
  | n + 8, h => simp [vwCl] at h
theorem jcls_t : ∀ (ci : Nat) (q : vw_C), vwCl[ci]? = some q → ∃ ty : Nat → FieldType, (∀ k, k < q.2.2 → parseFieldDescriptor (q.2.1 k).2.2.1 = some (ty k)) ∧ ∀ a, a < q.2.2 → ∀ b, b < q.2.2 → a ≠ b → (q.2.1 a).2.1 ≠ (q.2.1 b).2.1 := by
  intro ci q h
  match ci, h with
  | 0, h => cases h; exact ⟨tyX0, tyX0_ok, nmX0⟩
  | 1, h => cases h; exact ⟨tyX1, tyX1_ok, nmX1⟩
  | 2, h => cases h; exact ⟨tyX2, tyX2_ok, nmX2⟩
  | 3, h => cases h; exact ⟨tyX3, tyX3_ok, nmX3⟩
  | 4, h => cases h; exact ⟨tyX4, tyX4_ok, nmX4⟩
  | 5, h => cases h; exact ⟨tyX5, tyX5_ok, nmX5⟩
  | 6, h => cases h; exact ⟨tyX6, tyX6_ok, nmX6⟩
  | 7, h => cases h; exact ⟨tyX7, tyX7_ok, nmX7⟩
  | n + 8, h => simp [vwCl] at h
def iv (n : Nat) (f : Nat → Int32) : List Value := (List.range n).map fun j => .int (f j)
def zv (n : Nat) (f : Nat → Bool) : List Value := (List.range n).map fun j => .int (b2i (f j))
theorem iv_len (n : Nat) (f : Nat → Int32) : (iv n f).length = n := by simp [iv]
theorem zv_len (n : Nat) (f : Nat → Bool) : (zv n f).length = n := by simp [zv]
theorem iv_at {n : Nat} (f : Nat → Int32) {j : Nat} (hj : j < n) : (iv n f)[j]? = some (.int (f j)) := by simp [iv, hj]
theorem zv_at {n : Nat} (f : Nat → Bool) {j : Nat} (hj : j < n) : (zv n f)[j]? = some (.int (b2i (f j))) := by simp [zv, hj]
theorem iv_in {n : Nat} {f : Nat → Int32} {j : Nat} {v : Value} (h : (iv n f)[j]? = some v) : j < n ∧ v = .int (f j) := by
  have hj : j < n := by
    have := (List.getElem?_eq_some_iff.mp h).1
    rwa [iv_len] at this
  rw [iv_at f hj] at h
  exact ⟨hj, (Option.some.inj h).symm⟩
theorem zv_in {n : Nat} {f : Nat → Bool} {j : Nat} {v : Value} (h : (zv n f)[j]? = some v) : j < n ∧ v = .int (b2i (f j)) := by
  have hj : j < n := by
    have := (List.getElem?_eq_some_iff.mp h).1
    rwa [zv_len] at this
  rw [zv_at f hj] at h
  exact ⟨hj, (Option.some.inj h).symm⟩
theorem jcell_put {g : GG} {H' : Heap} {a ci i : Nat} {fs : List Value} {v : Value} {cell : Cell} {q : vw_C} (hc8 : ci < 8) (hq : vwCl[ci]? = some q) (hap : ∀ x y, x < q.2.2 → y < q.2.2 → x ≠ y → g.2.2.2.1.2 ci x ≠ g.2.2.2.1.2 ci y) (hi : i < q.2.2) (c2 : ∀ z, cell.vm ≠ .statics z) (c3 : cell.vm ≠ .unknown) (e1 : cell.cls = g.2.2.2.1.1 ci) (e2 : cell.vm = .none)
    (e4 : ∀ q : vw_C, vwCl[ci]? = some q → fs.length = q.2.2) (e3 : ∀ (k : Nat) (v : Value), fs[k]? = some v → cell.slots[g.2.2.2.1.2 ci k]? = some (jv g v)) (g1 : H'[a]? = some (cell.setSlot (g.2.2.2.1.2 ci i) (jv g v))) : jcell g H' a (ci, fs.set i v) := by
  have hN : fs.length = q.2.2 := e4 q hq
  have hlen : i < fs.length := by rw [hN]; exact hi
  refine ⟨_, g1, c2, c3, Or.inl ⟨hc8, e1, e2, fun q' hq' => by rw [List.length_set]; exact e4 q' hq', fun j w hw => ?_⟩⟩
  by_cases hji : j = i
  · subst hji
    rw [List.getElem?_set_self hlen] at hw
    cases hw
    obtain ⟨v0, hv0⟩ : ∃ v0, fs[j]? = some v0 := ⟨_, List.getElem?_eq_getElem hlen⟩
    have := k2_hasslot (e3 j v0 hv0)
    simp [Cell.setSlot, this]
  · rw [List.getElem?_set_ne (Ne.symm hji)] at hw
    have hj := e3 j w hw
    have hjN : j < q.2.2 := by rw [← hN]; exact (List.getElem?_eq_some_iff.mp hw).1
    have hne := hap i j hi hjN (Ne.symm hji)
    simp only [Cell.setSlot]
    rw [Array.getElem?_setIfInBounds_ne hne]
    exact hj
section
variable {g : GG} {y : MI} {d mc ms : Nat} {Q : Option Value → List AC → Prop} {h : List AC} {pc : Nat} {ls : List (Option Value)} {st : List Value}
theorem j_getf {idx ci i a : Nat} {fin : Bool} {ty : FieldType} {fs : List Value} {v : Value} (hd : decode y.2.1 pc = .ok (.getfield idx, 3)) (hl : jfl y.1.cls idx ci i fin ty) (ha : h[a]? = some (ci, fs)) (hv : fs[i]? = some v) (k : J g y d mc ms Q h (pc + 3) ls (v :: st)) : J g y d mc ms Q h pc ls (.ref a :: st) := by
  intro p e R s m args below meth c H locs cells slots lsr X L
  obtain ⟨hc8, q, hq, hi, hlk, -⟩ := hl
  obtain ⟨cell, c1, c2, c3, c4⟩ := X.2.2.1.2.2.2.2 a _ ha
  rcases c4 with ⟨-, e1, e2, e4, e3⟩ | ⟨c8, -⟩
  · obtain ⟨hS, hfc, kC, hkC, hkind⟩ := X.1.2.2.2.2.2.2.2.2.1.1.1 ci q hq
    obtain ⟨cf, kf, fi, f, hf, hsl⟩ := hS i hi
    have hin := jcls_w ci q hq
    refine W.getf (cell := cell) (v := jv g v) X.1.1 X.1.2.1 X.1.2.2.2.2.2.1 (X.1.2.2.2.2.2.2.2.1 _ hlk) hf (u_facts hfc hkC (u_lays X.1.2.2.2.2.2.2.2.1 hin hi) hf).1 c1 c3 ?_ rfl rfl hd (k p e R s m args below meth c H locs cells slots lsr X L)
    rw [hsl]
    exact e3 i v hv
  · exact absurd hc8 (Nat.not_lt.mpr c8)
theorem j_putf {idx ci i a : Nat} {ty : FieldType} {fs : List Value} {v : Value} {h2 : List AC} (hd : decode y.2.1 pc = .ok (.putfield idx, 3)) (hl : jfl y.1.cls idx ci i false ty) (hv : jfit ty v) (ha : h[a]? = some (ci, fs)) (hs : h.set a (ci, fs.set i v) = h2) (k : J g y d mc ms Q h2 (pc + 3) ls st) : J g y d mc ms Q h pc ls (v :: .ref a :: st) := by
  intro p e R s m args below meth c H locs cells slots lsr X L
  subst hs
  obtain ⟨hc8, q, hq, hi, hlk, hfin, hty⟩ := hl
  obtain ⟨cell, c1, c2, c3, c4⟩ := X.2.2.1.2.2.2.2 a _ ha
  rcases c4 with ⟨-, e1, e2, e4, e3⟩ | ⟨c8, -⟩
  · have hK := X.1.2.2.2.2.2.2.2.2.1.1
    obtain ⟨hS, hfc, kC, hkC, hkind⟩ := hK.1 ci q hq
    obtain ⟨cf, kf, fi, f, hf, hsl⟩ := hS i hi
    have hin := jcls_w ci q hq
    obtain ⟨ty0, hty0, hnm⟩ := jcls_t ci q hq
    have hts := X.1.2.2.2.2.2.2.2.1
    have hap := va_apart (own := y.1.cls) hts hin ty0 hty0 hnm hK hq
    have hlay := hts _ (hin _ (u_in_lay hi))
    unfold u_lay at hlay
    rw [if_neg (by rw [hfin]; decide)] at hlay
    have hst := (u_facts hfc hkC (u_lays hts hin hi) hf).1
    have h6 := u_store hfc hkC hkind hlay hf hty (hv g).1 (hv g).2
    have hpos := X.2.2.1.pos ha (by show ci ≠ 11; omega)
    have hN : fs.length = q.2.2 := e4 q hq
    have hlen : i < fs.length := by rw [hN]; exact hi
    obtain ⟨v0, hv0⟩ : ∃ v0, fs[i]? = some v0 := ⟨_, List.getElem?_eq_getElem hlen⟩
    refine W.putK X.1.1 X.1.2.1 (f := f) ⟨X.1.2.2.2.2.2.1, hts _ hlk, ⟨_, _, _, hf⟩, hst⟩ (by rw [e1]; exact h6) c1 e2 (by rw [hsl]; exact k2_hasslot (e3 i v0 hv0)) rfl rfl hd fun H' g1 g2 g3 => ?_
    rw [hsl] at g1 ⊢
    exact k p e R s m args below meth c H' _ cells slots lsr ⟨X.1, X.2.1, X.2.2.1.set ha g2 g3 (jcell_put hc8 hq hap hi c2 c3 e1 e2 e4 e3 g1) rfl, X.2.2.2.put g2 g3 (jad_A hpos)⟩ L
  · exact absurd hc8 (Nat.not_lt.mpr c8)
theorem j_putF {idx ci i a : Nat} {ty : FieldType} {fs : List Value} {v : Value} {h2 : List AC} (hd : decode y.2.1 pc = .ok (.putfield idx, 3)) (hl : jfl y.1.cls idx ci i true ty) (hinit : y.1.name = "<init>") (hdecl : ∀ q : vw_C, vwCl[ci]? = some q → (q.2.1 i).1 = y.1.cls) (hv : jfit ty v) (ha : h[a]? = some (ci, fs)) (hs : h.set a (ci, fs.set i v) = h2) (k : J g y d mc ms Q h2 (pc + 3) ls st) : J g y d mc ms Q h pc ls (v :: .ref a :: st) := by
  intro p e R s m args below meth c H locs cells slots lsr X L
  subst hs
  obtain ⟨hc8, q, hq, hi, hlk, hfin, hty⟩ := hl
  have hdecl := hdecl q hq
  obtain ⟨cell, c1, c2, c3, c4⟩ := X.2.2.1.2.2.2.2 a _ ha
  rcases c4 with ⟨-, e1, e2, e4, e3⟩ | ⟨c8, -⟩
  · have hK := X.1.2.2.2.2.2.2.2.2.1.1
    obtain ⟨hS, hfc, kC, hkC, hkind⟩ := hK.1 ci q hq
    obtain ⟨cf, kf, fi, f, hf, hsl⟩ := hS i hi
    have hin := jcls_w ci q hq
    obtain ⟨ty0, hty0, hnm⟩ := jcls_t ci q hq
    have hts := X.1.2.2.2.2.2.2.2.1
    have hown := X.1.2.2.2.2.2.1
    have hap := va_apart (own := y.1.cls) hts hin ty0 hty0 hnm hK hq
    have hlay := hts _ (hin _ (u_in_lay hi))
    unfold u_lay at hlay
    rw [if_pos hfin] at hlay
    have hst := (u_facts hfc hkC (u_lays hts hin hi) hf).1
    have hcf : m.cls = cf := by
      obtain ⟨_, _, c', _, _, _, -, -, hf', -, -, -, hown2, -⟩ := Cond.laysFinal_spec hlay
      have z1 : c' = cf := by have := hf.symm.trans hf'; simp at this; exact this.1.symm
      rw [hdecl] at hown2
      rw [← z1]; exact Option.some.inj (hown.symm.trans hown2)
    have h6 := u_fits hfc hkC hkind (Or.inr hlay) hf hty (hv g).1 (hv g).2
    have hpos := X.2.2.1.pos ha (by show ci ≠ 11; omega)
    have hN : fs.length = q.2.2 := e4 q hq
    have hlen : i < fs.length := by rw [hN]; exact hi
    obtain ⟨v0, hv0⟩ : ∃ v0, fs[i]? = some v0 := ⟨_, List.getElem?_eq_getElem hlen⟩
    refine W.putFinK X.1.1 X.1.2.1 hown (hts _ hlk) hf hst hcf (X.1.2.2.2.2.2.2.1.trans hinit) (by rw [e1]; exact h6) c1 e2 (by rw [hsl]; exact k2_hasslot (e3 i v0 hv0)) rfl rfl hd fun H' g1 g2 g3 => ?_
    rw [hsl] at g1 ⊢
    exact k p e R s m args below meth c H' _ cells slots lsr ⟨X.1, X.2.1, X.2.2.1.set ha g2 g3 (jcell_put hc8 hq hap hi c2 c3 e1 e2 e4 e3 g1) rfl, X.2.2.2.put g2 g3 (jad_A hpos)⟩ L
  · exact absurd hc8 (Nat.not_lt.mpr c8)
/-- an array's cell -/
theorem jarr {H : Heap} {h : List AC} {a t : Nat} {vs : List Value} (X : jH g H h) (ht : 8 ≤ t) (ha : h[a]? = some (t, vs)) : ∃ cell : Cell, H[jad g a]? = some cell ∧ (∀ q, cell.vm ≠ .statics q) ∧ cell.vm ≠ .unknown ∧ cell.cls = g.2.2.2.2 t ∧ cell.slots.size = vs.length ∧ ∀ (k : Nat) (v : Value), vs[k]? = some v → cell.slots[k]? = some (jv g v) := by
  obtain ⟨cell, c1, c2, c3, c4⟩ := X.2.2.2.2 a _ ha
  rcases c4 with ⟨c8, -⟩ | ⟨-, e1, e2, e3⟩
  · exact absurd ht (Nat.not_le.mpr c8)
  · exact ⟨cell, c1, c2, c3, e1, e2, e3⟩
theorem jty_8 {t : Nat} {ty : FieldType} (ht : jty t = some ty) : 8 ≤ t := by
  match t, ht with
  | 0, h | 1, h | 2, h | 3, h | 4, h | 5, h | 6, h | 7, h => simp [jty] at h
  | n + 8, _ => omega
theorem jarrOf {s : State} (hK : jK g s) {t : Nat} {ty : FieldType} (ht : jty t = some ty) {cell : Cell} (hc : cell.cls = g.2.2.2.2 t) (hv : ∀ q, cell.vm ≠ .statics q) : s.isArrayOf cell ty := by
  obtain ⟨k, comp, h1, h2, -⟩ := hK.2.1 t ty ht
  exact ⟨hv, k, by rw [hc]; exact h1, comp, h2⟩
theorem j_iald {a t n : Nat} {f : Nat → Int32} {i : Int32} (hd : decode y.2.1 pc = .ok (.iaload, 1)) (ha : h[a]? = some (t, iv n f)) (ht : jty t = some .int) (hi : vp_in i n) (k : J g y d mc ms Q h (pc + 1) ls (.int (f i.toNatClampNeg) :: st)) : J g y d mc ms Q h pc ls (.int i :: .ref a :: st) := by
  intro p e R s m args below meth c H locs cells slots lsr X L
  obtain ⟨cell, c1, c2, c3, e1, e2, e3⟩ := jarr X.2.2.1 (jty_8 ht) ha
  have hlt : i.toNatClampNeg < n := Nat.not_le.mp fun q => hi (Or.inr q)
  exact W.iald (v := .int (f i.toNatClampNeg)) X.1.1 X.1.2.1 c1 (jarrOf X.1.2.2.2.2.2.2.2.2.1 ht e1 c2) c3 (by rw [e2, iv_len]; exact hi) (e3 _ _ (iv_at f hlt)) rfl rfl hd (k p e R s m args below meth c H locs cells slots lsr X L)
theorem j_zald {a n : Nat} {f : Nat → Bool} {i : Int32} (hd : decode y.2.1 pc = .ok (.baload, 1)) (ha : h[a]? = some (9, zv n f)) (hi : vp_in i n) (k : J g y d mc ms Q h (pc + 1) ls (.int (b2i (f i.toNatClampNeg)) :: st)) : J g y d mc ms Q h pc ls (.int i :: .ref a :: st) := by
  intro p e R s m args below meth c H locs cells slots lsr X L
  obtain ⟨cell, c1, c2, c3, e1, e2, e3⟩ := jarr X.2.2.1 (by decide) ha
  have hlt : i.toNatClampNeg < n := Nat.not_le.mp fun q => hi (Or.inr q)
  exact W.zald (v := .int (b2i (f i.toNatClampNeg))) X.1.1 X.1.2.1 c1 (jarrOf X.1.2.2.2.2.2.2.2.2.1 rfl e1 c2) c3 (by rw [e2, zv_len]; exact hi) (e3 _ _ (zv_at f hlt)) rfl rfl hd (k p e R s m args below meth c H locs cells slots lsr X L)
theorem j_aald {a n b : Nat} {vs : List Value} {i : Int32} (hd : decode y.2.1 pc = .ok (.aaload, 1)) (ha : h[a]? = some (10, vs)) (hn : vs.length = n) (hi : vp_in i n) (hv : vs[i.toNatClampNeg]? = some (.ref b)) (k : J g y d mc ms Q h (pc + 1) ls (.ref b :: st)) : J g y d mc ms Q h pc ls (.int i :: .ref a :: st) := by
  intro p e R s m args below meth c H locs cells slots lsr X L
  obtain ⟨cell, c1, c2, c3, e1, e2, e3⟩ := jarr X.2.2.1 (by decide) ha
  exact W.aald (v := jv g (.ref b)) (ty := .object "LychWeights$Scene") X.1.1 X.1.2.1 c1 (jarrOf X.1.2.2.2.2.2.2.2.2.1 rfl e1 c2) rfl c3 (by rw [e2, hn]; exact hi) (e3 _ _ hv) rfl rfl hd (k p e R s m args below meth c H locs cells slots lsr X L)
theorem j_alen {a t : Nat} {vs : List Value} {ty : FieldType} {x : Int32} (hd : decode y.2.1 pc = .ok (.arraylength, 1)) (ha : h[a]? = some (t, vs)) (ht : jty t = some ty) (hx : Int32.ofNat vs.length = x) (k : J g y d mc ms Q h (pc + 1) ls (.int x :: st)) : J g y d mc ms Q h pc ls (.ref a :: st) := by
  intro p e R s m args below meth c H locs cells slots lsr X L
  obtain ⟨cell, c1, c2, c3, e1, e2, e3⟩ := jarr X.2.2.1 (jty_8 ht) ha
  exact W.alen (n := x) X.1.1 X.1.2.1 c1 (jarrOf X.1.2.2.2.2.2.2.2.2.1 ht e1 c2) (by rw [e2]; exact hx) rfl rfl hd (k p e R s m args below meth c H locs cells slots lsr X L)
theorem jcell_store {H H' : Heap} {a t j : Nat} {vs : List Value} {v : Value} {cell : Cell} (ht : 8 ≤ t) (hj : j < vs.length) (c2 : ∀ z, cell.vm ≠ .statics z) (c3 : cell.vm ≠ .unknown) (e1 : cell.cls = g.2.2.2.2 t) (e2 : cell.slots.size = vs.length) (e3 : ∀ (k : Nat) (v : Value), vs[k]? = some v → cell.slots[k]? = some (jv g v)) (g1 : H'[a]? = some (cell.setSlot j (jv g v))) : jcell g H' a (t, vs.set j v) := by
  refine ⟨_, g1, c2, c3, Or.inr ⟨ht, e1, ?_, fun k w hw => ?_⟩⟩
  · simp [Cell.setSlot, e2]
  · by_cases hk : k = j
    · subst hk
      rw [List.getElem?_set_self hj] at hw
      cases hw
      simp [Cell.setSlot, e2, hj]
    · rw [List.getElem?_set_ne (Ne.symm hk)] at hw
      simp only [Cell.setSlot]
      rw [Array.getElem?_setIfInBounds_ne (Ne.symm hk)]
      exact e3 k w hw
theorem iv_set {n : Nat} (f : Nat → Int32) (j : Nat) (x : Int32) : (iv n f).set j (.int x) = iv n (upd f j x) := by
  apply List.ext_getElem?
  intro k
  by_cases hk : k < n
  · by_cases e : k = j
    · subst e
      rw [List.getElem?_set_self (by rw [iv_len]; exact hk), iv_at _ hk]
      simp [upd]
    · rw [List.getElem?_set_ne (Ne.symm e), iv_at _ hk, iv_at _ hk]
      simp [upd, e]
  · rw [List.getElem?_eq_none (by rw [List.length_set, iv_len]; omega), List.getElem?_eq_none (by rw [iv_len]; omega)]
def updB (f : Nat → Bool) (k : Nat) (x : Bool) : Nat → Bool := fun j => if j = k then x else f j
theorem zv_set {n : Nat} (f : Nat → Bool) (j : Nat) (x : Bool) : (zv n f).set j (.int (b2i x)) = zv n (updB f j x) := by
  apply List.ext_getElem?
  intro k
  by_cases hk : k < n
  · by_cases e : k = j
    · subst e
      rw [List.getElem?_set_self (by rw [zv_len]; exact hk), zv_at _ hk]
      simp [updB]
    · rw [List.getElem?_set_ne (Ne.symm e), zv_at _ hk, zv_at _ hk]
      simp [updB, e]
  · rw [List.getElem?_eq_none (by rw [List.length_set, zv_len]; omega), List.getElem?_eq_none (by rw [zv_len]; omega)]
theorem j_iast {a n : Nat} {f : Nat → Int32} {i x : Int32} {h2 : List AC} (hd : decode y.2.1 pc = .ok (.iastore, 1)) (ha : h[a]? = some (8, iv n f)) (hi : vp_in i n) (hs : h.set a (8, iv n (upd f i.toNatClampNeg x)) = h2) (k : J g y d mc ms Q h2 (pc + 1) ls st) : J g y d mc ms Q h pc ls (.int x :: .int i :: .ref a :: st) := by
  intro p e R s m args below meth c H locs cells slots lsr X L
  subst hs
  obtain ⟨cell, c1, c2, c3, e1, e2, e3⟩ := jarr X.2.2.1 (by decide) ha
  have hlt : i.toNatClampNeg < n := Nat.not_le.mp fun q => hi (Or.inr q)
  refine W.iast X.1.1 X.1.2.1 c1 (jarrOf (t := 8) X.1.2.2.2.2.2.2.2.2.1 rfl e1 c2) c3 (by rw [e2, iv_len]; exact hi) rfl rfl hd fun H' g1 g2 g3 => ?_
  have hc := jcell_store (g := g) (H := H) (v := .int x) (by decide) (by rw [iv_len]; exact hlt) c2 c3 e1 e2 e3 g1
  rw [iv_set] at hc
  exact k p e R s m args below meth c H' _ cells slots lsr ⟨X.1, X.2.1, X.2.2.1.set ha g2 g3 hc rfl, X.2.2.2.put g2 g3 (jad_A (X.2.2.1.pos ha (fun q => by cases q)))⟩ L
theorem j_zast {a n : Nat} {f : Nat → Bool} {i x : Int32} {b : Bool} {h2 : List AC} (hd : decode y.2.1 pc = .ok (.bastore, 1)) (hb : x = b2i b) (ha : h[a]? = some (9, zv n f)) (hi : vp_in i n) (hs : h.set a (9, zv n (updB f i.toNatClampNeg b)) = h2) (k : J g y d mc ms Q h2 (pc + 1) ls st) : J g y d mc ms Q h pc ls (.int x :: .int i :: .ref a :: st) := by
  intro p e R s m args below meth c H locs cells slots lsr X L
  subst hs
  subst hb
  obtain ⟨cell, c1, c2, c3, e1, e2, e3⟩ := jarr X.2.2.1 (by decide) ha
  have hlt : i.toNatClampNeg < n := Nat.not_le.mp fun q => hi (Or.inr q)
  refine W.zast X.1.1 X.1.2.1 c1 (jarrOf (t := 9) X.1.2.2.2.2.2.2.2.2.1 rfl e1 c2) c3 (by rw [e2, zv_len]; exact hi) rfl rfl hd fun H' g1 g2 g3 => ?_
  have hn : narrow .boolean (.int (b2i b)) = .int (b2i b) := by cases b <;> rfl
  rw [hn] at g1
  have hc := jcell_store (g := g) (H := H) (v := .int (b2i b)) (by decide) (by rw [zv_len]; exact hlt) c2 c3 e1 e2 e3 g1
  rw [zv_set] at hc
  exact k p e R s m args below meth c H' _ cells slots lsr ⟨X.1, X.2.1, X.2.2.1.set ha g2 g3 hc rfl, X.2.2.2.put g2 g3 (jad_A (X.2.2.1.pos ha (fun q => by cases q)))⟩ L
end
end
section
/-! rows for new cells and for calls -/
/-- what a new object's slots hold -/
def jdef (ci : Nat) (fs : List Value) : Prop := ∀ q : vw_C, vwCl[ci]? = some q → fs.length = q.2.2 ∧ ∀ k, k < q.2.2 → ∃ ty : FieldType, parseFieldDescriptor (q.2.1 k).2.2.1 = some ty ∧ ∃ v, fs[k]? = some v ∧ defaultValue ty = v ∧ ∀ g : GG, jv g v = v
section
variable {g : GG} {y : MI} {d mc ms : Nat} {Q : Option Value → List AC → Prop} {h : List AC} {pc : Nat} {ls : List (Option Value)} {st : List Value}
theorem va_S.grow {A : Nat → Prop} {H0 H H1 : Heap} {locs : List Loc} (h : va_S A H0 H locs) (hz : H1.size = H.size + 1) (hq : ∀ q : Nat, q < H.size → H1[q]? = H[q]?) : va_S A H0 H1 locs :=
  ⟨Nat.le_trans h.1 (by omega), fun x h1 h2 => (hq x (Nat.lt_of_lt_of_le h1 h.1)).trans (h.2.1 x h1 h2), h.2.2⟩
theorem j_new {idx ci N : Nat} {fs : List Value} (hd : decode y.2.1 pc = .ok (.new idx, 3)) (hl : jnl y.1.cls idx ci N) (hf : jdef ci fs) {mc1 ms1 : Nat} (hmc : mc = mc1 + 1) (hms : ms = ms1 + N) (k : J g y d mc1 ms1 Q (h ++ [(ci, fs)]) (pc + 3) ls (.ref h.length :: st)) : J g y d mc ms Q h pc ls st := by
  intro p e R s m args below meth c H locs cells slots lsr X L
  subst hmc
  subst hms
  obtain ⟨hc8, q, hq, rfl, w1, w2, w3⟩ := hl
  obtain ⟨hf1, hf2⟩ := hf q hq
  have hK := X.1.2.2.2.2.2.2.2.2.1.1
  have hKn := hK.1 ci q hq
  have hts := X.1.2.2.2.2.2.2.2.1
  obtain ⟨ty0, hty0, hnm⟩ := jcls_t ci q hq
  have hr1 := X.2.1.1
  have hr2 := X.2.1.2
  refine W.newcK X.1.1 X.1.2.1 X.1.2.2.2.2.2.1 (hts _ w1) (hts _ w2) (hts _ w3) rfl hd (by omega) (by omega) hKn.2.1 rfl fun H1 kC hkC e1 z1 o1 => ?_
  have hb := u_born ty0 hts (jcls_w ci q hq) hKn hkC e1 hty0
  obtain ⟨cell, b1, b2, b3, b4⟩ := hb
  have hcell : jcell g H1 H.size (ci, fs) := by
    refine ⟨cell, b1, (fun z hz => by rw [b3] at hz; cases hz), (by rw [b3]; exact fun z => by cases z), Or.inl ⟨hc8, b2, b3, fun q' hq' => ?_, fun j v hj => ?_⟩⟩
    · cases hq.symm.trans hq'
      exact hf1
    · have hjN : j < q.2.2 := by rw [← hf1]; exact (List.getElem?_eq_some_iff.mp hj).1
      obtain ⟨ty, t1, w, t2, t3, t4⟩ := hf2 j hjN
      rw [show fs[j]? = some v from hj] at t2
      cases t2
      rw [t4 g, ← t3, b4 j hjN]
      have := (hty0 j hjN).symm.trans t1
      show some (defaultValue (ty0 j)) = _
      rw [Option.some.inj this]
  obtain ⟨hH1, had⟩ := X.2.2.1.push z1 o1 hcell
  have kk := k p e R s m args below meth c H1 locs (cells + 1) (slots + q.2.2) lsr ⟨X.1, ⟨by omega, by omega⟩, hH1, X.2.2.2.grow z1 o1⟩ L
  rw [show cells + 1 + mc1 = cells + (mc1 + 1) by omega, show slots + q.2.2 + ms1 = slots + (ms1 + q.2.2) by omega] at kk
  rw [show (Value.ref h.length :: st).map (jv g) = .ref H.size :: st.map (jv g) by rw [List.map_cons, ← had]; rfl] at kk
  exact kk
theorem j_newarr {at' : ArrayType} {ty : FieldType} {t N : Nat} {i : Int32} {vs : List Value} (hd : decode y.2.1 pc = .ok (.newarray at', 2)) (hty : newarray.typeOf at' = ty) (ht : jty t = some ty) (ht11 : t < 11) (hw : Cond.arrayClass ty ∈ lw_good) (hi : ¬ i < 0) (hN : i.toNatClampNeg = N) (hb : N * componentBytes ty ≤ 536870912)
    (hvs : vs.length = N) (hdv : ∀ (k : Nat) (v : Value), vs[k]? = some v → jv g v = defaultValue ty) {mc1 ms1 : Nat} (hmc : mc = mc1 + 1) (hms : ms = ms1 + N) (k : J g y d mc1 ms1 Q (h ++ [(t, vs)]) (pc + 2) ls (.ref h.length :: st)) : J g y d mc ms Q h pc ls (.int i :: st) := by
  intro p e R s m args below meth c H locs cells slots lsr X L
  subst hmc
  subst hms
  subst hty
  have hts := X.1.2.2.2.2.2.2.2.1
  have hr1 := X.2.1.1
  have hr2 := X.2.1.2
  refine va_newaK X.1.1 X.1.2.1 (hts _ hw) rfl hd rfl hi hN hb (by omega) (by omega) rfl fun H1 cA e1 z1 o1 hAr hNm => ?_
  have hcA : cA = g.2.2.2.2 t := Option.some.inj (hNm.symm.trans (X.1.2.2.2.2.2.2.2.2.1.2.2.1 t ht11 _ ht))
  have hcell : jcell g H1 H.size (t, vs) := by
    refine ⟨_, e1, (fun z hz => by cases hz), (fun z => by cases z), Or.inr ⟨jty_8 ht, hcA, by rw [arrV_size]; exact hvs.symm, fun j v hj => ?_⟩⟩
    have hjN : j < N := by rw [← hvs]; exact (List.getElem?_eq_some_iff.mp hj).1
    rw [arrV_read _ _ hjN, hdv j v hj]
  obtain ⟨hH1, had⟩ := X.2.2.1.push z1 o1 hcell
  have kk := k p e R s m args below meth c H1 locs (cells + 1) (slots + N) lsr ⟨X.1, ⟨by omega, by omega⟩, hH1, X.2.2.2.grow z1 o1⟩ L
  rw [show cells + 1 + mc1 = cells + (mc1 + 1) by omega, show slots + N + ms1 = slots + (ms1 + N) by omega] at kk
  rw [show (Value.ref h.length :: st).map (jv g) = .ref H.size :: st.map (jv g) by rw [List.map_cons, ← had]; rfl] at kk
  exact kk
theorem j_anewarr {idx N : Nat} {i : Int32} (hd : decode y.2.1 pc = .ok (.anewarray idx, 3)) (hw : Cond.classLink y.1.cls idx "LychWeights$Scene" ∈ lw_good) (hi : ¬ i < 0) (hN : i.toNatClampNeg = N) (hb : N * 4 ≤ 536870912)
    {mc1 ms1 : Nat} (hmc : mc = mc1 + 1) (hms : ms = ms1 + N) (k : J g y d mc1 ms1 Q (h ++ [(10, List.replicate N .null)]) (pc + 3) ls (.ref h.length :: st)) : J g y d mc ms Q h pc ls (.int i :: st) := by
  intro p e R s m args below meth c H locs cells slots lsr X L
  subst hmc
  subst hms
  subst hN
  have hts := X.1.2.2.2.2.2.2.2.1
  have hr1 := X.2.1.1
  have hr2 := X.2.1.2
  refine W.anew X.1.1 X.1.2.1 X.1.2.2.2.2.2.1 (hts _ hw) (va_AO.use X.1.2.2.2.2.2.2.2.2.1.2.2.2.2) rfl hd rfl hi hb (by omega) (by omega) fun cA kA comp hNm k1 k2 k3 => ?_
  have hcA : cA = g.2.2.2.2 10 := Option.some.inj (hNm.symm.trans (X.1.2.2.2.2.2.2.2.2.1.2.2.1 10 (by decide) _ rfl))
  have o1 : ∀ q : Nat, q < H.size → (H.push { cls := cA, slots := Array.replicate i.toNatClampNeg .null, vm := .none })[q]? = H[q]? := fun q hq => by
    rw [Array.getElem?_push, if_neg (Nat.ne_of_lt hq)]
  have z1 : (H.push ({ cls := cA, slots := Array.replicate i.toNatClampNeg .null, vm := .none } : Cell)).size = H.size + 1 := by simp
  have hcell : jcell g (H.push { cls := cA, slots := Array.replicate i.toNatClampNeg .null, vm := .none }) H.size (10, List.replicate i.toNatClampNeg .null) := by
    refine ⟨{ cls := cA, slots := Array.replicate i.toNatClampNeg .null, vm := .none }, by simp, (fun z hz => by cases hz), (fun z => by cases z), Or.inr ⟨show 8 ≤ 10 by decide, hcA, by simp, fun j v hj => ?_⟩⟩
    have hj : (List.replicate i.toNatClampNeg Value.null)[j]? = some v := hj
    rw [List.getElem?_replicate] at hj
    by_cases hjn : j < i.toNatClampNeg
    · rw [if_pos hjn] at hj
      cases hj
      simp [hjn, jv]
    · rw [if_neg hjn] at hj
      cases hj
  obtain ⟨hH1, had⟩ := X.2.2.1.push z1 o1 hcell
  have kk := k p e R s m args below meth c _ locs (cells + 1) (slots + i.toNatClampNeg) lsr ⟨X.1, ⟨by omega, by omega⟩, hH1, X.2.2.2.grow z1 o1⟩ L
  rw [show cells + 1 + mc1 = cells + (mc1 + 1) by omega, show slots + i.toNatClampNeg + ms1 = slots + (ms1 + i.toNatClampNeg) by omega] at kk
  rw [show (Value.ref h.length :: st).map (jv g) = .ref H.size :: st.map (jv g) by rw [List.map_cons, ← had]; rfl] at kk
  exact kk
theorem j_aast {a b n : Nat} {vs fs : List Value} {i : Int32} {h2 : List AC} (hd : decode y.2.1 pc = .ok (.aastore, 1)) (ha : h[a]? = some (10, vs)) (hn : vs.length = n) (hi : vp_in i n) (hb : h[b]? = some (4, fs)) (hs : h.set a (10, vs.set i.toNatClampNeg (.ref b)) = h2) (k : J g y d mc ms Q h2 (pc + 1) ls st) : J g y d mc ms Q h pc ls (.ref b :: .int i :: .ref a :: st) := by
  intro p e R s m args below meth c H locs cells slots lsr X L
  subst hs
  have hlt : i.toNatClampNeg < n := Nat.not_le.mp fun q => hi (Or.inr q)
  have h0 : ¬ i < 0 := fun q => hi (Or.inl q)
  obtain ⟨cell, c1, c2, c3, e1, e2, e3⟩ := jarr X.2.2.1 (by decide) ha
  obtain ⟨cellV, v1, v2, v3, v4⟩ := X.2.2.1.2.2.2.2 b _ hb
  rcases v4 with ⟨-, w1, w2, -, -⟩ | ⟨c8, -⟩
  · have hK := X.1.2.2.2.2.2.2.2.2.1
    obtain ⟨kA, comp, k1, k2, k3⟩ := hK.2.1 10 _ rfl
    have hcls := (hK.1.1 4 (RX4, TX4, 6) rfl).2
    have hcomp := k3 rfl
    subst hcomp
    obtain ⟨kC, hkC, -⟩ := hcls.2
    refine W.aast X.1.1 X.1.2.1 c1 c2 c3 (by rw [e1]; exact k1) k2 rfl hkC ⟨h0, by rw [e2, hn]; exact hlt⟩ v1 v2 (by rw [w1]; exact hkC) (by rw [w1]; exact va_assign hcls) rfl rfl hd fun H' g1 g2 g3 => ?_
    have hc := jcell_store (g := g) (H := H) (v := .ref b) (by decide) (by rw [hn]; exact hlt) c2 c3 e1 e2 e3 g1
    exact k p e R s m args below meth c H' _ cells slots lsr ⟨X.1, X.2.1, X.2.2.1.set ha g2 g3 hc rfl, X.2.2.2.put g2 g3 (jad_A (X.2.2.1.pos ha (fun q => by cases q)))⟩ L
  · exact absurd c8 (show ¬ 8 ≤ 4 by decide)
theorem jroom {m : MethodId} {lsr : Array Slot} {rest : List Value} (hr : (rest.map fun v => v.category).sum ≤ 8) {st0 : List Value} : 2 * (F0 m pc lsr st0).monitorRoom + ((rest.map (jv g)).map fun v => v.category).sum ≤ 8 := by
  rw [jv_cats]
  exact lv_room (rest := st0) hr
theorem j_objinit {idx a : Nat} (hd : decode y.2.1 pc = .ok (.invokespecial idx, 3)) (hw : Cond.methodLink y.1.cls idx Lib.objectInit ∈ lw_good) (hw2 : Cond.instanceMethod Lib.objectInit ∈ lw_good) (hw3 : Cond.code Lib.objectInit ⟨#[0xb1]⟩ 1 none ∈ lw_good) (hd1 : 1 ≤ d) (hr : (st.map fun v => v.category).sum ≤ 8) (k : J g y d mc ms Q h (pc + 3) ls st) : J g y d mc ms Q h pc ls (.ref a :: st) := by
  intro p e R s m args below meth c H locs cells slots lsr X L
  have hts := X.1.2.2.2.2.2.2.2.1
  have r1 := X.1.2.2.2.2.2.2.2.2.2.1
  have r2 := X.1.2.2.2.2.2.2.2.2.2.2.1
  have hro := jroom (g := g) (m := m) (pc := pc) (lsr := lsr) (st0 := (Value.ref a :: st).map (jv g)) hr
  refine W.objInit X.1.1 X.1.2.1 X.1.2.2.2.2.2.1 (hts _ hw) (hts _ hw2) (hts _ hw3) rfl (by show lsr.size = _; rw [L.1]; exact X.1.2.2.1.symm) rfl hd (by omega) ?_ (k p e R s m args below meth c H locs cells slots lsr X L)
  omega
/-- a method's contract -/
def jws (y : MI) : List Cond := .code y.1 y.2.1 y.2.2.1 y.2.2.2 :: lw_good
def C (g : GG) (d mc ms : Nat) (y : MI) (av : List Value) (h : List AC) (Q : Option Value → List AC → Prop) : Prop :=
  ∀ R : Room, R.cells = mc → R.slots = ms → d ≤ R.frames → 64 * d ≤ R.locals →
    Met g.1 y.1 (jws y) R (fun a U => a = (av.map (jv g)).toArray ∧ g.2.2.1 ≤ U.heap.size ∧ jH g U.heap h ∧ jK g U)
      (fun _ st o t => ∃ (r : Option Value) (h' : List AC), Q r h' ∧ o = .returned (r.map (jv g)) ∧ jH g t.heap h' ∧ va_F (jA g) st t) mc ms (jA g)
theorem C.deeper {d' : Nat} {av : List Value} (hd : d ≤ d') (k : C g d mc ms y av h Q) : C g d' mc ms y av h Q :=
  fun R h1 h2 h3 h4 => k R h1 h2 (Nat.le_trans hd h3) (Nat.le_trans (Nat.mul_le_mul_left 64 hd) h4)
/-- the locals at a method's entry -/
def jent (n : Nat) (av : List Value) : List (Option Value) := av.map some ++ List.replicate (n - av.length) none
theorem jent_at : ∀ (av : List Value) (i : Nat), (∀ v ∈ av, v.category = 1) → ∀ (j : Nat) (v : Value), av[j]? = some v → (i + j, jv g v) ∈ lv_args i (av.map (jv g))
  | [], i, _, j, v, h => by simp at h
  | w :: av, i, hc, j, v, h => by
    have hw : (jv g w).category = 1 := by rw [jv_cat]; exact hc w List.mem_cons_self
    rw [List.map_cons, show lv_args i (jv g w :: av.map (jv g)) = (i, jv g w) :: lv_args (if (jv g w).category = 2 then i + 2 else i + 1) (av.map (jv g)) from rfl, hw]
    cases j with
    | zero =>
      simp at h
      subst h
      exact List.mem_cons_self
    | succ j =>
      refine List.mem_cons_of_mem _ ?_
      have := jent_at av (i + 1) (fun v hv => hc v (List.mem_cons_of_mem _ hv)) j v (by simpa using h)
      rw [show i + 1 + j = i + (j + 1) by omega] at this
      simpa using this
theorem lg_sl_one : ∀ (av : List Value), (∀ v ∈ av, v.category = 1) → (lg_sl (av.map (jv g))).length = av.length
  | [], _ => rfl
  | w :: av, hc => by
    have hw : (jv g w).category = 1 := by rw [jv_cat]; exact hc w List.mem_cons_self
    have := lg_sl_one av (fun v hv => hc v (List.mem_cons_of_mem _ hv))
    simp only [lg_sl, List.map_cons, List.flatMap_cons, hw] at this ⊢
    simp at this ⊢
    omega
theorem C.of {av : List Value} (hp : plainName y.1.cls = true) (hc : ∀ v ∈ av, v.category = 1) (hn : av.length ≤ y.2.2.1) (k : J g y d mc ms Q h 0 (jent y.2.2.1 av) []) : C g d mc ms y av h Q := by
  intro R h1 h2 h3 h4
  refine Met.ofW (cc := y.2.1) (maxL := y.2.2.1) (ret := y.2.2.2) hp rfl ?_
  intro p e s m args below meth c s₁ B hml hv
  obtain ⟨rfl, hb, hH, hK⟩ := hv
  have hts0 := atoms_spec (ws := jws y) B.pre
  have hown : s.vm.findClass y.1.cls = some m.cls := findClass_of_methodNamed B.named
  have hname : meth.name = y.1.name := (name_of_methodNamed B.named B.method).1
  rw [lg_entry_eq]
  have hl := lv_entry (av.map (jv g)) (n := y.2.2.1) (by rw [lg_sl_one av hc]; exact hn)
  generalize (lg_sl (av.map (jv g)) ++ List.replicate (y.2.2.1 - (lg_sl (av.map (jv g))).length) Slot.unset).toArray = lsr at hl ⊢
  have L : jL g y.2.2.1 lsr (jent y.2.2.1 av) := by
    refine ⟨hl.1, hl.2.1, by simp [jent]; omega, fun i v hi => ?_⟩
    have hi2 : av[i]? = some v := by
      unfold jent at hi
      by_cases e : i < av.length
      · rw [List.getElem?_append_left (by simpa using e)] at hi
        simpa using hi
      · rw [List.getElem?_append_right (by simp; omega)] at hi
        rw [List.getElem?_replicate] at hi
        split at hi
        · cases hi
        · cases hi
    refine ⟨hc v (List.mem_of_getElem? hi2), ?_⟩
    have := hl.2.2 _ (jent_at (g := g) av 0 hc i v hi2)
    simpa using this
  have kk := k p e R s m (av.map (jv g)).toArray below meth c s.heap [] 0 0 lsr ⟨⟨B.exec, B.bytes, hml, B.returns, B.notSynchronized, hown, hname, fun w hw => hts0 w (List.mem_cons_of_mem _ hw), hK, h3, h4, hb⟩, ⟨by omega, by omega⟩, hH, va_S.rf⟩ L
  intro T hT S
  obtain ⟨t, a, r, h', hq, o, b1, b2, b3, b4⟩ := kk T hT S
  rw [Nat.zero_add, Nat.zero_add] at b4
  exact ⟨t, a, o, b1, b2, ⟨r, h', hq, b3⟩, b4⟩
theorem C.blind {av : List Value} : FrameBlind (fun (a : Array Value) (U : State) => a = (av.map (jv g)).toArray ∧ g.2.2.1 ≤ U.heap.size ∧ jH g U.heap h ∧ jK g U) :=
  fun a U gf mk q => ⟨q.1, q.2.1, q.2.2.1, q.2.2.2.warm (s := U) (U := U.calling gf mk a) (State.WarmedH.refl U)⟩
def jroomOf (d mc ms : Nat) : Room := { frames := d, cells := mc, slots := ms, locals := 64 * d }
theorem jpay {s : State} {args : Array Value} (hts : ∀ w ∈ lw_good, w.before args s = true) {y' : MI} {n : Nat} (hm : jmc y' n) : ∀ w ∈ jws y', ∀ (a' : Array Value) (U : State), s.WarmedH U.vm → w.before a' U = true := by
  have hg : ∀ w ∈ lw_good, goodWord w = true := fun w hw => (List.mem_filter.mp hw).2
  refine pay_in hts (fun w hw => ?_)
  rcases List.mem_cons.mp hw with rfl | hw
  · exact ⟨hm.1, good_of_word (hg _ hm.1)⟩
  · exact ⟨hw, good_of_word (hg _ hw)⟩
/-- behind a call -/
theorem jback {mc' ms' mc1 : Nat} {ms1 : Nat} {Q' : Option Value → List AC → Prop} {p : Program} {e : Env} {R : Room} {s : State} {m : MethodId} {args : Array Value} {below : List Frame} {meth : Method} {c : Code} {H : Heap} {locs : List Loc} {cells slots : Nat} {lsr : Array Slot} {st0 : List Value}
    (X : jX g y d (mc' + mc1) (ms' + ms1) h p R s m args meth c H locs cells slots) (L : jL g y.2.2.1 lsr ls)
    (hr : va_Run p g.1 e R s m args below meth c H locs cells slots mc' ms' (F0 m pc lsr st0) (st.map (jv g)) (fun st o t => ∃ (r : Option Value) (h' : List AC), Q' r h' ∧ o = .returned (r.map (jv g)) ∧ jH g t.heap h' ∧ va_F (jA g) st t) (jA g))
    (k : ∀ (r : Option Value) (h' : List AC), Q' r h' → J g y d mc1 ms1 Q h' (pc + 3) ls (r.toList ++ st)) :
    W p g.1 e R s m args below meth c H locs cells slots (jZ g below args s (cells + (mc' + mc1)) (slots + (ms' + ms1)) Q) (F0 m pc lsr st0) := by
  intro T hT S
  obtain ⟨v, st₀, t, T', L', h0, S', hL, e1, e2, ⟨r, h', hq, ho, hH, hz, hk⟩, go⟩ := hr T hT S
  have hv : v = r.map (jv g) := by
    have := ho
    injection this
  subst hv
  rw [h0] at hz hk
  have hS := X.2.2.2
  have hS1 : va_S (jA g) s.heap T'.heap (locs ++ L') := by
    refine ⟨Nat.le_trans hS.1 (by rw [e1]; exact hz), fun q h1 h2 => ?_, fun q hq => ?_⟩
    · rw [e1, hk q (Nat.lt_of_lt_of_le h1 hS.1) h2]
      exact hS.2.1 q h1 h2
    · rcases List.mem_append.mp hq with h1 | h1
      · exact hS.2.2 q h1
      · exact hL q h1
  have hr1 := X.2.1.1
  have hr2 := X.2.1.2
  have kk := k r h' hq p e R s m args below meth c T'.heap (locs ++ L') (cells + mc') (slots + ms') lsr ⟨X.1, ⟨by omega, by omega⟩, by rw [e1]; exact hH, hS1⟩ L
  rw [show cells + mc' + mc1 = cells + (mc' + mc1) by omega, show slots + ms' + ms1 = slots + (ms' + ms1) by omega] at kk
  obtain ⟨t2, a1, b1⟩ := kk T' rfl S'
  refine ⟨t2, go t2 ?_, b1⟩
  have : (r.toList ++ st).map (jv g) = (r.map (jv g)).toList ++ st.map (jv g) := by cases r <;> simp
  rw [this] at a1
  exact a1
theorem jcall_S {y' : MI} {n idx d' mc' ms' mc1 ms1 : Nat} {As : List Value} {Q' : Option Value → List AC → Prop} {st0 : List Value} (hd : decode y.2.1 pc = .ok (.invokestatic idx, 3)) (hm : jmc y' n) (hw : Cond.methodLink y.1.cls idx y'.1 ∈ lw_good) (hw2 : Cond.static y'.1 ∈ lw_good) (hd' : d' < d) (hC : C g d' mc' ms' y' As h Q') (hst : st0 = As.reverse ++ st) (hn : As.length = n) (hr : (st.map fun v => v.category).sum ≤ 8)
    (k : ∀ (r : Option Value) (h' : List AC), Q' r h' → J g y d mc1 ms1 Q h' (pc + 3) ls (r.toList ++ st)) : J g y d (mc' + mc1) (ms' + ms1) Q h pc ls st0 := by
  intro p e R s m args below meth c H locs cells slots lsr X L
  subst hst
  obtain ⟨m1, m2, m3, m4, m5⟩ := hm
  have hts := X.1.2.2.2.2.2.2.2.1
  have r1 := X.1.2.2.2.2.2.2.2.2.2.1
  have r2 := X.1.2.2.2.2.2.2.2.2.2.2.1
  have hM := hC (jroomOf d' mc' ms') rfl rfl (Nat.le_refl _) (Nat.le_refl _)
  have hr1 := X.2.1.1
  have hr2 := X.2.1.2
  refine jback X L (va_runS (As := As.map (jv g)) (rest := st.map (jv g)) (n := n) ⟨X.1.1, X.1.2.1, X.1.2.2.1, X.1.2.2.2.2.2.1, hts⟩ hM ⟨⟨rfl, rfl, ?_, ?_, jpay hts ⟨m1, m2, m3, m4, m5⟩, List.mem_cons_self, hts _ m1, hts _ m2, m3, ?_, hts _ hw⟩, hts _ hw2⟩ ⟨C.blind, fun U hU hW => ⟨rfl, ?_, ?_, X.1.2.2.2.2.2.2.2.2.1.warm hW⟩⟩ rfl ?_ L.1 ?_ (jroom hr) hd ⟨?_, ?_⟩) k
  · show d' + 1 ≤ _; omega
  · show 8 + (_ + 11) + 64 * d' ≤ _; omega
  · intro sig hsig
    rw [hsig] at m4
    exact (Option.some.inj m4).symm
  · rw [hU]; exact Nat.le_trans X.1.2.2.2.2.2.2.2.2.2.2.2 X.2.2.2.1
  · rw [hU]; exact X.2.2.1
  · simpa using hn
  · simp
  · omega
  · omega
theorem jcall_V {y' : MI} {n idx d' mc' ms' mc1 ms1 a ci : Nat} {fs : List Value} {q : vw_C} {As : List Value} {Q' : Option Value → List AC → Prop} {st0 : List Value} (hd : decode y.2.1 pc = .ok (.invokevirtual idx, 3)) (hm : jmc y' n) (hw : Cond.methodLink y.1.cls idx y'.1 ∈ lw_good) (hw2 : Cond.instanceMethod y'.1 ∈ lw_good) (hw3 : Cond.selects y'.1.cls y'.1 y'.1 ∈ lw_good) (hq : vwCl[ci]? = some q) (hcls : y'.1.cls = q.1) (ha : h[a]? = some (ci, fs)) (hd' : d' < d) (hC : C g d' mc' ms' y' (.ref a :: As) h Q') (hst : st0 = As.reverse ++ .ref a :: st) (hn : As.length = n) (hr : (st.map fun v => v.category).sum ≤ 8)
    (k : ∀ (r : Option Value) (h' : List AC), Q' r h' → J g y d mc1 ms1 Q h' (pc + 3) ls (r.toList ++ st)) : J g y d (mc' + mc1) (ms' + ms1) Q h pc ls st0 := by
  intro p e R s m args below meth c H locs cells slots lsr X L
  subst hst
  obtain ⟨m1, m2, m3, m4, m5⟩ := hm
  have hts := X.1.2.2.2.2.2.2.2.1
  have r1 := X.1.2.2.2.2.2.2.2.2.2.1
  have r2 := X.1.2.2.2.2.2.2.2.2.2.2.1
  have hM := hC (jroomOf d' mc' ms') rfl rfl (Nat.le_refl _) (Nat.le_refl _)
  have hr1 := X.2.1.1
  have hr2 := X.2.1.2
  have hrecv : ∃ cell : Cell, H[jad g a]? = some cell ∧ cell.vm.isStatics = false ∧ s.vm.findClass q.1 = some cell.cls := by
    obtain ⟨cell, c1, c2, c3, c4⟩ := X.2.2.1.2.2.2.2 a _ ha
    rcases c4 with ⟨-, e1, e2, -⟩ | ⟨c8, -⟩
    · exact ⟨cell, c1, by rw [e2]; rfl, by rw [e1]; exact (X.1.2.2.2.2.2.2.2.2.1.1.1 ci q hq).2.1⟩
    · have : ci < vwCl.length := (List.getElem?_eq_some_iff.mp hq).1
      exact absurd this (Nat.not_lt.mpr c8)
  refine jback X L (va_runV (As := As.map (jv g)) (rest := st.map (jv g)) (n := n) (C := q.1) (b := jad g a) ⟨X.1.1, X.1.2.1, X.1.2.2.1, X.1.2.2.2.2.2.1, hts⟩ hM ⟨⟨rfl, rfl, ?_, ?_, jpay hts ⟨m1, m2, m3, m4, m5⟩, List.mem_cons_self, hts _ m1, hts _ m2, m3, ?_, hts _ hw⟩, hts _ hw2, by rw [← hcls]; exact hts _ hw3⟩ ⟨C.blind, hrecv, fun U hU hW => ⟨rfl, ?_, ?_, X.1.2.2.2.2.2.2.2.2.1.warm hW⟩⟩ rfl ?_ L.1 ?_ (jroom hr) hd ⟨?_, ?_⟩) k
  · show d' + 1 ≤ _; omega
  · show 8 + (_ + 11) + 64 * d' ≤ _; omega
  · intro sig hsig
    rw [hsig] at m4
    exact (Option.some.inj m4).symm
  · rw [hU]; exact Nat.le_trans X.1.2.2.2.2.2.2.2.2.2.2.2 X.2.2.2.1
  · rw [hU]; exact X.2.2.1
  · simpa using hn
  · simp [jv]
  · omega
  · omega
theorem jcall_I {y' : MI} {n idx d' mc' ms' mc1 ms1 a : Nat} {As : List Value} {Q' : Option Value → List AC → Prop} {st0 : List Value} (hd : decode y.2.1 pc = .ok (.invokespecial idx, 3)) (hm : jmc y' n) (hret : y'.2.2.2 = none) (hname : y'.1.name = "<init>") (hw : Cond.methodLink y.1.cls idx y'.1 ∈ lw_good) (hw2 : Cond.instanceMethod y'.1 ∈ lw_good) (hd' : d' < d) (hC : C g d' mc' ms' y' (.ref a :: As) h Q') (hst : st0 = As.reverse ++ .ref a :: st) (hn : As.length = n) (hr : (st.map fun v => v.category).sum ≤ 8)
    (k : ∀ (r : Option Value) (h' : List AC), Q' r h' → J g y d mc1 ms1 Q h' (pc + 3) ls (r.toList ++ st)) : J g y d (mc' + mc1) (ms' + ms1) Q h pc ls st0 := by
  intro p e R s m args below meth c H locs cells slots lsr X L
  subst hst
  obtain ⟨m1, m2, m3, m4, m5⟩ := hm
  have hts := X.1.2.2.2.2.2.2.2.1
  have r1 := X.1.2.2.2.2.2.2.2.2.2.1
  have r2 := X.1.2.2.2.2.2.2.2.2.2.2.1
  have hM := hC (jroomOf d' mc' ms') rfl rfl (Nat.le_refl _) (Nat.le_refl _)
  have hr1 := X.2.1.1
  have hr2 := X.2.1.2
  have hm1 := m1
  rw [hret] at hm1
  refine jback X L (va_runI (As := As.map (jv g)) (rest := st.map (jv g)) (n := n) (b := jad g a) (bytes := y'.2.1) (maxL := y'.2.2.1) ⟨X.1.1, X.1.2.1, X.1.2.2.1, X.1.2.2.2.2.2.1, hts⟩ hM ⟨⟨rfl, rfl, ?_, ?_, jpay hts ⟨m1, m2, m3, m4, m5⟩, by rw [jws, hret]; exact List.mem_cons_self, hts _ hm1, hts _ m2, m3, ?_, hts _ hw⟩, hname, hts _ hw2⟩ ⟨C.blind, fun U hU hW => ⟨rfl, ?_, ?_, X.1.2.2.2.2.2.2.2.2.1.warm hW⟩⟩ rfl ?_ L.1 ?_ (jroom hr) hd ⟨?_, ?_⟩) k
  · show d' + 1 ≤ _; omega
  · show 8 + (_ + 11) + 64 * d' ≤ _; omega
  · intro sig hsig
    rw [hsig] at m4
    exact (Option.some.inj m4).symm
  · rw [hU]; exact Nat.le_trans X.1.2.2.2.2.2.2.2.2.2.2.2 X.2.2.2.1
  · rw [hU]; exact X.2.2.1
  · simpa using hn
  · simp [jv]
  · omega
  · omega
theorem jcall_SN {y' : MI} {n idx d' mc' ms' mc1 ms1 : Nat} {As : List Value} {Q' : Option Value → List AC → Prop} {st0 : List Value} (hd : decode y.2.1 pc = .ok (.invokestatic idx, 3)) (hm : jmc y' n) (hw : (y.1.cls, idx, y'.1, "LychWeights") ∈ jnest) (hw2 : Cond.static y'.1 ∈ lw_good) (hd' : d' < d) (hC : C g d' mc' ms' y' As h Q') (hst : st0 = As.reverse ++ st) (hn : As.length = n) (hr : (st.map fun v => v.category).sum ≤ 8)
    (k : ∀ (r : Option Value) (h' : List AC), Q' r h' → J g y d mc1 ms1 Q h' (pc + 3) ls (r.toList ++ st)) : J g y d (mc' + mc1) (ms' + ms1) Q h pc ls st0 := by
  intro p e R s m args below meth c H locs cells slots lsr X L
  subst hst
  obtain ⟨m1, m2, m3, m4, m5⟩ := hm
  have hts := X.1.2.2.2.2.2.2.2.1
  have r1 := X.1.2.2.2.2.2.2.2.2.2.1
  have r2 := X.1.2.2.2.2.2.2.2.2.2.2.1
  have hM := hC (jroomOf d' mc' ms') rfl rfl (Nat.le_refl _) (Nat.le_refl _)
  have hr1 := X.2.1.1
  have hr2 := X.2.1.2
  have hlk := va_Nw.use (A := args) rfl (X.1.2.2.2.2.2.2.2.2.1.2.2.2.1 _ hw)
  refine jback X L (va_runSN (As := As.map (jv g)) (rest := st.map (jv g)) (n := n) (host := "LychWeights") ⟨X.1.1, X.1.2.1, X.1.2.2.1, X.1.2.2.2.2.2.1, hts⟩ hM ⟨⟨⟨rfl, rfl, ?_, ?_, jpay hts ⟨m1, m2, m3, m4, m5⟩, List.mem_cons_self⟩, hts _ m1, hts _ m2, m3, ?_, hlk⟩, hts _ hw2, trivial⟩ ⟨C.blind, fun U hU hW => ⟨rfl, ?_, ?_, X.1.2.2.2.2.2.2.2.2.1.warm hW⟩⟩ rfl ?_ L.1 ?_ (jroom hr) hd ⟨?_, ?_⟩) k
  · show d' + 1 ≤ _; omega
  · show 8 + (_ + 11) + 64 * d' ≤ _; omega
  · intro sig hsig
    rw [hsig] at m4
    exact (Option.some.inj m4).symm
  · rw [hU]; exact Nat.le_trans X.1.2.2.2.2.2.2.2.2.2.2.2 X.2.2.2.1
  · rw [hU]; exact X.2.2.1
  · simpa using hn
  · simp
  · omega
  · omega
theorem jcall_IN {y' : MI} {n idx d' mc' ms' mc1 ms1 a : Nat} {As : List Value} {Q' : Option Value → List AC → Prop} {st0 : List Value} (hd : decode y.2.1 pc = .ok (.invokespecial idx, 3)) (hm : jmc y' n) (hret : y'.2.2.2 = none) (hname : y'.1.name = "<init>") (hw : (y.1.cls, idx, y'.1, "LychWeights") ∈ jnest) (hw2 : Cond.instanceMethod y'.1 ∈ lw_good) (hd' : d' < d) (hC : C g d' mc' ms' y' (.ref a :: As) h Q') (hst : st0 = As.reverse ++ .ref a :: st) (hn : As.length = n) (hr : (st.map fun v => v.category).sum ≤ 8)
    (k : ∀ (r : Option Value) (h' : List AC), Q' r h' → J g y d mc1 ms1 Q h' (pc + 3) ls (r.toList ++ st)) : J g y d (mc' + mc1) (ms' + ms1) Q h pc ls st0 := by
  intro p e R s m args below meth c H locs cells slots lsr X L
  subst hst
  obtain ⟨m1, m2, m3, m4, m5⟩ := hm
  have hts := X.1.2.2.2.2.2.2.2.1
  have r1 := X.1.2.2.2.2.2.2.2.2.2.1
  have r2 := X.1.2.2.2.2.2.2.2.2.2.2.1
  have hM := hC (jroomOf d' mc' ms') rfl rfl (Nat.le_refl _) (Nat.le_refl _)
  have hr1 := X.2.1.1
  have hr2 := X.2.1.2
  have hm1 := m1
  rw [hret] at hm1
  have hlk := va_Nw.use (A := args) rfl (X.1.2.2.2.2.2.2.2.2.1.2.2.2.1 _ hw)
  refine jback X L (va_runIN (As := As.map (jv g)) (rest := st.map (jv g)) (n := n) (b := jad g a) (host := "LychWeights") (bytes := y'.2.1) (maxL := y'.2.2.1) ⟨X.1.1, X.1.2.1, X.1.2.2.1, X.1.2.2.2.2.2.1, hts⟩ hM ⟨⟨⟨rfl, rfl, ?_, ?_, jpay hts ⟨m1, m2, m3, m4, m5⟩, by rw [jws, hret]; exact List.mem_cons_self⟩, hts _ hm1, hts _ m2, m3, ?_, hlk⟩, hname, hts _ hw2⟩ ⟨C.blind, fun U hU hW => ⟨rfl, ?_, ?_, X.1.2.2.2.2.2.2.2.2.1.warm hW⟩⟩ rfl ?_ L.1 ?_ (jroom hr) hd ⟨?_, ?_⟩) k
  · show d' + 1 ≤ _; omega
  · show 8 + (_ + 11) + 64 * d' ≤ _; omega
  · intro sig hsig
    rw [hsig] at m4
    exact (Option.some.inj m4).symm
  · rw [hU]; exact Nat.le_trans X.1.2.2.2.2.2.2.2.2.2.2.2 X.2.2.2.1
  · rw [hU]; exact X.2.2.1
  · simpa using hn
  · simp [jv]
  · omega
  · omega
end
end
section
/-! constants, contracts with one outcome, calls by number of arguments (written by wip/whole/gen09.py) -/
theorem kc_m1 : Int32.ofInt (-1) = (-1) := by decide
theorem kc_0 : Int32.ofInt (0) = (0) := by decide
theorem kc_1 : Int32.ofInt (1) = (1) := by decide
theorem kc_2 : Int32.ofInt (2) = (2) := by decide
theorem kc_3 : Int32.ofInt (3) = (3) := by decide
theorem kc_4 : Int32.ofInt (4) = (4) := by decide
theorem kc_5 : Int32.ofInt (5) = (5) := by decide
theorem kb_m99 : (Int8.ofInt (-99)).toInt32 = (-99) := by decide
theorem kb_m10 : (Int8.ofInt (-10)).toInt32 = (-10) := by decide
theorem kb_m9 : (Int8.ofInt (-9)).toInt32 = (-9) := by decide
theorem kb_m3 : (Int8.ofInt (-3)).toInt32 = (-3) := by decide
theorem kb_m2 : (Int8.ofInt (-2)).toInt32 = (-2) := by decide
theorem kb_6 : (Int8.ofInt (6)).toInt32 = (6) := by decide
theorem kb_7 : (Int8.ofInt (7)).toInt32 = (7) := by decide
theorem kb_8 : (Int8.ofInt (8)).toInt32 = (8) := by decide
theorem kb_9 : (Int8.ofInt (9)).toInt32 = (9) := by decide
theorem kb_10 : (Int8.ofInt (10)).toInt32 = (10) := by decide
theorem kb_12 : (Int8.ofInt (12)).toInt32 = (12) := by decide
theorem kb_15 : (Int8.ofInt (15)).toInt32 = (15) := by decide
theorem kb_16 : (Int8.ofInt (16)).toInt32 = (16) := by decide
theorem kb_20 : (Int8.ofInt (20)).toInt32 = (20) := by decide
theorem kb_21 : (Int8.ofInt (21)).toInt32 = (21) := by decide
theorem kb_31 : (Int8.ofInt (31)).toInt32 = (31) := by decide
theorem kb_32 : (Int8.ofInt (32)).toInt32 = (32) := by decide
theorem kb_40 : (Int8.ofInt (40)).toInt32 = (40) := by decide
theorem kb_42 : (Int8.ofInt (42)).toInt32 = (42) := by decide
theorem kb_48 : (Int8.ofInt (48)).toInt32 = (48) := by decide
theorem kb_57 : (Int8.ofInt (57)).toInt32 = (57) := by decide
theorem kb_59 : (Int8.ofInt (59)).toInt32 = (59) := by decide
theorem kb_60 : (Int8.ofInt (60)).toInt32 = (60) := by decide
theorem kb_63 : (Int8.ofInt (63)).toInt32 = (63) := by decide
theorem kb_64 : (Int8.ofInt (64)).toInt32 = (64) := by decide
theorem kb_80 : (Int8.ofInt (80)).toInt32 = (80) := by decide
theorem kb_98 : (Int8.ofInt (98)).toInt32 = (98) := by decide
theorem kb_99 : (Int8.ofInt (99)).toInt32 = (99) := by decide
theorem kb_100 : (Int8.ofInt (100)).toInt32 = (100) := by decide
theorem kb_108 : (Int8.ofInt (108)).toInt32 = (108) := by decide
theorem kb_112 : (Int8.ofInt (112)).toInt32 = (112) := by decide
theorem kb_114 : (Int8.ofInt (114)).toInt32 = (114) := by decide
theorem ks_150 : (Int16.ofInt (150)).toInt32 = (150) := by decide
theorem ks_189 : (Int16.ofInt (189)).toInt32 = (189) := by decide
theorem ks_210 : (Int16.ofInt (210)).toInt32 = (210) := by decide
theorem ks_240 : (Int16.ofInt (240)).toInt32 = (240) := by decide
theorem ks_255 : (Int16.ofInt (255)).toInt32 = (255) := by decide
abbrev Fn : Type := Nat → Int32
def CD (g : GG) (d : Nat) (y : MI) (av : List Value) (h : List AC) (r : Option Value) (h2 : List AC) : Prop := C g d 0 0 y av h (fun r' h' => r' = r ∧ h' = h2)
section
variable {g : GG} {y y' : MI} {d d' mc ms n idx : Nat} {Q Q' : Option Value → List AC → Prop} {h h2 : List AC} {pc : Nat} {ls : List (Option Value)} {st : List Value} {v v1 v2 v3 v4 v5 v6 : Value}
theorem CD.deeper {d2 : Nat} {av : List Value} {r : Option Value} (hd : d ≤ d2) (k : CD g d y av h r h2) : CD g d2 y av h r h2 := C.deeper hd k
theorem j_zret {b : Bool} (hd : decode y.2.1 pc = .ok (.ireturn, 1)) (hr : y.2.2.2 = some .boolean) {w : Int32} (hv : w = b2i b) (hq : Q (some (.int (b2i b))) h) : J g y d mc ms Q h pc ls [.int w] := by
  subst hv
  exact j_zreturn (x := b) hd hr (by cases b <;> rfl) hq
theorem j_bne {b : Bool} {off : Int} {tgt : Nat} (hd : decode y.2.1 pc = .ok (.ifCond .ne off, 3)) (ht : (pc : Int) + off = (tgt : Int)) (kt : b = true → J g y d mc ms Q h tgt ls st) (kf : b = false → J g y d mc ms Q h (pc + 3) ls st) : J g y d mc ms Q h pc ls (.int (b2i b) :: st) := by
  cases b
  · exact j_if_ne hd ht (fun q => absurd rfl q) (fun _ => kf rfl)
  · exact j_if_ne hd ht (fun _ => kt rfl) (fun q => absurd (show (1 : Int32) = 0 from q) (by decide))
theorem j_beq {b : Bool} {off : Int} {tgt : Nat} (hd : decode y.2.1 pc = .ok (.ifCond .eq off, 3)) (ht : (pc : Int) + off = (tgt : Int)) (kt : b = false → J g y d mc ms Q h tgt ls st) (kf : b = true → J g y d mc ms Q h (pc + 3) ls st) : J g y d mc ms Q h pc ls (.int (b2i b) :: st) := by
  cases b
  · exact j_if_eq hd ht (fun _ => kt rfl) (fun q => absurd rfl q)
  · exact j_if_eq hd ht (fun q => absurd q (by decide)) (fun _ => kf rfl)
theorem mco_max : Cond.code Lib.Math.max.name Lib.Math.max.code 2 (some .int) ∈ lw_good := jg 91 (by decide +kernel) (by decide +kernel)
theorem mst_max : Cond.static Lib.Math.max.name ∈ lw_good := sm_J9_max_7cf53
theorem mco_min : Cond.code Lib.Math.min.name Lib.Math.min.code 2 (some .int) ∈ lw_good := jg 475 (by decide +kernel) (by decide +kernel)
theorem mst_min : Cond.static Lib.Math.min.name ∈ lw_good := sm_J9_min_7cf53
theorem mco_abs : Cond.code Lib.Math.abs.name Lib.Math.abs.code 1 (some .int) ∈ lw_good := jg 578 (by decide +kernel) (by decide +kernel)
theorem mst_abs : Cond.static Lib.Math.abs.name ∈ lw_good := sm_J9_abs_0f7a4
theorem min_Math : Cond.initialized "java/lang/Math" ∈ lw_good := jg 67 (by decide +kernel) (by decide +kernel)
def imax (a b : Int32) : Int32 := if a < b then b else a
def imin (a b : Int32) : Int32 := if b < a then b else a
def iabs (a : Int32) : Int32 := if 0 ≤ a then a else 0 - a
theorem j_max {a b : Int32} (hd : decode y.2.1 pc = .ok (.invokestatic idx, 3)) (hw : Cond.methodLink y.1.cls idx Lib.Math.max.name ∈ lw_good) (hd1 : 1 ≤ d) (hr : (st.map fun v => v.category).sum ≤ 8) (k : J g y d mc ms Q h (pc + 3) ls (.int (imax a b) :: st)) : J g y d mc ms Q h pc ls (.int b :: .int a :: st) := by
  intro p e R s m args below meth c H locs cells slots lsr X L
  have hts := X.1.2.2.2.2.2.2.2.1
  have r1 := X.1.2.2.2.2.2.2.2.2.2.1
  have r2 := X.1.2.2.2.2.2.2.2.2.2.2.1
  have hr1 := X.2.1.1
  have hr2 := X.2.1.2
  refine va_mmax X.1.1 X.1.2.1 (X.1.2.2.1.trans L.1.symm) X.1.2.2.2.2.2.1 (hts _ hw) (hts _ mst_max) (hts _ min_Math) (hts _ mco_max) (by omega) ?_ (by omega) (by omega) hd (k p e R s m args below meth c H locs cells slots lsr X L)
  rw [jv_cats]
  omega
theorem j_min {a b : Int32} (hd : decode y.2.1 pc = .ok (.invokestatic idx, 3)) (hw : Cond.methodLink y.1.cls idx Lib.Math.min.name ∈ lw_good) (hd1 : 1 ≤ d) (hr : (st.map fun v => v.category).sum ≤ 8) (k : J g y d mc ms Q h (pc + 3) ls (.int (imin a b) :: st)) : J g y d mc ms Q h pc ls (.int b :: .int a :: st) := by
  intro p e R s m args below meth c H locs cells slots lsr X L
  have hts := X.1.2.2.2.2.2.2.2.1
  have r1 := X.1.2.2.2.2.2.2.2.2.2.1
  have r2 := X.1.2.2.2.2.2.2.2.2.2.2.1
  have hr1 := X.2.1.1
  have hr2 := X.2.1.2
  refine va_mmin X.1.1 X.1.2.1 (X.1.2.2.1.trans L.1.symm) X.1.2.2.2.2.2.1 (hts _ hw) (hts _ mst_min) (hts _ min_Math) (hts _ mco_min) (by omega) ?_ (by omega) (by omega) hd (k p e R s m args below meth c H locs cells slots lsr X L)
  rw [jv_cats]
  omega
theorem j_abs {a : Int32} (hd : decode y.2.1 pc = .ok (.invokestatic idx, 3)) (hw : Cond.methodLink y.1.cls idx Lib.Math.abs.name ∈ lw_good) (hd1 : 1 ≤ d) (hr : (st.map fun v => v.category).sum ≤ 8) (k : J g y d mc ms Q h (pc + 3) ls (.int (iabs a) :: st)) : J g y d mc ms Q h pc ls (.int a :: st) := by
  intro p e R s m args below meth c H locs cells slots lsr X L
  have hts := X.1.2.2.2.2.2.2.2.1
  have r1 := X.1.2.2.2.2.2.2.2.2.2.1
  have r2 := X.1.2.2.2.2.2.2.2.2.2.2.1
  have hr1 := X.2.1.1
  have hr2 := X.2.1.2
  refine va_mabs X.1.1 X.1.2.1 (X.1.2.2.1.trans L.1.symm) X.1.2.2.2.2.2.1 (hts _ hw) (hts _ mst_abs) (hts _ min_Math) (hts _ mco_abs) (by omega) ?_ (by omega) (by omega) hd (k p e R s m args below meth c H locs cells slots lsr X L)
  rw [jv_cats]
  omega
theorem j_s0 (hd : decode y.2.1 pc = .ok (.invokestatic idx, 3)) (hm : jmc y' 0) (hw : Cond.methodLink y.1.cls idx y'.1 ∈ lw_good) (hw2 : Cond.static y'.1 ∈ lw_good) (hd' : d' < d) (hC : CD g d' y' [] h (some v) h2) (hr : (st.map fun v => v.category).sum ≤ 8) (k : J g y d mc ms Q h2 (pc + 3) ls (v :: st)) : J g y d mc ms Q h pc ls (st) := by
  have z := jcall_S (mc1 := mc) (ms1 := ms) (As := []) (st := st) hd hm hw hw2 hd' hC rfl rfl hr (fun r h' q => by rw [q.1, q.2]; exact k)
  rw [Nat.zero_add, Nat.zero_add] at z
  exact z
theorem j_s0n (hd : decode y.2.1 pc = .ok (.invokestatic idx, 3)) (hm : jmc y' 0) (hw : Cond.methodLink y.1.cls idx y'.1 ∈ lw_good) (hw2 : Cond.static y'.1 ∈ lw_good) (hd' : d' < d) (hC : CD g d' y' [] h none h2) (hr : (st.map fun v => v.category).sum ≤ 8) (k : J g y d mc ms Q h2 (pc + 3) ls st) : J g y d mc ms Q h pc ls (st) := by
  have z := jcall_S (mc1 := mc) (ms1 := ms) (As := []) (st := st) hd hm hw hw2 hd' hC rfl rfl hr (fun r h' q => by rw [q.1, q.2]; exact k)
  rw [Nat.zero_add, Nat.zero_add] at z
  exact z
theorem j_s0g (hd : decode y.2.1 pc = .ok (.invokestatic idx, 3)) (hm : jmc y' 0) (hw : Cond.methodLink y.1.cls idx y'.1 ∈ lw_good) (hw2 : Cond.static y'.1 ∈ lw_good) (hd' : d' < d) (hC : C g d' 0 0 y' [] h Q') (hr : (st.map fun v => v.category).sum ≤ 8) (k : ∀ (r : Option Value) (h' : List AC), Q' r h' → J g y d mc ms Q h' (pc + 3) ls (r.toList ++ st)) : J g y d mc ms Q h pc ls (st) := by
  have z := jcall_S (mc1 := mc) (ms1 := ms) (As := []) (st := st) hd hm hw hw2 hd' hC rfl rfl hr (k)
  rw [Nat.zero_add, Nat.zero_add] at z
  exact z
theorem j_v0 {a ci : Nat} {fs : List Value} {q : vw_C} (hd : decode y.2.1 pc = .ok (.invokevirtual idx, 3)) (hm : jmc y' 0) (hw : Cond.methodLink y.1.cls idx y'.1 ∈ lw_good) (hw2 : Cond.instanceMethod y'.1 ∈ lw_good) (hw3 : Cond.selects y'.1.cls y'.1 y'.1 ∈ lw_good) (hq : vwCl[ci]? = some q) (hcls : y'.1.cls = q.1) (ha : h[a]? = some (ci, fs)) (hd' : d' < d) (hC : CD g d' y' (.ref a :: []) h (some v) h2) (hr : (st.map fun v => v.category).sum ≤ 8) (k : J g y d mc ms Q h2 (pc + 3) ls (v :: st)) : J g y d mc ms Q h pc ls (.ref a :: st) := by
  have z := jcall_V (mc1 := mc) (ms1 := ms) (As := []) (st := st) hd hm hw hw2 hw3 hq hcls ha hd' hC rfl rfl hr (fun r h' q => by rw [q.1, q.2]; exact k)
  rw [Nat.zero_add, Nat.zero_add] at z
  exact z
theorem j_v0n {a ci : Nat} {fs : List Value} {q : vw_C} (hd : decode y.2.1 pc = .ok (.invokevirtual idx, 3)) (hm : jmc y' 0) (hw : Cond.methodLink y.1.cls idx y'.1 ∈ lw_good) (hw2 : Cond.instanceMethod y'.1 ∈ lw_good) (hw3 : Cond.selects y'.1.cls y'.1 y'.1 ∈ lw_good) (hq : vwCl[ci]? = some q) (hcls : y'.1.cls = q.1) (ha : h[a]? = some (ci, fs)) (hd' : d' < d) (hC : CD g d' y' (.ref a :: []) h none h2) (hr : (st.map fun v => v.category).sum ≤ 8) (k : J g y d mc ms Q h2 (pc + 3) ls st) : J g y d mc ms Q h pc ls (.ref a :: st) := by
  have z := jcall_V (mc1 := mc) (ms1 := ms) (As := []) (st := st) hd hm hw hw2 hw3 hq hcls ha hd' hC rfl rfl hr (fun r h' q => by rw [q.1, q.2]; exact k)
  rw [Nat.zero_add, Nat.zero_add] at z
  exact z
theorem j_v0g {a ci : Nat} {fs : List Value} {q : vw_C} (hd : decode y.2.1 pc = .ok (.invokevirtual idx, 3)) (hm : jmc y' 0) (hw : Cond.methodLink y.1.cls idx y'.1 ∈ lw_good) (hw2 : Cond.instanceMethod y'.1 ∈ lw_good) (hw3 : Cond.selects y'.1.cls y'.1 y'.1 ∈ lw_good) (hq : vwCl[ci]? = some q) (hcls : y'.1.cls = q.1) (ha : h[a]? = some (ci, fs)) (hd' : d' < d) (hC : C g d' 0 0 y' (.ref a :: []) h Q') (hr : (st.map fun v => v.category).sum ≤ 8) (k : ∀ (r : Option Value) (h' : List AC), Q' r h' → J g y d mc ms Q h' (pc + 3) ls (r.toList ++ st)) : J g y d mc ms Q h pc ls (.ref a :: st) := by
  have z := jcall_V (mc1 := mc) (ms1 := ms) (As := []) (st := st) hd hm hw hw2 hw3 hq hcls ha hd' hC rfl rfl hr (k)
  rw [Nat.zero_add, Nat.zero_add] at z
  exact z
theorem j_ns0 (hd : decode y.2.1 pc = .ok (.invokestatic idx, 3)) (hm : jmc y' 0) (hw : (y.1.cls, idx, y'.1, "LychWeights") ∈ jnest) (hw2 : Cond.static y'.1 ∈ lw_good) (hd' : d' < d) (hC : CD g d' y' [] h (some v) h2) (hr : (st.map fun v => v.category).sum ≤ 8) (k : J g y d mc ms Q h2 (pc + 3) ls (v :: st)) : J g y d mc ms Q h pc ls (st) := by
  have z := jcall_SN (mc1 := mc) (ms1 := ms) (As := []) (st := st) hd hm hw hw2 hd' hC rfl rfl hr (fun r h' q => by rw [q.1, q.2]; exact k)
  rw [Nat.zero_add, Nat.zero_add] at z
  exact z
theorem j_ns0n (hd : decode y.2.1 pc = .ok (.invokestatic idx, 3)) (hm : jmc y' 0) (hw : (y.1.cls, idx, y'.1, "LychWeights") ∈ jnest) (hw2 : Cond.static y'.1 ∈ lw_good) (hd' : d' < d) (hC : CD g d' y' [] h none h2) (hr : (st.map fun v => v.category).sum ≤ 8) (k : J g y d mc ms Q h2 (pc + 3) ls st) : J g y d mc ms Q h pc ls (st) := by
  have z := jcall_SN (mc1 := mc) (ms1 := ms) (As := []) (st := st) hd hm hw hw2 hd' hC rfl rfl hr (fun r h' q => by rw [q.1, q.2]; exact k)
  rw [Nat.zero_add, Nat.zero_add] at z
  exact z
theorem j_ns0g (hd : decode y.2.1 pc = .ok (.invokestatic idx, 3)) (hm : jmc y' 0) (hw : (y.1.cls, idx, y'.1, "LychWeights") ∈ jnest) (hw2 : Cond.static y'.1 ∈ lw_good) (hd' : d' < d) (hC : C g d' 0 0 y' [] h Q') (hr : (st.map fun v => v.category).sum ≤ 8) (k : ∀ (r : Option Value) (h' : List AC), Q' r h' → J g y d mc ms Q h' (pc + 3) ls (r.toList ++ st)) : J g y d mc ms Q h pc ls (st) := by
  have z := jcall_SN (mc1 := mc) (ms1 := ms) (As := []) (st := st) hd hm hw hw2 hd' hC rfl rfl hr (k)
  rw [Nat.zero_add, Nat.zero_add] at z
  exact z
theorem j_s1 (hd : decode y.2.1 pc = .ok (.invokestatic idx, 3)) (hm : jmc y' 1) (hw : Cond.methodLink y.1.cls idx y'.1 ∈ lw_good) (hw2 : Cond.static y'.1 ∈ lw_good) (hd' : d' < d) (hC : CD g d' y' [v1] h (some v) h2) (hr : (st.map fun v => v.category).sum ≤ 8) (k : J g y d mc ms Q h2 (pc + 3) ls (v :: st)) : J g y d mc ms Q h pc ls (v1 :: st) := by
  have z := jcall_S (mc1 := mc) (ms1 := ms) (As := [v1]) (st := st) hd hm hw hw2 hd' hC rfl rfl hr (fun r h' q => by rw [q.1, q.2]; exact k)
  rw [Nat.zero_add, Nat.zero_add] at z
  exact z
theorem j_s1n (hd : decode y.2.1 pc = .ok (.invokestatic idx, 3)) (hm : jmc y' 1) (hw : Cond.methodLink y.1.cls idx y'.1 ∈ lw_good) (hw2 : Cond.static y'.1 ∈ lw_good) (hd' : d' < d) (hC : CD g d' y' [v1] h none h2) (hr : (st.map fun v => v.category).sum ≤ 8) (k : J g y d mc ms Q h2 (pc + 3) ls st) : J g y d mc ms Q h pc ls (v1 :: st) := by
  have z := jcall_S (mc1 := mc) (ms1 := ms) (As := [v1]) (st := st) hd hm hw hw2 hd' hC rfl rfl hr (fun r h' q => by rw [q.1, q.2]; exact k)
  rw [Nat.zero_add, Nat.zero_add] at z
  exact z
theorem j_s1g (hd : decode y.2.1 pc = .ok (.invokestatic idx, 3)) (hm : jmc y' 1) (hw : Cond.methodLink y.1.cls idx y'.1 ∈ lw_good) (hw2 : Cond.static y'.1 ∈ lw_good) (hd' : d' < d) (hC : C g d' 0 0 y' [v1] h Q') (hr : (st.map fun v => v.category).sum ≤ 8) (k : ∀ (r : Option Value) (h' : List AC), Q' r h' → J g y d mc ms Q h' (pc + 3) ls (r.toList ++ st)) : J g y d mc ms Q h pc ls (v1 :: st) := by
  have z := jcall_S (mc1 := mc) (ms1 := ms) (As := [v1]) (st := st) hd hm hw hw2 hd' hC rfl rfl hr (k)
  rw [Nat.zero_add, Nat.zero_add] at z
  exact z
theorem j_v1 {a ci : Nat} {fs : List Value} {q : vw_C} (hd : decode y.2.1 pc = .ok (.invokevirtual idx, 3)) (hm : jmc y' 1) (hw : Cond.methodLink y.1.cls idx y'.1 ∈ lw_good) (hw2 : Cond.instanceMethod y'.1 ∈ lw_good) (hw3 : Cond.selects y'.1.cls y'.1 y'.1 ∈ lw_good) (hq : vwCl[ci]? = some q) (hcls : y'.1.cls = q.1) (ha : h[a]? = some (ci, fs)) (hd' : d' < d) (hC : CD g d' y' (.ref a :: [v1]) h (some v) h2) (hr : (st.map fun v => v.category).sum ≤ 8) (k : J g y d mc ms Q h2 (pc + 3) ls (v :: st)) : J g y d mc ms Q h pc ls (v1 :: .ref a :: st) := by
  have z := jcall_V (mc1 := mc) (ms1 := ms) (As := [v1]) (st := st) hd hm hw hw2 hw3 hq hcls ha hd' hC rfl rfl hr (fun r h' q => by rw [q.1, q.2]; exact k)
  rw [Nat.zero_add, Nat.zero_add] at z
  exact z
theorem j_v1n {a ci : Nat} {fs : List Value} {q : vw_C} (hd : decode y.2.1 pc = .ok (.invokevirtual idx, 3)) (hm : jmc y' 1) (hw : Cond.methodLink y.1.cls idx y'.1 ∈ lw_good) (hw2 : Cond.instanceMethod y'.1 ∈ lw_good) (hw3 : Cond.selects y'.1.cls y'.1 y'.1 ∈ lw_good) (hq : vwCl[ci]? = some q) (hcls : y'.1.cls = q.1) (ha : h[a]? = some (ci, fs)) (hd' : d' < d) (hC : CD g d' y' (.ref a :: [v1]) h none h2) (hr : (st.map fun v => v.category).sum ≤ 8) (k : J g y d mc ms Q h2 (pc + 3) ls st) : J g y d mc ms Q h pc ls (v1 :: .ref a :: st) := by
  have z := jcall_V (mc1 := mc) (ms1 := ms) (As := [v1]) (st := st) hd hm hw hw2 hw3 hq hcls ha hd' hC rfl rfl hr (fun r h' q => by rw [q.1, q.2]; exact k)
  rw [Nat.zero_add, Nat.zero_add] at z
  exact z
theorem j_v1g {a ci : Nat} {fs : List Value} {q : vw_C} (hd : decode y.2.1 pc = .ok (.invokevirtual idx, 3)) (hm : jmc y' 1) (hw : Cond.methodLink y.1.cls idx y'.1 ∈ lw_good) (hw2 : Cond.instanceMethod y'.1 ∈ lw_good) (hw3 : Cond.selects y'.1.cls y'.1 y'.1 ∈ lw_good) (hq : vwCl[ci]? = some q) (hcls : y'.1.cls = q.1) (ha : h[a]? = some (ci, fs)) (hd' : d' < d) (hC : C g d' 0 0 y' (.ref a :: [v1]) h Q') (hr : (st.map fun v => v.category).sum ≤ 8) (k : ∀ (r : Option Value) (h' : List AC), Q' r h' → J g y d mc ms Q h' (pc + 3) ls (r.toList ++ st)) : J g y d mc ms Q h pc ls (v1 :: .ref a :: st) := by
  have z := jcall_V (mc1 := mc) (ms1 := ms) (As := [v1]) (st := st) hd hm hw hw2 hw3 hq hcls ha hd' hC rfl rfl hr (k)
  rw [Nat.zero_add, Nat.zero_add] at z
  exact z
theorem j_ns1 (hd : decode y.2.1 pc = .ok (.invokestatic idx, 3)) (hm : jmc y' 1) (hw : (y.1.cls, idx, y'.1, "LychWeights") ∈ jnest) (hw2 : Cond.static y'.1 ∈ lw_good) (hd' : d' < d) (hC : CD g d' y' [v1] h (some v) h2) (hr : (st.map fun v => v.category).sum ≤ 8) (k : J g y d mc ms Q h2 (pc + 3) ls (v :: st)) : J g y d mc ms Q h pc ls (v1 :: st) := by
  have z := jcall_SN (mc1 := mc) (ms1 := ms) (As := [v1]) (st := st) hd hm hw hw2 hd' hC rfl rfl hr (fun r h' q => by rw [q.1, q.2]; exact k)
  rw [Nat.zero_add, Nat.zero_add] at z
  exact z
theorem j_ns1n (hd : decode y.2.1 pc = .ok (.invokestatic idx, 3)) (hm : jmc y' 1) (hw : (y.1.cls, idx, y'.1, "LychWeights") ∈ jnest) (hw2 : Cond.static y'.1 ∈ lw_good) (hd' : d' < d) (hC : CD g d' y' [v1] h none h2) (hr : (st.map fun v => v.category).sum ≤ 8) (k : J g y d mc ms Q h2 (pc + 3) ls st) : J g y d mc ms Q h pc ls (v1 :: st) := by
  have z := jcall_SN (mc1 := mc) (ms1 := ms) (As := [v1]) (st := st) hd hm hw hw2 hd' hC rfl rfl hr (fun r h' q => by rw [q.1, q.2]; exact k)
  rw [Nat.zero_add, Nat.zero_add] at z
  exact z
theorem j_ns1g (hd : decode y.2.1 pc = .ok (.invokestatic idx, 3)) (hm : jmc y' 1) (hw : (y.1.cls, idx, y'.1, "LychWeights") ∈ jnest) (hw2 : Cond.static y'.1 ∈ lw_good) (hd' : d' < d) (hC : C g d' 0 0 y' [v1] h Q') (hr : (st.map fun v => v.category).sum ≤ 8) (k : ∀ (r : Option Value) (h' : List AC), Q' r h' → J g y d mc ms Q h' (pc + 3) ls (r.toList ++ st)) : J g y d mc ms Q h pc ls (v1 :: st) := by
  have z := jcall_SN (mc1 := mc) (ms1 := ms) (As := [v1]) (st := st) hd hm hw hw2 hd' hC rfl rfl hr (k)
  rw [Nat.zero_add, Nat.zero_add] at z
  exact z
theorem j_s2 (hd : decode y.2.1 pc = .ok (.invokestatic idx, 3)) (hm : jmc y' 2) (hw : Cond.methodLink y.1.cls idx y'.1 ∈ lw_good) (hw2 : Cond.static y'.1 ∈ lw_good) (hd' : d' < d) (hC : CD g d' y' [v1, v2] h (some v) h2) (hr : (st.map fun v => v.category).sum ≤ 8) (k : J g y d mc ms Q h2 (pc + 3) ls (v :: st)) : J g y d mc ms Q h pc ls (v2 :: v1 :: st) := by
  have z := jcall_S (mc1 := mc) (ms1 := ms) (As := [v1, v2]) (st := st) hd hm hw hw2 hd' hC rfl rfl hr (fun r h' q => by rw [q.1, q.2]; exact k)
  rw [Nat.zero_add, Nat.zero_add] at z
  exact z
theorem j_s2n (hd : decode y.2.1 pc = .ok (.invokestatic idx, 3)) (hm : jmc y' 2) (hw : Cond.methodLink y.1.cls idx y'.1 ∈ lw_good) (hw2 : Cond.static y'.1 ∈ lw_good) (hd' : d' < d) (hC : CD g d' y' [v1, v2] h none h2) (hr : (st.map fun v => v.category).sum ≤ 8) (k : J g y d mc ms Q h2 (pc + 3) ls st) : J g y d mc ms Q h pc ls (v2 :: v1 :: st) := by
  have z := jcall_S (mc1 := mc) (ms1 := ms) (As := [v1, v2]) (st := st) hd hm hw hw2 hd' hC rfl rfl hr (fun r h' q => by rw [q.1, q.2]; exact k)
  rw [Nat.zero_add, Nat.zero_add] at z
  exact z
theorem j_s2g (hd : decode y.2.1 pc = .ok (.invokestatic idx, 3)) (hm : jmc y' 2) (hw : Cond.methodLink y.1.cls idx y'.1 ∈ lw_good) (hw2 : Cond.static y'.1 ∈ lw_good) (hd' : d' < d) (hC : C g d' 0 0 y' [v1, v2] h Q') (hr : (st.map fun v => v.category).sum ≤ 8) (k : ∀ (r : Option Value) (h' : List AC), Q' r h' → J g y d mc ms Q h' (pc + 3) ls (r.toList ++ st)) : J g y d mc ms Q h pc ls (v2 :: v1 :: st) := by
  have z := jcall_S (mc1 := mc) (ms1 := ms) (As := [v1, v2]) (st := st) hd hm hw hw2 hd' hC rfl rfl hr (k)
  rw [Nat.zero_add, Nat.zero_add] at z
  exact z
theorem j_v2 {a ci : Nat} {fs : List Value} {q : vw_C} (hd : decode y.2.1 pc = .ok (.invokevirtual idx, 3)) (hm : jmc y' 2) (hw : Cond.methodLink y.1.cls idx y'.1 ∈ lw_good) (hw2 : Cond.instanceMethod y'.1 ∈ lw_good) (hw3 : Cond.selects y'.1.cls y'.1 y'.1 ∈ lw_good) (hq : vwCl[ci]? = some q) (hcls : y'.1.cls = q.1) (ha : h[a]? = some (ci, fs)) (hd' : d' < d) (hC : CD g d' y' (.ref a :: [v1, v2]) h (some v) h2) (hr : (st.map fun v => v.category).sum ≤ 8) (k : J g y d mc ms Q h2 (pc + 3) ls (v :: st)) : J g y d mc ms Q h pc ls (v2 :: v1 :: .ref a :: st) := by
  have z := jcall_V (mc1 := mc) (ms1 := ms) (As := [v1, v2]) (st := st) hd hm hw hw2 hw3 hq hcls ha hd' hC rfl rfl hr (fun r h' q => by rw [q.1, q.2]; exact k)
  rw [Nat.zero_add, Nat.zero_add] at z
  exact z
theorem j_v2n {a ci : Nat} {fs : List Value} {q : vw_C} (hd : decode y.2.1 pc = .ok (.invokevirtual idx, 3)) (hm : jmc y' 2) (hw : Cond.methodLink y.1.cls idx y'.1 ∈ lw_good) (hw2 : Cond.instanceMethod y'.1 ∈ lw_good) (hw3 : Cond.selects y'.1.cls y'.1 y'.1 ∈ lw_good) (hq : vwCl[ci]? = some q) (hcls : y'.1.cls = q.1) (ha : h[a]? = some (ci, fs)) (hd' : d' < d) (hC : CD g d' y' (.ref a :: [v1, v2]) h none h2) (hr : (st.map fun v => v.category).sum ≤ 8) (k : J g y d mc ms Q h2 (pc + 3) ls st) : J g y d mc ms Q h pc ls (v2 :: v1 :: .ref a :: st) := by
  have z := jcall_V (mc1 := mc) (ms1 := ms) (As := [v1, v2]) (st := st) hd hm hw hw2 hw3 hq hcls ha hd' hC rfl rfl hr (fun r h' q => by rw [q.1, q.2]; exact k)
  rw [Nat.zero_add, Nat.zero_add] at z
  exact z
theorem j_v2g {a ci : Nat} {fs : List Value} {q : vw_C} (hd : decode y.2.1 pc = .ok (.invokevirtual idx, 3)) (hm : jmc y' 2) (hw : Cond.methodLink y.1.cls idx y'.1 ∈ lw_good) (hw2 : Cond.instanceMethod y'.1 ∈ lw_good) (hw3 : Cond.selects y'.1.cls y'.1 y'.1 ∈ lw_good) (hq : vwCl[ci]? = some q) (hcls : y'.1.cls = q.1) (ha : h[a]? = some (ci, fs)) (hd' : d' < d) (hC : C g d' 0 0 y' (.ref a :: [v1, v2]) h Q') (hr : (st.map fun v => v.category).sum ≤ 8) (k : ∀ (r : Option Value) (h' : List AC), Q' r h' → J g y d mc ms Q h' (pc + 3) ls (r.toList ++ st)) : J g y d mc ms Q h pc ls (v2 :: v1 :: .ref a :: st) := by
  have z := jcall_V (mc1 := mc) (ms1 := ms) (As := [v1, v2]) (st := st) hd hm hw hw2 hw3 hq hcls ha hd' hC rfl rfl hr (k)
  rw [Nat.zero_add, Nat.zero_add] at z
  exact z
theorem j_ns2 (hd : decode y.2.1 pc = .ok (.invokestatic idx, 3)) (hm : jmc y' 2) (hw : (y.1.cls, idx, y'.1, "LychWeights") ∈ jnest) (hw2 : Cond.static y'.1 ∈ lw_good) (hd' : d' < d) (hC : CD g d' y' [v1, v2] h (some v) h2) (hr : (st.map fun v => v.category).sum ≤ 8) (k : J g y d mc ms Q h2 (pc + 3) ls (v :: st)) : J g y d mc ms Q h pc ls (v2 :: v1 :: st) := by
  have z := jcall_SN (mc1 := mc) (ms1 := ms) (As := [v1, v2]) (st := st) hd hm hw hw2 hd' hC rfl rfl hr (fun r h' q => by rw [q.1, q.2]; exact k)
  rw [Nat.zero_add, Nat.zero_add] at z
  exact z
theorem j_ns2n (hd : decode y.2.1 pc = .ok (.invokestatic idx, 3)) (hm : jmc y' 2) (hw : (y.1.cls, idx, y'.1, "LychWeights") ∈ jnest) (hw2 : Cond.static y'.1 ∈ lw_good) (hd' : d' < d) (hC : CD g d' y' [v1, v2] h none h2) (hr : (st.map fun v => v.category).sum ≤ 8) (k : J g y d mc ms Q h2 (pc + 3) ls st) : J g y d mc ms Q h pc ls (v2 :: v1 :: st) := by
  have z := jcall_SN (mc1 := mc) (ms1 := ms) (As := [v1, v2]) (st := st) hd hm hw hw2 hd' hC rfl rfl hr (fun r h' q => by rw [q.1, q.2]; exact k)
  rw [Nat.zero_add, Nat.zero_add] at z
  exact z
theorem j_ns2g (hd : decode y.2.1 pc = .ok (.invokestatic idx, 3)) (hm : jmc y' 2) (hw : (y.1.cls, idx, y'.1, "LychWeights") ∈ jnest) (hw2 : Cond.static y'.1 ∈ lw_good) (hd' : d' < d) (hC : C g d' 0 0 y' [v1, v2] h Q') (hr : (st.map fun v => v.category).sum ≤ 8) (k : ∀ (r : Option Value) (h' : List AC), Q' r h' → J g y d mc ms Q h' (pc + 3) ls (r.toList ++ st)) : J g y d mc ms Q h pc ls (v2 :: v1 :: st) := by
  have z := jcall_SN (mc1 := mc) (ms1 := ms) (As := [v1, v2]) (st := st) hd hm hw hw2 hd' hC rfl rfl hr (k)
  rw [Nat.zero_add, Nat.zero_add] at z
  exact z
theorem j_s3 (hd : decode y.2.1 pc = .ok (.invokestatic idx, 3)) (hm : jmc y' 3) (hw : Cond.methodLink y.1.cls idx y'.1 ∈ lw_good) (hw2 : Cond.static y'.1 ∈ lw_good) (hd' : d' < d) (hC : CD g d' y' [v1, v2, v3] h (some v) h2) (hr : (st.map fun v => v.category).sum ≤ 8) (k : J g y d mc ms Q h2 (pc + 3) ls (v :: st)) : J g y d mc ms Q h pc ls (v3 :: v2 :: v1 :: st) := by
  have z := jcall_S (mc1 := mc) (ms1 := ms) (As := [v1, v2, v3]) (st := st) hd hm hw hw2 hd' hC rfl rfl hr (fun r h' q => by rw [q.1, q.2]; exact k)
  rw [Nat.zero_add, Nat.zero_add] at z
  exact z
theorem j_s3n (hd : decode y.2.1 pc = .ok (.invokestatic idx, 3)) (hm : jmc y' 3) (hw : Cond.methodLink y.1.cls idx y'.1 ∈ lw_good) (hw2 : Cond.static y'.1 ∈ lw_good) (hd' : d' < d) (hC : CD g d' y' [v1, v2, v3] h none h2) (hr : (st.map fun v => v.category).sum ≤ 8) (k : J g y d mc ms Q h2 (pc + 3) ls st) : J g y d mc ms Q h pc ls (v3 :: v2 :: v1 :: st) := by
  have z := jcall_S (mc1 := mc) (ms1 := ms) (As := [v1, v2, v3]) (st := st) hd hm hw hw2 hd' hC rfl rfl hr (fun r h' q => by rw [q.1, q.2]; exact k)
  rw [Nat.zero_add, Nat.zero_add] at z
  exact z
theorem j_s3g (hd : decode y.2.1 pc = .ok (.invokestatic idx, 3)) (hm : jmc y' 3) (hw : Cond.methodLink y.1.cls idx y'.1 ∈ lw_good) (hw2 : Cond.static y'.1 ∈ lw_good) (hd' : d' < d) (hC : C g d' 0 0 y' [v1, v2, v3] h Q') (hr : (st.map fun v => v.category).sum ≤ 8) (k : ∀ (r : Option Value) (h' : List AC), Q' r h' → J g y d mc ms Q h' (pc + 3) ls (r.toList ++ st)) : J g y d mc ms Q h pc ls (v3 :: v2 :: v1 :: st) := by
  have z := jcall_S (mc1 := mc) (ms1 := ms) (As := [v1, v2, v3]) (st := st) hd hm hw hw2 hd' hC rfl rfl hr (k)
  rw [Nat.zero_add, Nat.zero_add] at z
  exact z
theorem j_v3 {a ci : Nat} {fs : List Value} {q : vw_C} (hd : decode y.2.1 pc = .ok (.invokevirtual idx, 3)) (hm : jmc y' 3) (hw : Cond.methodLink y.1.cls idx y'.1 ∈ lw_good) (hw2 : Cond.instanceMethod y'.1 ∈ lw_good) (hw3 : Cond.selects y'.1.cls y'.1 y'.1 ∈ lw_good) (hq : vwCl[ci]? = some q) (hcls : y'.1.cls = q.1) (ha : h[a]? = some (ci, fs)) (hd' : d' < d) (hC : CD g d' y' (.ref a :: [v1, v2, v3]) h (some v) h2) (hr : (st.map fun v => v.category).sum ≤ 8) (k : J g y d mc ms Q h2 (pc + 3) ls (v :: st)) : J g y d mc ms Q h pc ls (v3 :: v2 :: v1 :: .ref a :: st) := by
  have z := jcall_V (mc1 := mc) (ms1 := ms) (As := [v1, v2, v3]) (st := st) hd hm hw hw2 hw3 hq hcls ha hd' hC rfl rfl hr (fun r h' q => by rw [q.1, q.2]; exact k)
  rw [Nat.zero_add, Nat.zero_add] at z
  exact z
theorem j_v3n {a ci : Nat} {fs : List Value} {q : vw_C} (hd : decode y.2.1 pc = .ok (.invokevirtual idx, 3)) (hm : jmc y' 3) (hw : Cond.methodLink y.1.cls idx y'.1 ∈ lw_good) (hw2 : Cond.instanceMethod y'.1 ∈ lw_good) (hw3 : Cond.selects y'.1.cls y'.1 y'.1 ∈ lw_good) (hq : vwCl[ci]? = some q) (hcls : y'.1.cls = q.1) (ha : h[a]? = some (ci, fs)) (hd' : d' < d) (hC : CD g d' y' (.ref a :: [v1, v2, v3]) h none h2) (hr : (st.map fun v => v.category).sum ≤ 8) (k : J g y d mc ms Q h2 (pc + 3) ls st) : J g y d mc ms Q h pc ls (v3 :: v2 :: v1 :: .ref a :: st) := by
  have z := jcall_V (mc1 := mc) (ms1 := ms) (As := [v1, v2, v3]) (st := st) hd hm hw hw2 hw3 hq hcls ha hd' hC rfl rfl hr (fun r h' q => by rw [q.1, q.2]; exact k)
  rw [Nat.zero_add, Nat.zero_add] at z
  exact z
theorem j_v3g {a ci : Nat} {fs : List Value} {q : vw_C} (hd : decode y.2.1 pc = .ok (.invokevirtual idx, 3)) (hm : jmc y' 3) (hw : Cond.methodLink y.1.cls idx y'.1 ∈ lw_good) (hw2 : Cond.instanceMethod y'.1 ∈ lw_good) (hw3 : Cond.selects y'.1.cls y'.1 y'.1 ∈ lw_good) (hq : vwCl[ci]? = some q) (hcls : y'.1.cls = q.1) (ha : h[a]? = some (ci, fs)) (hd' : d' < d) (hC : C g d' 0 0 y' (.ref a :: [v1, v2, v3]) h Q') (hr : (st.map fun v => v.category).sum ≤ 8) (k : ∀ (r : Option Value) (h' : List AC), Q' r h' → J g y d mc ms Q h' (pc + 3) ls (r.toList ++ st)) : J g y d mc ms Q h pc ls (v3 :: v2 :: v1 :: .ref a :: st) := by
  have z := jcall_V (mc1 := mc) (ms1 := ms) (As := [v1, v2, v3]) (st := st) hd hm hw hw2 hw3 hq hcls ha hd' hC rfl rfl hr (k)
  rw [Nat.zero_add, Nat.zero_add] at z
  exact z
theorem j_ns3 (hd : decode y.2.1 pc = .ok (.invokestatic idx, 3)) (hm : jmc y' 3) (hw : (y.1.cls, idx, y'.1, "LychWeights") ∈ jnest) (hw2 : Cond.static y'.1 ∈ lw_good) (hd' : d' < d) (hC : CD g d' y' [v1, v2, v3] h (some v) h2) (hr : (st.map fun v => v.category).sum ≤ 8) (k : J g y d mc ms Q h2 (pc + 3) ls (v :: st)) : J g y d mc ms Q h pc ls (v3 :: v2 :: v1 :: st) := by
  have z := jcall_SN (mc1 := mc) (ms1 := ms) (As := [v1, v2, v3]) (st := st) hd hm hw hw2 hd' hC rfl rfl hr (fun r h' q => by rw [q.1, q.2]; exact k)
  rw [Nat.zero_add, Nat.zero_add] at z
  exact z
theorem j_ns3n (hd : decode y.2.1 pc = .ok (.invokestatic idx, 3)) (hm : jmc y' 3) (hw : (y.1.cls, idx, y'.1, "LychWeights") ∈ jnest) (hw2 : Cond.static y'.1 ∈ lw_good) (hd' : d' < d) (hC : CD g d' y' [v1, v2, v3] h none h2) (hr : (st.map fun v => v.category).sum ≤ 8) (k : J g y d mc ms Q h2 (pc + 3) ls st) : J g y d mc ms Q h pc ls (v3 :: v2 :: v1 :: st) := by
  have z := jcall_SN (mc1 := mc) (ms1 := ms) (As := [v1, v2, v3]) (st := st) hd hm hw hw2 hd' hC rfl rfl hr (fun r h' q => by rw [q.1, q.2]; exact k)
  rw [Nat.zero_add, Nat.zero_add] at z
  exact z
theorem j_ns3g (hd : decode y.2.1 pc = .ok (.invokestatic idx, 3)) (hm : jmc y' 3) (hw : (y.1.cls, idx, y'.1, "LychWeights") ∈ jnest) (hw2 : Cond.static y'.1 ∈ lw_good) (hd' : d' < d) (hC : C g d' 0 0 y' [v1, v2, v3] h Q') (hr : (st.map fun v => v.category).sum ≤ 8) (k : ∀ (r : Option Value) (h' : List AC), Q' r h' → J g y d mc ms Q h' (pc + 3) ls (r.toList ++ st)) : J g y d mc ms Q h pc ls (v3 :: v2 :: v1 :: st) := by
  have z := jcall_SN (mc1 := mc) (ms1 := ms) (As := [v1, v2, v3]) (st := st) hd hm hw hw2 hd' hC rfl rfl hr (k)
  rw [Nat.zero_add, Nat.zero_add] at z
  exact z
theorem j_s4 (hd : decode y.2.1 pc = .ok (.invokestatic idx, 3)) (hm : jmc y' 4) (hw : Cond.methodLink y.1.cls idx y'.1 ∈ lw_good) (hw2 : Cond.static y'.1 ∈ lw_good) (hd' : d' < d) (hC : CD g d' y' [v1, v2, v3, v4] h (some v) h2) (hr : (st.map fun v => v.category).sum ≤ 8) (k : J g y d mc ms Q h2 (pc + 3) ls (v :: st)) : J g y d mc ms Q h pc ls (v4 :: v3 :: v2 :: v1 :: st) := by
  have z := jcall_S (mc1 := mc) (ms1 := ms) (As := [v1, v2, v3, v4]) (st := st) hd hm hw hw2 hd' hC rfl rfl hr (fun r h' q => by rw [q.1, q.2]; exact k)
  rw [Nat.zero_add, Nat.zero_add] at z
  exact z
theorem j_s4n (hd : decode y.2.1 pc = .ok (.invokestatic idx, 3)) (hm : jmc y' 4) (hw : Cond.methodLink y.1.cls idx y'.1 ∈ lw_good) (hw2 : Cond.static y'.1 ∈ lw_good) (hd' : d' < d) (hC : CD g d' y' [v1, v2, v3, v4] h none h2) (hr : (st.map fun v => v.category).sum ≤ 8) (k : J g y d mc ms Q h2 (pc + 3) ls st) : J g y d mc ms Q h pc ls (v4 :: v3 :: v2 :: v1 :: st) := by
  have z := jcall_S (mc1 := mc) (ms1 := ms) (As := [v1, v2, v3, v4]) (st := st) hd hm hw hw2 hd' hC rfl rfl hr (fun r h' q => by rw [q.1, q.2]; exact k)
  rw [Nat.zero_add, Nat.zero_add] at z
  exact z
theorem j_s4g (hd : decode y.2.1 pc = .ok (.invokestatic idx, 3)) (hm : jmc y' 4) (hw : Cond.methodLink y.1.cls idx y'.1 ∈ lw_good) (hw2 : Cond.static y'.1 ∈ lw_good) (hd' : d' < d) (hC : C g d' 0 0 y' [v1, v2, v3, v4] h Q') (hr : (st.map fun v => v.category).sum ≤ 8) (k : ∀ (r : Option Value) (h' : List AC), Q' r h' → J g y d mc ms Q h' (pc + 3) ls (r.toList ++ st)) : J g y d mc ms Q h pc ls (v4 :: v3 :: v2 :: v1 :: st) := by
  have z := jcall_S (mc1 := mc) (ms1 := ms) (As := [v1, v2, v3, v4]) (st := st) hd hm hw hw2 hd' hC rfl rfl hr (k)
  rw [Nat.zero_add, Nat.zero_add] at z
  exact z
theorem j_v4 {a ci : Nat} {fs : List Value} {q : vw_C} (hd : decode y.2.1 pc = .ok (.invokevirtual idx, 3)) (hm : jmc y' 4) (hw : Cond.methodLink y.1.cls idx y'.1 ∈ lw_good) (hw2 : Cond.instanceMethod y'.1 ∈ lw_good) (hw3 : Cond.selects y'.1.cls y'.1 y'.1 ∈ lw_good) (hq : vwCl[ci]? = some q) (hcls : y'.1.cls = q.1) (ha : h[a]? = some (ci, fs)) (hd' : d' < d) (hC : CD g d' y' (.ref a :: [v1, v2, v3, v4]) h (some v) h2) (hr : (st.map fun v => v.category).sum ≤ 8) (k : J g y d mc ms Q h2 (pc + 3) ls (v :: st)) : J g y d mc ms Q h pc ls (v4 :: v3 :: v2 :: v1 :: .ref a :: st) := by
  have z := jcall_V (mc1 := mc) (ms1 := ms) (As := [v1, v2, v3, v4]) (st := st) hd hm hw hw2 hw3 hq hcls ha hd' hC rfl rfl hr (fun r h' q => by rw [q.1, q.2]; exact k)
  rw [Nat.zero_add, Nat.zero_add] at z
  exact z
theorem j_v4n {a ci : Nat} {fs : List Value} {q : vw_C} (hd : decode y.2.1 pc = .ok (.invokevirtual idx, 3)) (hm : jmc y' 4) (hw : Cond.methodLink y.1.cls idx y'.1 ∈ lw_good) (hw2 : Cond.instanceMethod y'.1 ∈ lw_good) (hw3 : Cond.selects y'.1.cls y'.1 y'.1 ∈ lw_good) (hq : vwCl[ci]? = some q) (hcls : y'.1.cls = q.1) (ha : h[a]? = some (ci, fs)) (hd' : d' < d) (hC : CD g d' y' (.ref a :: [v1, v2, v3, v4]) h none h2) (hr : (st.map fun v => v.category).sum ≤ 8) (k : J g y d mc ms Q h2 (pc + 3) ls st) : J g y d mc ms Q h pc ls (v4 :: v3 :: v2 :: v1 :: .ref a :: st) := by
  have z := jcall_V (mc1 := mc) (ms1 := ms) (As := [v1, v2, v3, v4]) (st := st) hd hm hw hw2 hw3 hq hcls ha hd' hC rfl rfl hr (fun r h' q => by rw [q.1, q.2]; exact k)
  rw [Nat.zero_add, Nat.zero_add] at z
  exact z
theorem j_v4g {a ci : Nat} {fs : List Value} {q : vw_C} (hd : decode y.2.1 pc = .ok (.invokevirtual idx, 3)) (hm : jmc y' 4) (hw : Cond.methodLink y.1.cls idx y'.1 ∈ lw_good) (hw2 : Cond.instanceMethod y'.1 ∈ lw_good) (hw3 : Cond.selects y'.1.cls y'.1 y'.1 ∈ lw_good) (hq : vwCl[ci]? = some q) (hcls : y'.1.cls = q.1) (ha : h[a]? = some (ci, fs)) (hd' : d' < d) (hC : C g d' 0 0 y' (.ref a :: [v1, v2, v3, v4]) h Q') (hr : (st.map fun v => v.category).sum ≤ 8) (k : ∀ (r : Option Value) (h' : List AC), Q' r h' → J g y d mc ms Q h' (pc + 3) ls (r.toList ++ st)) : J g y d mc ms Q h pc ls (v4 :: v3 :: v2 :: v1 :: .ref a :: st) := by
  have z := jcall_V (mc1 := mc) (ms1 := ms) (As := [v1, v2, v3, v4]) (st := st) hd hm hw hw2 hw3 hq hcls ha hd' hC rfl rfl hr (k)
  rw [Nat.zero_add, Nat.zero_add] at z
  exact z
theorem j_ns4 (hd : decode y.2.1 pc = .ok (.invokestatic idx, 3)) (hm : jmc y' 4) (hw : (y.1.cls, idx, y'.1, "LychWeights") ∈ jnest) (hw2 : Cond.static y'.1 ∈ lw_good) (hd' : d' < d) (hC : CD g d' y' [v1, v2, v3, v4] h (some v) h2) (hr : (st.map fun v => v.category).sum ≤ 8) (k : J g y d mc ms Q h2 (pc + 3) ls (v :: st)) : J g y d mc ms Q h pc ls (v4 :: v3 :: v2 :: v1 :: st) := by
  have z := jcall_SN (mc1 := mc) (ms1 := ms) (As := [v1, v2, v3, v4]) (st := st) hd hm hw hw2 hd' hC rfl rfl hr (fun r h' q => by rw [q.1, q.2]; exact k)
  rw [Nat.zero_add, Nat.zero_add] at z
  exact z
theorem j_ns4n (hd : decode y.2.1 pc = .ok (.invokestatic idx, 3)) (hm : jmc y' 4) (hw : (y.1.cls, idx, y'.1, "LychWeights") ∈ jnest) (hw2 : Cond.static y'.1 ∈ lw_good) (hd' : d' < d) (hC : CD g d' y' [v1, v2, v3, v4] h none h2) (hr : (st.map fun v => v.category).sum ≤ 8) (k : J g y d mc ms Q h2 (pc + 3) ls st) : J g y d mc ms Q h pc ls (v4 :: v3 :: v2 :: v1 :: st) := by
  have z := jcall_SN (mc1 := mc) (ms1 := ms) (As := [v1, v2, v3, v4]) (st := st) hd hm hw hw2 hd' hC rfl rfl hr (fun r h' q => by rw [q.1, q.2]; exact k)
  rw [Nat.zero_add, Nat.zero_add] at z
  exact z
theorem j_ns4g (hd : decode y.2.1 pc = .ok (.invokestatic idx, 3)) (hm : jmc y' 4) (hw : (y.1.cls, idx, y'.1, "LychWeights") ∈ jnest) (hw2 : Cond.static y'.1 ∈ lw_good) (hd' : d' < d) (hC : C g d' 0 0 y' [v1, v2, v3, v4] h Q') (hr : (st.map fun v => v.category).sum ≤ 8) (k : ∀ (r : Option Value) (h' : List AC), Q' r h' → J g y d mc ms Q h' (pc + 3) ls (r.toList ++ st)) : J g y d mc ms Q h pc ls (v4 :: v3 :: v2 :: v1 :: st) := by
  have z := jcall_SN (mc1 := mc) (ms1 := ms) (As := [v1, v2, v3, v4]) (st := st) hd hm hw hw2 hd' hC rfl rfl hr (k)
  rw [Nat.zero_add, Nat.zero_add] at z
  exact z
theorem j_s5 (hd : decode y.2.1 pc = .ok (.invokestatic idx, 3)) (hm : jmc y' 5) (hw : Cond.methodLink y.1.cls idx y'.1 ∈ lw_good) (hw2 : Cond.static y'.1 ∈ lw_good) (hd' : d' < d) (hC : CD g d' y' [v1, v2, v3, v4, v5] h (some v) h2) (hr : (st.map fun v => v.category).sum ≤ 8) (k : J g y d mc ms Q h2 (pc + 3) ls (v :: st)) : J g y d mc ms Q h pc ls (v5 :: v4 :: v3 :: v2 :: v1 :: st) := by
  have z := jcall_S (mc1 := mc) (ms1 := ms) (As := [v1, v2, v3, v4, v5]) (st := st) hd hm hw hw2 hd' hC rfl rfl hr (fun r h' q => by rw [q.1, q.2]; exact k)
  rw [Nat.zero_add, Nat.zero_add] at z
  exact z
theorem j_s5n (hd : decode y.2.1 pc = .ok (.invokestatic idx, 3)) (hm : jmc y' 5) (hw : Cond.methodLink y.1.cls idx y'.1 ∈ lw_good) (hw2 : Cond.static y'.1 ∈ lw_good) (hd' : d' < d) (hC : CD g d' y' [v1, v2, v3, v4, v5] h none h2) (hr : (st.map fun v => v.category).sum ≤ 8) (k : J g y d mc ms Q h2 (pc + 3) ls st) : J g y d mc ms Q h pc ls (v5 :: v4 :: v3 :: v2 :: v1 :: st) := by
  have z := jcall_S (mc1 := mc) (ms1 := ms) (As := [v1, v2, v3, v4, v5]) (st := st) hd hm hw hw2 hd' hC rfl rfl hr (fun r h' q => by rw [q.1, q.2]; exact k)
  rw [Nat.zero_add, Nat.zero_add] at z
  exact z
theorem j_s5g (hd : decode y.2.1 pc = .ok (.invokestatic idx, 3)) (hm : jmc y' 5) (hw : Cond.methodLink y.1.cls idx y'.1 ∈ lw_good) (hw2 : Cond.static y'.1 ∈ lw_good) (hd' : d' < d) (hC : C g d' 0 0 y' [v1, v2, v3, v4, v5] h Q') (hr : (st.map fun v => v.category).sum ≤ 8) (k : ∀ (r : Option Value) (h' : List AC), Q' r h' → J g y d mc ms Q h' (pc + 3) ls (r.toList ++ st)) : J g y d mc ms Q h pc ls (v5 :: v4 :: v3 :: v2 :: v1 :: st) := by
  have z := jcall_S (mc1 := mc) (ms1 := ms) (As := [v1, v2, v3, v4, v5]) (st := st) hd hm hw hw2 hd' hC rfl rfl hr (k)
  rw [Nat.zero_add, Nat.zero_add] at z
  exact z
theorem j_v5 {a ci : Nat} {fs : List Value} {q : vw_C} (hd : decode y.2.1 pc = .ok (.invokevirtual idx, 3)) (hm : jmc y' 5) (hw : Cond.methodLink y.1.cls idx y'.1 ∈ lw_good) (hw2 : Cond.instanceMethod y'.1 ∈ lw_good) (hw3 : Cond.selects y'.1.cls y'.1 y'.1 ∈ lw_good) (hq : vwCl[ci]? = some q) (hcls : y'.1.cls = q.1) (ha : h[a]? = some (ci, fs)) (hd' : d' < d) (hC : CD g d' y' (.ref a :: [v1, v2, v3, v4, v5]) h (some v) h2) (hr : (st.map fun v => v.category).sum ≤ 8) (k : J g y d mc ms Q h2 (pc + 3) ls (v :: st)) : J g y d mc ms Q h pc ls (v5 :: v4 :: v3 :: v2 :: v1 :: .ref a :: st) := by
  have z := jcall_V (mc1 := mc) (ms1 := ms) (As := [v1, v2, v3, v4, v5]) (st := st) hd hm hw hw2 hw3 hq hcls ha hd' hC rfl rfl hr (fun r h' q => by rw [q.1, q.2]; exact k)
  rw [Nat.zero_add, Nat.zero_add] at z
  exact z
theorem j_v5n {a ci : Nat} {fs : List Value} {q : vw_C} (hd : decode y.2.1 pc = .ok (.invokevirtual idx, 3)) (hm : jmc y' 5) (hw : Cond.methodLink y.1.cls idx y'.1 ∈ lw_good) (hw2 : Cond.instanceMethod y'.1 ∈ lw_good) (hw3 : Cond.selects y'.1.cls y'.1 y'.1 ∈ lw_good) (hq : vwCl[ci]? = some q) (hcls : y'.1.cls = q.1) (ha : h[a]? = some (ci, fs)) (hd' : d' < d) (hC : CD g d' y' (.ref a :: [v1, v2, v3, v4, v5]) h none h2) (hr : (st.map fun v => v.category).sum ≤ 8) (k : J g y d mc ms Q h2 (pc + 3) ls st) : J g y d mc ms Q h pc ls (v5 :: v4 :: v3 :: v2 :: v1 :: .ref a :: st) := by
  have z := jcall_V (mc1 := mc) (ms1 := ms) (As := [v1, v2, v3, v4, v5]) (st := st) hd hm hw hw2 hw3 hq hcls ha hd' hC rfl rfl hr (fun r h' q => by rw [q.1, q.2]; exact k)
  rw [Nat.zero_add, Nat.zero_add] at z
  exact z
theorem j_v5g {a ci : Nat} {fs : List Value} {q : vw_C} (hd : decode y.2.1 pc = .ok (.invokevirtual idx, 3)) (hm : jmc y' 5) (hw : Cond.methodLink y.1.cls idx y'.1 ∈ lw_good) (hw2 : Cond.instanceMethod y'.1 ∈ lw_good) (hw3 : Cond.selects y'.1.cls y'.1 y'.1 ∈ lw_good) (hq : vwCl[ci]? = some q) (hcls : y'.1.cls = q.1) (ha : h[a]? = some (ci, fs)) (hd' : d' < d) (hC : C g d' 0 0 y' (.ref a :: [v1, v2, v3, v4, v5]) h Q') (hr : (st.map fun v => v.category).sum ≤ 8) (k : ∀ (r : Option Value) (h' : List AC), Q' r h' → J g y d mc ms Q h' (pc + 3) ls (r.toList ++ st)) : J g y d mc ms Q h pc ls (v5 :: v4 :: v3 :: v2 :: v1 :: .ref a :: st) := by
  have z := jcall_V (mc1 := mc) (ms1 := ms) (As := [v1, v2, v3, v4, v5]) (st := st) hd hm hw hw2 hw3 hq hcls ha hd' hC rfl rfl hr (k)
  rw [Nat.zero_add, Nat.zero_add] at z
  exact z
theorem j_ns5 (hd : decode y.2.1 pc = .ok (.invokestatic idx, 3)) (hm : jmc y' 5) (hw : (y.1.cls, idx, y'.1, "LychWeights") ∈ jnest) (hw2 : Cond.static y'.1 ∈ lw_good) (hd' : d' < d) (hC : CD g d' y' [v1, v2, v3, v4, v5] h (some v) h2) (hr : (st.map fun v => v.category).sum ≤ 8) (k : J g y d mc ms Q h2 (pc + 3) ls (v :: st)) : J g y d mc ms Q h pc ls (v5 :: v4 :: v3 :: v2 :: v1 :: st) := by
  have z := jcall_SN (mc1 := mc) (ms1 := ms) (As := [v1, v2, v3, v4, v5]) (st := st) hd hm hw hw2 hd' hC rfl rfl hr (fun r h' q => by rw [q.1, q.2]; exact k)
  rw [Nat.zero_add, Nat.zero_add] at z
  exact z
theorem j_ns5n (hd : decode y.2.1 pc = .ok (.invokestatic idx, 3)) (hm : jmc y' 5) (hw : (y.1.cls, idx, y'.1, "LychWeights") ∈ jnest) (hw2 : Cond.static y'.1 ∈ lw_good) (hd' : d' < d) (hC : CD g d' y' [v1, v2, v3, v4, v5] h none h2) (hr : (st.map fun v => v.category).sum ≤ 8) (k : J g y d mc ms Q h2 (pc + 3) ls st) : J g y d mc ms Q h pc ls (v5 :: v4 :: v3 :: v2 :: v1 :: st) := by
  have z := jcall_SN (mc1 := mc) (ms1 := ms) (As := [v1, v2, v3, v4, v5]) (st := st) hd hm hw hw2 hd' hC rfl rfl hr (fun r h' q => by rw [q.1, q.2]; exact k)
  rw [Nat.zero_add, Nat.zero_add] at z
  exact z
theorem j_ns5g (hd : decode y.2.1 pc = .ok (.invokestatic idx, 3)) (hm : jmc y' 5) (hw : (y.1.cls, idx, y'.1, "LychWeights") ∈ jnest) (hw2 : Cond.static y'.1 ∈ lw_good) (hd' : d' < d) (hC : C g d' 0 0 y' [v1, v2, v3, v4, v5] h Q') (hr : (st.map fun v => v.category).sum ≤ 8) (k : ∀ (r : Option Value) (h' : List AC), Q' r h' → J g y d mc ms Q h' (pc + 3) ls (r.toList ++ st)) : J g y d mc ms Q h pc ls (v5 :: v4 :: v3 :: v2 :: v1 :: st) := by
  have z := jcall_SN (mc1 := mc) (ms1 := ms) (As := [v1, v2, v3, v4, v5]) (st := st) hd hm hw hw2 hd' hC rfl rfl hr (k)
  rw [Nat.zero_add, Nat.zero_add] at z
  exact z
theorem j_i0 {a mc' ms' mc1 ms1 : Nat} (hd : decode y.2.1 pc = .ok (.invokespecial idx, 3)) (hm : jmc y' 0) (hret : y'.2.2.2 = none) (hname : y'.1.name = "<init>") (hw : Cond.methodLink y.1.cls idx y'.1 ∈ lw_good) (hw2 : Cond.instanceMethod y'.1 ∈ lw_good) (hd' : d' < d) (hC : C g d' mc' ms' y' (.ref a :: []) h (fun r h' => r = none ∧ h' = h2)) (hr : (st.map fun v => v.category).sum ≤ 8) (hmc : mc = mc' + mc1) (hms : ms = ms' + ms1) (k : J g y d mc1 ms1 Q h2 (pc + 3) ls st) : J g y d mc ms Q h pc ls (.ref a :: st) := by
  subst hmc
  subst hms
  exact jcall_I (As := []) (st := st) hd hm hret hname hw hw2 hd' hC rfl rfl hr (fun r h' q => by rw [q.1, q.2]; exact k)
theorem j_ni0 {a mc' ms' mc1 ms1 : Nat} (hd : decode y.2.1 pc = .ok (.invokespecial idx, 3)) (hm : jmc y' 0) (hret : y'.2.2.2 = none) (hname : y'.1.name = "<init>") (hw : (y.1.cls, idx, y'.1, "LychWeights") ∈ jnest) (hw2 : Cond.instanceMethod y'.1 ∈ lw_good) (hd' : d' < d) (hC : C g d' mc' ms' y' (.ref a :: []) h (fun r h' => r = none ∧ h' = h2)) (hr : (st.map fun v => v.category).sum ≤ 8) (hmc : mc = mc' + mc1) (hms : ms = ms' + ms1) (k : J g y d mc1 ms1 Q h2 (pc + 3) ls st) : J g y d mc ms Q h pc ls (.ref a :: st) := by
  subst hmc
  subst hms
  exact jcall_IN (As := []) (st := st) hd hm hret hname hw hw2 hd' hC rfl rfl hr (fun r h' q => by rw [q.1, q.2]; exact k)
theorem j_i1 {a mc' ms' mc1 ms1 : Nat} (hd : decode y.2.1 pc = .ok (.invokespecial idx, 3)) (hm : jmc y' 1) (hret : y'.2.2.2 = none) (hname : y'.1.name = "<init>") (hw : Cond.methodLink y.1.cls idx y'.1 ∈ lw_good) (hw2 : Cond.instanceMethod y'.1 ∈ lw_good) (hd' : d' < d) (hC : C g d' mc' ms' y' (.ref a :: [v1]) h (fun r h' => r = none ∧ h' = h2)) (hr : (st.map fun v => v.category).sum ≤ 8) (hmc : mc = mc' + mc1) (hms : ms = ms' + ms1) (k : J g y d mc1 ms1 Q h2 (pc + 3) ls st) : J g y d mc ms Q h pc ls (v1 :: .ref a :: st) := by
  subst hmc
  subst hms
  exact jcall_I (As := [v1]) (st := st) hd hm hret hname hw hw2 hd' hC rfl rfl hr (fun r h' q => by rw [q.1, q.2]; exact k)
theorem j_ni1 {a mc' ms' mc1 ms1 : Nat} (hd : decode y.2.1 pc = .ok (.invokespecial idx, 3)) (hm : jmc y' 1) (hret : y'.2.2.2 = none) (hname : y'.1.name = "<init>") (hw : (y.1.cls, idx, y'.1, "LychWeights") ∈ jnest) (hw2 : Cond.instanceMethod y'.1 ∈ lw_good) (hd' : d' < d) (hC : C g d' mc' ms' y' (.ref a :: [v1]) h (fun r h' => r = none ∧ h' = h2)) (hr : (st.map fun v => v.category).sum ≤ 8) (hmc : mc = mc' + mc1) (hms : ms = ms' + ms1) (k : J g y d mc1 ms1 Q h2 (pc + 3) ls st) : J g y d mc ms Q h pc ls (v1 :: .ref a :: st) := by
  subst hmc
  subst hms
  exact jcall_IN (As := [v1]) (st := st) hd hm hret hname hw hw2 hd' hC rfl rfl hr (fun r h' q => by rw [q.1, q.2]; exact k)
theorem j_i2 {a mc' ms' mc1 ms1 : Nat} (hd : decode y.2.1 pc = .ok (.invokespecial idx, 3)) (hm : jmc y' 2) (hret : y'.2.2.2 = none) (hname : y'.1.name = "<init>") (hw : Cond.methodLink y.1.cls idx y'.1 ∈ lw_good) (hw2 : Cond.instanceMethod y'.1 ∈ lw_good) (hd' : d' < d) (hC : C g d' mc' ms' y' (.ref a :: [v1, v2]) h (fun r h' => r = none ∧ h' = h2)) (hr : (st.map fun v => v.category).sum ≤ 8) (hmc : mc = mc' + mc1) (hms : ms = ms' + ms1) (k : J g y d mc1 ms1 Q h2 (pc + 3) ls st) : J g y d mc ms Q h pc ls (v2 :: v1 :: .ref a :: st) := by
  subst hmc
  subst hms
  exact jcall_I (As := [v1, v2]) (st := st) hd hm hret hname hw hw2 hd' hC rfl rfl hr (fun r h' q => by rw [q.1, q.2]; exact k)
theorem j_ni2 {a mc' ms' mc1 ms1 : Nat} (hd : decode y.2.1 pc = .ok (.invokespecial idx, 3)) (hm : jmc y' 2) (hret : y'.2.2.2 = none) (hname : y'.1.name = "<init>") (hw : (y.1.cls, idx, y'.1, "LychWeights") ∈ jnest) (hw2 : Cond.instanceMethod y'.1 ∈ lw_good) (hd' : d' < d) (hC : C g d' mc' ms' y' (.ref a :: [v1, v2]) h (fun r h' => r = none ∧ h' = h2)) (hr : (st.map fun v => v.category).sum ≤ 8) (hmc : mc = mc' + mc1) (hms : ms = ms' + ms1) (k : J g y d mc1 ms1 Q h2 (pc + 3) ls st) : J g y d mc ms Q h pc ls (v2 :: v1 :: .ref a :: st) := by
  subst hmc
  subst hms
  exact jcall_IN (As := [v1, v2]) (st := st) hd hm hret hname hw hw2 hd' hC rfl rfl hr (fun r h' q => by rw [q.1, q.2]; exact k)
theorem j_ialdE {a t n k : Nat} {f : Fn} {i : Int32} (hd : decode y.2.1 pc = .ok (.iaload, 1)) (ha : h[a]? = some (t, iv n f)) (ht : jty t = some .int) (hi : i = nI k) (hk : k < n) (hn : n < 2 ^ 31) (kk : J g y d mc ms Q h (pc + 1) ls (.int (f k) :: st)) : J g y d mc ms Q h pc ls (.int i :: .ref a :: st) := by
  subst hi
  refine j_iald hd ha ht (vp_in_nI hk hn) ?_
  rw [nI_clamp (by omega)]
  exact kk
theorem j_iastE {a n k : Nat} {f : Fn} {i x : Int32} {h2 : List AC} (hd : decode y.2.1 pc = .ok (.iastore, 1)) (ha : h[a]? = some (8, iv n f)) (hi : i = nI k) (hk : k < n) (hn : n < 2 ^ 31) (hs : h.set a (8, iv n (upd f k x)) = h2) (kk : J g y d mc ms Q h2 (pc + 1) ls st) : J g y d mc ms Q h pc ls (.int x :: .int i :: .ref a :: st) := by
  subst hi
  exact j_iast hd ha (vp_in_nI hk hn) (by rw [nI_clamp (by omega)]; exact hs) kk
theorem j_zaldE {a n k : Nat} {f : Nat → Bool} {i : Int32} (hd : decode y.2.1 pc = .ok (.baload, 1)) (ha : h[a]? = some (9, zv n f)) (hi : i = nI k) (hk : k < n) (hn : n < 2 ^ 31) (kk : J g y d mc ms Q h (pc + 1) ls (.int (b2i (f k)) :: st)) : J g y d mc ms Q h pc ls (.int i :: .ref a :: st) := by
  subst hi
  refine j_zald hd ha (vp_in_nI hk hn) ?_
  rw [nI_clamp (by omega)]
  exact kk
theorem j_zastE {a n k : Nat} {f : Nat → Bool} {i x : Int32} {b : Bool} {h2 : List AC} (hd : decode y.2.1 pc = .ok (.bastore, 1)) (hb : x = b2i b) (ha : h[a]? = some (9, zv n f)) (hi : i = nI k) (hk : k < n) (hn : n < 2 ^ 31) (hs : h.set a (9, zv n (updB f k b)) = h2) (kk : J g y d mc ms Q h2 (pc + 1) ls st) : J g y d mc ms Q h pc ls (.int x :: .int i :: .ref a :: st) := by
  subst hi
  exact j_zast hd hb ha (vp_in_nI hk hn) (by rw [nI_clamp (by omega)]; exact hs) kk
theorem j_aaldE {a b n k : Nat} {vs : List Value} {i : Int32} (hd : decode y.2.1 pc = .ok (.aaload, 1)) (ha : h[a]? = some (10, vs)) (hi : i = nI k) (hn : vs.length = n) (hk : k < n) (hn2 : n < 2 ^ 31) (hv : vs[k]? = some (.ref b)) (kk : J g y d mc ms Q h (pc + 1) ls (.ref b :: st)) : J g y d mc ms Q h pc ls (.int i :: .ref a :: st) := by
  subst hi
  exact j_aald hd ha hn (vp_in_nI hk hn2) (by rw [nI_clamp (by omega)]; exact hv) kk
end
end
section
/-! small functions -/
section
variable {g : GG} {h : List AC} {Q : Option Value → List AC → Prop}
def jin (v lo hi : Int32) : Bool := decide (¬ v < lo) && decide (¬ hi < v)
def tbit (s i : Int32) : Bool := decide (¬ (s &&& (1 <<< (i &&& 31))) = 0)
def bitI (i : Int32) : Int32 := 1 <<< (i &&& 31)
def allI (n : Int32) : Int32 := (1 <<< (n &&& 31)) - 1
def shr (x : Int32) (n : Int32) : Int32 := (x.toUInt32 >>> (n.toUInt32 &&& Int32.toUInt32 31)).toInt32
def bc1 (x : Int32) : Int32 := x - (shr x 1 &&& 1431655765)
def bc2 (x : Int32) : Int32 := (x &&& 858993459) + (shr x 2 &&& 858993459)
def bc3 (x : Int32) : Int32 := (x + shr x 4) &&& 252645135
def bc4 (x : Int32) : Int32 := x + shr x 8
def bc5 (x : Int32) : Int32 := x + shr x 16
def bcI (x : Int32) : Int32 := bc5 (bc4 (bc3 (bc2 (bc1 x)))) &&& 63
/-- a loop that counts up -/
def iter {α : Type} (step : Nat → α → α) : Nat → Nat → α → α
  | 0, _, a => a
  | m + 1, k, a => iter step m (k + 1) (step k a)
theorem iter_last {α : Type} (step : Nat → α → α) : ∀ (m k : Nat) (a : α), iter step (m + 1) k a = step (k + m) (iter step m k a)
  | 0, k, a => rfl
  | m + 1, k, a => by
    rw [show iter step (m + 1 + 1) k a = iter step (m + 1) (k + 1) (step k a) from rfl, iter_last step m (k + 1) (step k a), show iter step (m + 1) k a = iter step m (k + 1) (step k a) from rfl, show k + 1 + m = k + (m + 1) by omega]
theorem nI_s (k : Nat) : nI k + Int32.ofInt 1 = nI (k + 1) := (nI_succ k).symm
theorem nI_s1 (k : Nat) : nI k + 1 = nI (k + 1) := (nI_succ k).symm
theorem vin_nI {k n : Nat} (h : k < n) (hn : n < 2 ^ 31) : vp_in (nI k) n := vp_in_nI h hn
set_option maxRecDepth 20000 in
set_option maxHeartbeats 1000000 in
theorem c_isWithin {v lo hi : Int32} : CD g 0 mX6_isWithin [.int v, .int lo, .int hi] h (some (.int (b2i (jin v lo hi)))) h := by
  refine C.of (by decide +kernel) (by simp [Value.category]) (Nat.le_of_ble_eq_true rfl) ?_
  change J g mX6_isWithin 0 0 0 _ h 0 [some (.int v), some (.int lo), some (.int hi)] []
  refine j_iload_n (pc := 0) dX6_isWithin_0 rfl ?_
  refine j_iload_n (pc := 1) dX6_isWithin_1 rfl ?_
  refine j_icmp_lt (pc := 2) (tgt := 14) dX6_isWithin_2 rfl (fun zc2 => ?_) (fun zc2 => ?_)
  · refine j_iconst (pc := 14) dX6_isWithin_14 kc_0 ?_
    refine j_zret (pc := 15) (b := jin v lo hi) dX6_isWithin_15 rfl (by simp [jin, b2i, *]) ?_
    exact ⟨rfl, rfl⟩
  · refine j_iload_n (pc := 5) dX6_isWithin_5 rfl ?_
    refine j_iload_n (pc := 6) dX6_isWithin_6 rfl ?_
    refine j_icmp_gt (pc := 7) (tgt := 14) dX6_isWithin_7 rfl (fun zc7 => ?_) (fun zc7 => ?_)
    · refine j_iconst (pc := 14) dX6_isWithin_14 kc_0 ?_
      refine j_zret (pc := 15) (b := jin v lo hi) dX6_isWithin_15 rfl (by simp [jin, b2i, *]) ?_
      exact ⟨rfl, rfl⟩
    · refine j_iconst (pc := 10) dX6_isWithin_10 kc_1 ?_
      refine j_goto (pc := 11) (tgt := 15) dX6_isWithin_11 rfl ?_
      refine j_zret (pc := 15) (b := jin v lo hi) dX6_isWithin_15 rfl (by simp [jin, b2i, *]) ?_
      exact ⟨rfl, rfl⟩

set_option maxRecDepth 20000 in
set_option maxHeartbeats 1000000 in
theorem c_in {v lo hi : Int32} : CD g 0 mX7_in [.int v, .int lo, .int hi] h (some (.int (b2i (jin v lo hi)))) h := by
  refine C.of (by decide +kernel) (by simp [Value.category]) (Nat.le_of_ble_eq_true rfl) ?_
  change J g mX7_in 0 0 0 _ h 0 [some (.int v), some (.int lo), some (.int hi)] []
  refine j_iload_n (pc := 0) dX7_in_0 rfl ?_
  refine j_iload_n (pc := 1) dX7_in_1 rfl ?_
  refine j_icmp_lt (pc := 2) (tgt := 14) dX7_in_2 rfl (fun zc2 => ?_) (fun zc2 => ?_)
  · refine j_iconst (pc := 14) dX7_in_14 kc_0 ?_
    refine j_zret (pc := 15) (b := jin v lo hi) dX7_in_15 rfl (by simp [jin, b2i, *]) ?_
    exact ⟨rfl, rfl⟩
  · refine j_iload_n (pc := 5) dX7_in_5 rfl ?_
    refine j_iload_n (pc := 6) dX7_in_6 rfl ?_
    refine j_icmp_gt (pc := 7) (tgt := 14) dX7_in_7 rfl (fun zc7 => ?_) (fun zc7 => ?_)
    · refine j_iconst (pc := 14) dX7_in_14 kc_0 ?_
      refine j_zret (pc := 15) (b := jin v lo hi) dX7_in_15 rfl (by simp [jin, b2i, *]) ?_
      exact ⟨rfl, rfl⟩
    · refine j_iconst (pc := 10) dX7_in_10 kc_1 ?_
      refine j_goto (pc := 11) (tgt := 15) dX7_in_11 rfl ?_
      refine j_zret (pc := 15) (b := jin v lo hi) dX7_in_15 rfl (by simp [jin, b2i, *]) ?_
      exact ⟨rfl, rfl⟩

set_option maxRecDepth 20000 in
set_option maxHeartbeats 1000000 in
theorem c_bit {i : Int32} : CD g 0 mX6_bit [.int i] h (some (.int (bitI i))) h := by
  refine C.of (by decide +kernel) (by simp [Value.category]) (Nat.le_of_ble_eq_true rfl) ?_
  change J g mX6_bit 0 0 0 _ h 0 [some (.int i)] []
  refine j_iconst (pc := 0) dX6_bit_0 kc_1 ?_
  refine j_iload_n (pc := 1) dX6_bit_1 rfl ?_
  refine j_ishl (pc := 2) dX6_bit_2 ?_
  refine j_ireturn (pc := 3) dX6_bit_3 rfl ?_
  exact ⟨rfl, rfl⟩

set_option maxRecDepth 20000 in
set_option maxHeartbeats 1000000 in
theorem c_isIn {s i : Int32} : CD g 0 mX6_isIn [.int s, .int i] h (some (.int (b2i (tbit s i)))) h := by
  refine C.of (by decide +kernel) (by simp [Value.category]) (Nat.le_of_ble_eq_true rfl) ?_
  change J g mX6_isIn 0 0 0 _ h 0 [some (.int s), some (.int i)] []
  refine j_iload_n (pc := 0) dX6_isIn_0 rfl ?_
  refine j_iconst (pc := 1) dX6_isIn_1 kc_1 ?_
  refine j_iload_n (pc := 2) dX6_isIn_2 rfl ?_
  refine j_ishl (pc := 3) dX6_isIn_3 ?_
  refine j_iand (pc := 4) dX6_isIn_4 ?_
  refine j_if_eq (pc := 5) (tgt := 12) dX6_isIn_5 rfl (fun zc5 => ?_) (fun zc5 => ?_)
  · refine j_iconst (pc := 12) dX6_isIn_12 kc_0 ?_
    refine j_zret (pc := 13) (b := tbit s i) dX6_isIn_13 rfl (by simp [tbit, b2i, *]) ?_
    exact ⟨rfl, rfl⟩
  · refine j_iconst (pc := 8) dX6_isIn_8 kc_1 ?_
    refine j_goto (pc := 9) (tgt := 13) dX6_isIn_9 rfl ?_
    refine j_zret (pc := 13) (b := tbit s i) dX6_isIn_13 rfl (by simp [tbit, b2i, *]) ?_
    exact ⟨rfl, rfl⟩

set_option maxRecDepth 20000 in
set_option maxHeartbeats 1000000 in
theorem c_allOf {n : Int32} : CD g 0 mX6_allOf [.int n] h (some (.int (allI n))) h := by
  refine C.of (by decide +kernel) (by simp [Value.category]) (Nat.le_of_ble_eq_true rfl) ?_
  change J g mX6_allOf 0 0 0 _ h 0 [some (.int n)] []
  refine j_iconst (pc := 0) dX6_allOf_0 kc_1 ?_
  refine j_iload_n (pc := 1) dX6_allOf_1 rfl ?_
  refine j_ishl (pc := 2) dX6_allOf_2 ?_
  refine j_iconst (pc := 3) dX6_allOf_3 kc_1 ?_
  refine j_isub (pc := 4) dX6_allOf_4 ?_
  refine j_ireturn (pc := 5) dX6_allOf_5 rfl ?_
  exact ⟨rfl, rfl⟩

set_option maxRecDepth 20000 in
set_option maxHeartbeats 1000000 in
theorem c_bitCount {x : Int32} : CD g 0 mJ6_bitCount_0f7a4 [.int x] h (some (.int (bcI x))) h := by
  refine C.of (by decide +kernel) (by simp [Value.category]) (Nat.le_of_ble_eq_true rfl) ?_
  change J g mJ6_bitCount_0f7a4 0 0 0 _ h 0 [some (.int x)] []
  refine j_iload_n (pc := 0) dJ6_bitCount_0f7a4_0 rfl ?_
  refine j_iload_n (pc := 1) dJ6_bitCount_0f7a4_1 rfl ?_
  refine j_iconst (pc := 2) dJ6_bitCount_0f7a4_2 kc_1 ?_
  refine j_iushr (pc := 3) dJ6_bitCount_0f7a4_3 rfl ?_
  refine j_ldcw (pc := 4) dJ6_bitCount_0f7a4_4 ck_J6_265 ?_
  refine j_iand (pc := 7) dJ6_bitCount_0f7a4_7 ?_
  refine j_isub (pc := 8) dJ6_bitCount_0f7a4_8 ?_
  refine j_istore_n (pc := 9) dJ6_bitCount_0f7a4_9 rfl (Nat.le_of_ble_eq_true rfl) rfl ?_
  refine j_iload_n (pc := 10) dJ6_bitCount_0f7a4_10 rfl ?_
  refine j_ldcw (pc := 11) dJ6_bitCount_0f7a4_11 ck_J6_266 ?_
  refine j_iand (pc := 14) dJ6_bitCount_0f7a4_14 ?_
  refine j_iload_n (pc := 15) dJ6_bitCount_0f7a4_15 rfl ?_
  refine j_iconst (pc := 16) dJ6_bitCount_0f7a4_16 kc_2 ?_
  refine j_iushr (pc := 17) dJ6_bitCount_0f7a4_17 rfl ?_
  refine j_ldcw (pc := 18) dJ6_bitCount_0f7a4_18 ck_J6_266 ?_
  refine j_iand (pc := 21) dJ6_bitCount_0f7a4_21 ?_
  refine j_iadd (pc := 22) dJ6_bitCount_0f7a4_22 ?_
  refine j_istore_n (pc := 23) dJ6_bitCount_0f7a4_23 rfl (Nat.le_of_ble_eq_true rfl) rfl ?_
  refine j_iload_n (pc := 24) dJ6_bitCount_0f7a4_24 rfl ?_
  refine j_iload_n (pc := 25) dJ6_bitCount_0f7a4_25 rfl ?_
  refine j_iconst (pc := 26) dJ6_bitCount_0f7a4_26 kc_4 ?_
  refine j_iushr (pc := 27) dJ6_bitCount_0f7a4_27 rfl ?_
  refine j_iadd (pc := 28) dJ6_bitCount_0f7a4_28 ?_
  refine j_ldcw (pc := 29) dJ6_bitCount_0f7a4_29 ck_J6_267 ?_
  refine j_iand (pc := 32) dJ6_bitCount_0f7a4_32 ?_
  refine j_istore_n (pc := 33) dJ6_bitCount_0f7a4_33 rfl (Nat.le_of_ble_eq_true rfl) rfl ?_
  refine j_iload_n (pc := 34) dJ6_bitCount_0f7a4_34 rfl ?_
  refine j_iload_n (pc := 35) dJ6_bitCount_0f7a4_35 rfl ?_
  refine j_bipush (pc := 36) dJ6_bitCount_0f7a4_36 kb_8 ?_
  refine j_iushr (pc := 38) dJ6_bitCount_0f7a4_38 rfl ?_
  refine j_iadd (pc := 39) dJ6_bitCount_0f7a4_39 ?_
  refine j_istore_n (pc := 40) dJ6_bitCount_0f7a4_40 rfl (Nat.le_of_ble_eq_true rfl) rfl ?_
  refine j_iload_n (pc := 41) dJ6_bitCount_0f7a4_41 rfl ?_
  refine j_iload_n (pc := 42) dJ6_bitCount_0f7a4_42 rfl ?_
  refine j_bipush (pc := 43) dJ6_bitCount_0f7a4_43 kb_16 ?_
  refine j_iushr (pc := 45) dJ6_bitCount_0f7a4_45 rfl ?_
  refine j_iadd (pc := 46) dJ6_bitCount_0f7a4_46 ?_
  refine j_istore_n (pc := 47) dJ6_bitCount_0f7a4_47 rfl (Nat.le_of_ble_eq_true rfl) rfl ?_
  refine j_iload_n (pc := 48) dJ6_bitCount_0f7a4_48 rfl ?_
  refine j_bipush (pc := 49) dJ6_bitCount_0f7a4_49 kb_63 ?_
  refine j_iand (pc := 51) dJ6_bitCount_0f7a4_51 ?_
  refine j_ireturn (pc := 52) dJ6_bitCount_0f7a4_52 rfl ?_
  exact ⟨rfl, rfl⟩

set_option maxRecDepth 20000 in
set_option maxHeartbeats 1000000 in
theorem c_wayOf {a b : Int32} : CD g 0 mX6_wayOf [.int a, .int b] h (some (.int ((a <<< (6 &&& 31)) ||| b))) h := by
  refine C.of (by decide +kernel) (by simp [Value.category]) (Nat.le_of_ble_eq_true rfl) ?_
  change J g mX6_wayOf 0 0 0 _ h 0 [some (.int a), some (.int b)] []
  refine j_iload_n (pc := 0) dX6_wayOf_0 rfl ?_
  refine j_bipush (pc := 1) dX6_wayOf_1 kb_6 ?_
  refine j_ishl (pc := 3) dX6_wayOf_3 ?_
  refine j_iload_n (pc := 4) dX6_wayOf_4 rfl ?_
  refine j_ior (pc := 5) dX6_wayOf_5 ?_
  refine j_ireturn (pc := 6) dX6_wayOf_6 rfl ?_
  exact ⟨rfl, rfl⟩

set_option maxRecDepth 20000 in
set_option maxHeartbeats 1000000 in
theorem c_fourOf {a : Int32} : CD g 0 mX6_fourOf [.int a] h (some (.int (a >>> (6 &&& 31)))) h := by
  refine C.of (by decide +kernel) (by simp [Value.category]) (Nat.le_of_ble_eq_true rfl) ?_
  change J g mX6_fourOf 0 0 0 _ h 0 [some (.int a)] []
  refine j_iload_n (pc := 0) dX6_fourOf_0 rfl ?_
  refine j_bipush (pc := 1) dX6_fourOf_1 kb_6 ?_
  refine j_ishr (pc := 3) dX6_fourOf_3 ?_
  refine j_ireturn (pc := 4) dX6_fourOf_4 rfl ?_
  exact ⟨rfl, rfl⟩

set_option maxRecDepth 20000 in
set_option maxHeartbeats 1000000 in
theorem c_leftOf {a : Int32} : CD g 1 mX6_leftOf [.int a] h (some (.int (a &&& allI 6))) h := by
  refine C.of (by decide +kernel) (by simp [Value.category]) (Nat.le_of_ble_eq_true rfl) ?_
  change J g mX6_leftOf 1 0 0 _ h 0 [some (.int a)] []
  refine j_iload_n (pc := 0) dX6_leftOf_0 rfl ?_
  refine j_bipush (pc := 1) dX6_leftOf_1 kb_6 ?_
  refine j_s1 (pc := 3) dX6_leftOf_3 mc_X6_allOf ml_X6_195 sm_X6_allOf (by omega) (c_allOf) (Nat.le_of_ble_eq_true rfl) ?_
  refine j_iand (pc := 6) dX6_leftOf_6 ?_
  refine j_ireturn (pc := 7) dX6_leftOf_7 rfl ?_
  exact ⟨rfl, rfl⟩

set_option maxRecDepth 20000 in
set_option maxHeartbeats 1000000 in
theorem c_loadBy {a b : Int32} : CD g 1 mX6_loadBy [.int a, .int b] h (some (.int (imax 0 (a + b)))) h := by
  refine C.of (by decide +kernel) (by simp [Value.category]) (Nat.le_of_ble_eq_true rfl) ?_
  change J g mX6_loadBy 1 0 0 _ h 0 [some (.int a), some (.int b)] []
  refine j_iconst (pc := 0) dX6_loadBy_0 kc_0 ?_
  refine j_iload_n (pc := 1) dX6_loadBy_1 rfl ?_
  refine j_iload_n (pc := 2) dX6_loadBy_2 rfl ?_
  refine j_iadd (pc := 3) dX6_loadBy_3 ?_
  refine j_max (pc := 4) dX6_loadBy_4 ml_X6_217 (by omega) (Nat.le_of_ble_eq_true rfl) ?_
  refine j_ireturn (pc := 7) dX6_loadBy_7 rfl ?_
  exact ⟨rfl, rfl⟩

def powI (b : Int32) (m k : Nat) (a : Int32) : Int32 := iter (fun _ a => a * b) m k a
set_option maxRecDepth 20000 in
set_option maxHeartbeats 1000000 in
theorem l_power {b : Int32} {n : Nat} (hn : n < 2 ^ 31) : ∀ (m k : Nat) (a : Int32), k + m = n → J g mX6_power 0 0 0 (fun r h' => r = some (.int (powI b m k a)) ∧ h' = h) h 4 [some (.int b), some (.int (nI n)), some (.int a), some (.int (nI k))] [] := by
  intro m
  induction m with
  | zero =>
    intro k a hk
    refine j_iload_n (pc := 4) dX6_power_4 rfl ?_
    refine j_iload_n (pc := 5) dX6_power_5 rfl ?_
    refine j_icmp_ge (pc := 6) (tgt := 19) dX6_power_6 rfl (fun _ => ?_) (fun zc6 => absurd (nI_le (a := n) (b := k) (by omega) (by omega)) zc6)
    refine j_iload_n (pc := 19) dX6_power_19 rfl ?_
    refine j_ireturn (pc := 20) dX6_power_20 rfl ?_
    exact ⟨rfl, rfl⟩
  | succ m ih =>
    intro k a hk
    refine j_iload_n (pc := 4) dX6_power_4 rfl ?_
    refine j_iload_n (pc := 5) dX6_power_5 rfl ?_
    refine j_icmp_ge (pc := 6) (tgt := 19) dX6_power_6 rfl (fun zc6 => absurd zc6 (nI_ge (a := k) (b := n) (by omega) (by omega))) (fun _ => ?_)
    refine j_iload_n (pc := 9) dX6_power_9 rfl ?_
    refine j_iload_n (pc := 10) dX6_power_10 rfl ?_
    refine j_imul (pc := 11) dX6_power_11 ?_
    refine j_istore_n (pc := 12) dX6_power_12 rfl (Nat.le_of_ble_eq_true rfl) rfl ?_
    refine j_iinc (pc := 13) dX6_power_13 rfl rfl (Nat.le_of_ble_eq_true rfl) rfl ?_
    refine j_goto (pc := 16) (tgt := 4) dX6_power_16 rfl ?_
    rw [nI_s]
    exact ih (k + 1) (a * b) (by omega)

set_option maxRecDepth 20000 in
set_option maxHeartbeats 1000000 in
theorem c_power {b : Int32} {n : Nat} (hn : n < 2 ^ 31) : CD g 0 mX6_power [.int b, .int (nI n)] h (some (.int (powI b n 0 1))) h := by
  refine C.of (by decide +kernel) (by simp [Value.category]) (Nat.le_of_ble_eq_true rfl) ?_
  change J g mX6_power 0 0 0 _ h 0 [some (.int b), some (.int (nI n)), none, none] []
  refine j_iconst (pc := 0) dX6_power_0 kc_1 ?_
  refine j_istore_n (pc := 1) dX6_power_1 rfl (Nat.le_of_ble_eq_true rfl) rfl ?_
  refine j_iconst (pc := 2) dX6_power_2 kc_0 ?_
  refine j_istore_n (pc := 3) dX6_power_3 rfl (Nat.le_of_ble_eq_true rfl) rfl ?_
  exact l_power hn n 0 1 (by omega)

def rAt (n : Nat) (f : Fn) (i : Int32) : Int32 := if ¬ i < 0 ∧ i < nI n then f i.toNatClampNeg else 0
theorem rAt_in {n k : Nat} {f : Fn} (hk : k < n) (hn : n < 2 ^ 31) : rAt n f (nI k) = f k := by
  unfold rAt
  rw [if_pos ⟨nI_pos (by omega), nI_lt hk hn⟩, nI_clamp (by omega)]
def rPut (n : Nat) (f : Fn) (i x : Int32) : Fn := if ¬ i < 0 ∧ i < nI n then upd f i.toNatClampNeg x else f
theorem rPut_in {n k : Nat} {f : Fn} {x : Int32} (hk : k < n) (hn : n < 2 ^ 31) : rPut n f (nI k) x = upd f k x := by
  unfold rPut
  rw [if_pos ⟨nI_pos (by omega), nI_lt hk hn⟩, nI_clamp (by omega)]
theorem vin_of {i : Int32} {n : Nat} (hn : n < 2 ^ 31) (h0 : ¬ i < 0) (h1 : i < nI n) : vp_in i n := by
  intro q
  rcases q with q | q
  · exact h0 q
  · have h2 := Int32.lt_iff_toInt_lt.mp h1
    rw [nI_toInt hn] at h2
    have h3 : (i.toNatClampNeg : Int) = i.toInt := by
      have h4 : ¬ i.toInt < 0 := fun z => h0 (Int32.lt_iff_toInt_lt.mpr (by simpa using z))
      show (i.toInt.toNat : Int) = i.toInt
      omega
    omega
theorem set_same {h : List AC} {j : Nat} {c : AC} (hj : h[j]? = some c) : h.set j c = h := by
  apply List.ext_getElem?
  intro k
  by_cases e : k = j
  · subst e
    rw [List.getElem?_set_self (List.getElem?_eq_some_iff.mp hj).1, hj]
  · rw [List.getElem?_set_ne (Ne.symm e)]
set_option maxRecDepth 20000 in
set_option maxHeartbeats 1000000 in
theorem c_at {k j n : Nat} {f : Fn} {i : Int32} (hn : n < 2 ^ 31) (hk : h[k]? = some (3, [.ref j])) (hj : h[j]? = some (8, iv n f)) : CD g 0 mX3_at [.ref k, .int i] h (some (.int (rAt n f i))) h := by
  refine C.of (by decide +kernel) (by simp [Value.category]) (Nat.le_of_ble_eq_true rfl) ?_
  change J g mX3_at 0 0 0 _ h 0 [some (.ref k), some (.int i)] []
  refine j_iload_n (pc := 0) dX3_at_0 rfl ?_
  refine j_if_lt (pc := 1) (tgt := 22) dX3_at_1 rfl (fun zc1 => ?_) (fun zc1 => ?_)
  · refine j_iconst (pc := 22) dX3_at_22 kc_0 ?_
    refine j_ireturn (pc := 23) dX3_at_23 rfl ?_
    refine ⟨?_, rfl⟩
    first | (rw [rAt, if_neg (fun z => z.1 zc1)]; done) | (rw [rAt, if_neg (fun z => Int32.not_lt.mpr zc10 z.2)]; done) | rw [rAt, if_pos ⟨zc1, Int32.not_le.mp zc10⟩]
  · refine j_iload_n (pc := 4) dX3_at_4 rfl ?_
    refine j_aload_n (pc := 5) dX3_at_5 rfl ?_
    refine j_getf (pc := 6) dX3_at_6 fl_X3_15 (by assumption) rfl ?_
    refine j_alen (pc := 9) dX3_at_9 (by assumption) rfl (by rw [iv_len]) ?_
    refine j_icmp_ge (pc := 10) (tgt := 22) dX3_at_10 rfl (fun zc10 => ?_) (fun zc10 => ?_)
    · refine j_iconst (pc := 22) dX3_at_22 kc_0 ?_
      refine j_ireturn (pc := 23) dX3_at_23 rfl ?_
      refine ⟨?_, rfl⟩
      first | (rw [rAt, if_neg (fun z => z.1 zc1)]; done) | (rw [rAt, if_neg (fun z => Int32.not_lt.mpr zc10 z.2)]; done) | rw [rAt, if_pos ⟨zc1, Int32.not_le.mp zc10⟩]
    · refine j_aload_n (pc := 13) dX3_at_13 rfl ?_
      refine j_getf (pc := 14) dX3_at_14 fl_X3_15 (by assumption) rfl ?_
      refine j_iload_n (pc := 17) dX3_at_17 rfl ?_
      refine j_iald (pc := 18) dX3_at_18 (by assumption) rfl (vin_of hn zc1 (Int32.not_le.mp zc10)) ?_
      refine j_goto (pc := 19) (tgt := 23) dX3_at_19 rfl ?_
      refine j_ireturn (pc := 23) dX3_at_23 rfl ?_
      refine ⟨?_, rfl⟩
      first | (rw [rAt, if_neg (fun z => z.1 zc1)]; done) | (rw [rAt, if_neg (fun z => Int32.not_lt.mpr zc10 z.2)]; done) | rw [rAt, if_pos ⟨zc1, Int32.not_le.mp zc10⟩]

set_option maxRecDepth 20000 in
set_option maxHeartbeats 1000000 in
theorem c_put {k j n : Nat} {f : Fn} {i x : Int32} (hn : n < 2 ^ 31) (hk : h[k]? = some (3, [.ref j])) (hj : h[j]? = some (8, iv n f)) : CD g 0 mX3_put [.ref k, .int i, .int x] h none (h.set j (8, iv n (rPut n f i x))) := by
  refine C.of (by decide +kernel) (by simp [Value.category]) (Nat.le_of_ble_eq_true rfl) ?_
  change J g mX3_put 0 0 0 _ h 0 [some (.ref k), some (.int i), some (.int x)] []
  refine j_iload_n (pc := 0) dX3_put_0 rfl ?_
  refine j_if_lt (pc := 1) (tgt := 20) dX3_put_1 rfl (fun zc1 => ?_) (fun zc1 => ?_)
  · refine j_return (pc := 20) dX3_put_20 rfl ?_
    refine ⟨rfl, ?_⟩
    first | (rw [rPut, if_neg (fun z => z.1 zc1), set_same hj]; done) | (rw [rPut, if_neg (fun z => Int32.not_lt.mpr zc10 z.2), set_same hj]; done) | rw [rPut, if_pos ⟨zc1, Int32.not_le.mp zc10⟩]
  · refine j_iload_n (pc := 4) dX3_put_4 rfl ?_
    refine j_aload_n (pc := 5) dX3_put_5 rfl ?_
    refine j_getf (pc := 6) dX3_put_6 fl_X3_15 (by assumption) rfl ?_
    refine j_alen (pc := 9) dX3_put_9 (by assumption) rfl (by rw [iv_len]) ?_
    refine j_icmp_ge (pc := 10) (tgt := 20) dX3_put_10 rfl (fun zc10 => ?_) (fun zc10 => ?_)
    · refine j_return (pc := 20) dX3_put_20 rfl ?_
      refine ⟨rfl, ?_⟩
      first | (rw [rPut, if_neg (fun z => z.1 zc1), set_same hj]; done) | (rw [rPut, if_neg (fun z => Int32.not_lt.mpr zc10 z.2), set_same hj]; done) | rw [rPut, if_pos ⟨zc1, Int32.not_le.mp zc10⟩]
    · refine j_aload_n (pc := 13) dX3_put_13 rfl ?_
      refine j_getf (pc := 14) dX3_put_14 fl_X3_15 (by assumption) rfl ?_
      refine j_iload_n (pc := 17) dX3_put_17 rfl ?_
      refine j_iload_n (pc := 18) dX3_put_18 rfl ?_
      refine j_iast (pc := 19) dX3_put_19 (by assumption) (vin_of hn zc1 (Int32.not_le.mp zc10)) rfl ?_
      refine j_return (pc := 20) dX3_put_20 rfl ?_
      refine ⟨rfl, ?_⟩
      first | (rw [rPut, if_neg (fun z => z.1 zc1), set_same hj]; done) | (rw [rPut, if_neg (fun z => Int32.not_lt.mpr zc10 z.2), set_same hj]; done) | rw [rPut, if_pos ⟨zc1, Int32.not_le.mp zc10⟩]

def sumStep (f : Fn) (s : Int32) (k : Nat) (a : Int32) : Int32 := if tbit s (nI k) then a + f k else a
def sumI (f : Fn) (s : Int32) (m k : Nat) (a : Int32) : Int32 := iter (sumStep f s) m k a
theorem get_ne {h : List AC} {k j : Nat} {c c2 x : AC} (hk : h[k]? = some c) (hj : h[j]? = some c2) (hn : c.1 ≠ c2.1) : (h.set j x)[k]? = some c := by
  have e : ¬ j = k := fun q => hn (by rw [q, hk] at hj; cases hj; rfl)
  rw [List.getElem?_set_ne e]
  exact hk
theorem get_ne2 {h : List AC} {k j : Nat} {c x : AC} (hk : h[k]? = some c) (e : ¬ j = k) : (h.set j x)[k]? = some c := by
  rw [List.getElem?_set_ne e]
  exact hk
theorem get_eq {h : List AC} {j : Nat} {c x : AC} (hj : h[j]? = some c) : (h.set j x)[j]? = some x := List.getElem?_set_self (List.getElem?_eq_some_iff.mp hj).1
theorem iv_congr {n : Nat} {f f2 : Fn} (he : ∀ i, i < n → f i = f2 i) : iv n f = iv n f2 := by
  apply List.ext_getElem?
  intro k
  by_cases hk : k < n
  · rw [iv_at _ hk, iv_at _ hk, he k hk]
  · rw [List.getElem?_eq_none (by rw [iv_len]; omega), List.getElem?_eq_none (by rw [iv_len]; omega)]
set_option maxRecDepth 20000 in
set_option maxHeartbeats 1000000 in
theorem l_sumOf {k j : Nat} {f : Fn} {s : Int32} (hk : h[k]? = some (3, [.ref j])) (hj : h[j]? = some (8, iv 6 f)) : ∀ (m i : Nat) (a : Int32), i + m = 6 → J g mX3_sumOf 1 0 0 (fun r h' => r = some (.int (sumI f s m i a)) ∧ h' = h) h 4 [some (.ref k), some (.int s), some (.int a), some (.int (nI i))] [] := by
  intro m
  induction m with
  | zero =>
    intro i a hi
    refine j_iload_n (pc := 4) dX3_sumOf_4 rfl ?_
    refine j_bipush (pc := 5) dX3_sumOf_5 kb_6 ?_
    refine j_icmp_ge (pc := 7) (tgt := 42) dX3_sumOf_7 rfl (fun _ => ?_) (fun zc7 => absurd (nI_le (a := 6) (b := i) (by omega) (by omega)) zc7)
    refine j_iload_n (pc := 42) dX3_sumOf_42 rfl ?_
    refine j_ireturn (pc := 43) dX3_sumOf_43 rfl ?_
    exact ⟨rfl, rfl⟩
  | succ m ih =>
    intro i a hi
    refine j_iload_n (pc := 4) dX3_sumOf_4 rfl ?_
    refine j_bipush (pc := 5) dX3_sumOf_5 kb_6 ?_
    refine j_icmp_ge (pc := 7) (tgt := 42) dX3_sumOf_7 rfl (fun zc7 => absurd zc7 (nI_ge (a := i) (b := 6) (by omega) (by omega))) (fun _ => ?_)
    refine j_iload_n (pc := 10) dX3_sumOf_10 rfl ?_
    refine j_aload_n (pc := 11) dX3_sumOf_11 rfl ?_
    refine j_getf (pc := 12) dX3_sumOf_12 fl_X3_15 (by assumption) rfl ?_
    refine j_alen (pc := 15) dX3_sumOf_15 (by assumption) rfl (by rw [iv_len]) ?_
    refine j_icmp_ge (pc := 16) (tgt := 42) dX3_sumOf_16 rfl (fun zc16 => absurd zc16 (nI_ge (a := i) (b := 6) (by omega) (by omega))) (fun _ => ?_)
    refine j_iload_n (pc := 19) dX3_sumOf_19 rfl ?_
    refine j_iload_n (pc := 20) dX3_sumOf_20 rfl ?_
    refine j_ns2 (pc := 21) dX3_sumOf_21 mc_X6_isIn nk_X3_21 sm_X6_isIn (by omega) (c_isIn) (Nat.le_of_ble_eq_true rfl) ?_
    refine j_beq (pc := 24) (tgt := 36) dX3_sumOf_24 rfl (fun zc24 => ?_) (fun zc24 => ?_)
    · refine j_iinc (pc := 36) dX3_sumOf_36 rfl rfl (Nat.le_of_ble_eq_true rfl) rfl ?_
      refine j_goto (pc := 39) (tgt := 4) dX3_sumOf_39 rfl ?_
      rw [nI_s]
      first
        | (rw [show sumI f s (m + 1) i a = sumI f s m (i + 1) (a + f i) by simp [sumI, iter, sumStep, *]]
           exact ih (i + 1) (a + f i) (by omega))
        | (rw [show sumI f s (m + 1) i a = sumI f s m (i + 1) a by simp [sumI, iter, sumStep, *]]
           exact ih (i + 1) a (by omega))
    · refine j_iload_n (pc := 27) dX3_sumOf_27 rfl ?_
      refine j_aload_n (pc := 28) dX3_sumOf_28 rfl ?_
      refine j_getf (pc := 29) dX3_sumOf_29 fl_X3_15 (by assumption) rfl ?_
      refine j_iload_n (pc := 32) dX3_sumOf_32 rfl ?_
      refine j_ialdE (pc := 33) dX3_sumOf_33 (by assumption) rfl rfl (by omega) (by omega) ?_
      refine j_iadd (pc := 34) dX3_sumOf_34 ?_
      refine j_istore_n (pc := 35) dX3_sumOf_35 rfl (Nat.le_of_ble_eq_true rfl) rfl ?_
      refine j_iinc (pc := 36) dX3_sumOf_36 rfl rfl (Nat.le_of_ble_eq_true rfl) rfl ?_
      refine j_goto (pc := 39) (tgt := 4) dX3_sumOf_39 rfl ?_
      rw [nI_s]
      first
        | (rw [show sumI f s (m + 1) i a = sumI f s m (i + 1) (a + f i) by simp [sumI, iter, sumStep, *]]
           exact ih (i + 1) (a + f i) (by omega))
        | (rw [show sumI f s (m + 1) i a = sumI f s m (i + 1) a by simp [sumI, iter, sumStep, *]]
           exact ih (i + 1) a (by omega))

set_option maxRecDepth 20000 in
set_option maxHeartbeats 1000000 in
theorem c_sumOf {k j : Nat} {f : Fn} {s : Int32} (hk : h[k]? = some (3, [.ref j])) (hj : h[j]? = some (8, iv 6 f)) : CD g 1 mX3_sumOf [.ref k, .int s] h (some (.int (sumI f s 6 0 0))) h := by
  refine C.of (by decide +kernel) (by simp [Value.category]) (Nat.le_of_ble_eq_true rfl) ?_
  change J g mX3_sumOf 1 0 0 _ h 0 [some (.ref k), some (.int s), none, none] []
  refine j_iconst (pc := 0) dX3_sumOf_0 kc_0 ?_
  refine j_istore_n (pc := 1) dX3_sumOf_1 rfl (Nat.le_of_ble_eq_true rfl) rfl ?_
  refine j_iconst (pc := 2) dX3_sumOf_2 kc_0 ?_
  refine j_istore_n (pc := 3) dX3_sumOf_3 rfl (Nat.le_of_ble_eq_true rfl) rfl ?_
  exact l_sumOf hk hj 6 0 0 rfl

set_option maxRecDepth 20000 in
set_option maxHeartbeats 1000000 in
theorem l_fill {k j n : Nat} {x : Int32} (hn : n < 2 ^ 31) : ∀ (m i : Nat) (f : Fn) (h : List AC), i + m = n → (∀ l, l < i → f l = x) → h[k]? = some (3, [.ref j]) → h[j]? = some (8, iv n f) → J g mX3_fill 0 0 0 (fun r h' => r = none ∧ h' = h.set j (8, iv n (fun _ => x))) h 2 [some (.ref k), some (.int x), some (.int (nI i))] [] := by
  intro m
  induction m with
  | zero =>
    intro i f h hi hf hk hj
    refine j_iload_n (pc := 2) dX3_fill_2 rfl ?_
    refine j_aload_n (pc := 3) dX3_fill_3 rfl ?_
    refine j_getf (pc := 4) dX3_fill_4 fl_X3_15 (by assumption) rfl ?_
    refine j_alen (pc := 7) dX3_fill_7 (by assumption) rfl (by rw [iv_len]) ?_
    refine j_icmp_ge (pc := 8) (tgt := 24) dX3_fill_8 rfl (fun _ => ?_) (fun zc8 => absurd (nI_le (a := n) (b := i) (by omega) (by omega)) zc8)
    refine j_return (pc := 24) dX3_fill_24 rfl ?_
    refine ⟨rfl, ?_⟩
    rw [← iv_congr (f := f) (fun l hl => hf l (by omega)), set_same hj]
  | succ m ih =>
    intro i f h hi hf hk hj
    refine j_iload_n (pc := 2) dX3_fill_2 rfl ?_
    refine j_aload_n (pc := 3) dX3_fill_3 rfl ?_
    refine j_getf (pc := 4) dX3_fill_4 fl_X3_15 (by assumption) rfl ?_
    refine j_alen (pc := 7) dX3_fill_7 (by assumption) rfl (by rw [iv_len]) ?_
    refine j_icmp_ge (pc := 8) (tgt := 24) dX3_fill_8 rfl (fun zc8 => absurd zc8 (nI_ge (a := i) (b := n) (by omega) (by omega))) (fun _ => ?_)
    refine j_aload_n (pc := 11) dX3_fill_11 rfl ?_
    refine j_getf (pc := 12) dX3_fill_12 fl_X3_15 (by assumption) rfl ?_
    refine j_iload_n (pc := 15) dX3_fill_15 rfl ?_
    refine j_iload_n (pc := 16) dX3_fill_16 rfl ?_
    refine j_iastE (pc := 17) dX3_fill_17 (by assumption) rfl (by omega) (by omega) rfl ?_
    refine j_iinc (pc := 18) dX3_fill_18 rfl rfl (Nat.le_of_ble_eq_true rfl) rfl ?_
    refine j_goto (pc := 21) (tgt := 2) dX3_fill_21 rfl ?_
    rw [nI_s]
    have z := ih (i + 1) (upd f i x) (h.set j (8, iv n (upd f i x))) (by omega) (fun l hl => by
      by_cases e : l = i
      · simp [upd, e]
      · simp [upd, e, hf l (by omega)]) (get_ne hk hj (show (3 : Nat) ≠ 8 by decide)) (get_eq hj)
    rw [List.set_set] at z
    exact z

set_option maxRecDepth 20000 in
set_option maxHeartbeats 1000000 in
theorem c_fill {k j n : Nat} {f : Fn} {x : Int32} (hn : n < 2 ^ 31) (hk : h[k]? = some (3, [.ref j])) (hj : h[j]? = some (8, iv n f)) : CD g 0 mX3_fill [.ref k, .int x] h none (h.set j (8, iv n (fun _ => x))) := by
  refine C.of (by decide +kernel) (by simp [Value.category]) (Nat.le_of_ble_eq_true rfl) ?_
  change J g mX3_fill 0 0 0 _ h 0 [some (.ref k), some (.int x), none] []
  refine j_iconst (pc := 0) dX3_fill_0 kc_0 ?_
  refine j_istore_n (pc := 1) dX3_fill_1 rfl (Nat.le_of_ble_eq_true rfl) rfl ?_
  exact l_fill hn n 0 f h (by omega) (fun l hl => absurd hl (Nat.not_lt_zero l)) hk hj

set_option maxRecDepth 20000 in
set_option maxHeartbeats 1000000 in
theorem l_copyR {k j n k2 j2 : Nat} {f2 : Fn} (hn : n < 2 ^ 31) (hne : ¬ j = j2) : ∀ (m i : Nat) (f : Fn) (h : List AC), i + m = n → (∀ l, l < i → f l = f2 l) → h[k]? = some (3, [.ref j]) → h[j]? = some (8, iv n f) → h[k2]? = some (3, [.ref j2]) → h[j2]? = some (8, iv n f2) → J g mX3_copyFrom 1 0 0 (fun r h' => r = none ∧ h' = h.set j (8, iv n f2)) h 2 [some (.ref k), some (.ref k2), some (.int (nI i))] [] := by
  intro m
  induction m with
  | zero =>
    intro i f h hi hf hk hj hk2 hj2
    refine j_iload_n (pc := 2) dX3_copyFrom_2 rfl ?_
    refine j_aload_n (pc := 3) dX3_copyFrom_3 rfl ?_
    refine j_getf (pc := 4) dX3_copyFrom_4 fl_X3_15 (by assumption) rfl ?_
    refine j_alen (pc := 7) dX3_copyFrom_7 (by assumption) rfl (by rw [iv_len]) ?_
    refine j_icmp_ge (pc := 8) (tgt := 28) dX3_copyFrom_8 rfl (fun _ => ?_) (fun zc8 => absurd (nI_le (a := n) (b := i) (by omega) (by omega)) zc8)
    refine j_return (pc := 28) dX3_copyFrom_28 rfl ?_
    refine ⟨rfl, ?_⟩
    rw [← iv_congr (f := f) (fun l hl => hf l (by omega)), set_same hj]
  | succ m ih =>
    intro i f h hi hf hk hj hk2 hj2
    refine j_iload_n (pc := 2) dX3_copyFrom_2 rfl ?_
    refine j_aload_n (pc := 3) dX3_copyFrom_3 rfl ?_
    refine j_getf (pc := 4) dX3_copyFrom_4 fl_X3_15 (by assumption) rfl ?_
    refine j_alen (pc := 7) dX3_copyFrom_7 (by assumption) rfl (by rw [iv_len]) ?_
    refine j_icmp_ge (pc := 8) (tgt := 28) dX3_copyFrom_8 rfl (fun zc8 => absurd zc8 (nI_ge (a := i) (b := n) (by omega) (by omega))) (fun _ => ?_)
    refine j_aload_n (pc := 11) dX3_copyFrom_11 rfl ?_
    refine j_getf (pc := 12) dX3_copyFrom_12 fl_X3_15 (by assumption) rfl ?_
    refine j_iload_n (pc := 15) dX3_copyFrom_15 rfl ?_
    refine j_aload_n (pc := 16) dX3_copyFrom_16 rfl ?_
    refine j_iload_n (pc := 17) dX3_copyFrom_17 rfl ?_
    refine j_v1 (pc := 18) (ci := 3) dX3_copyFrom_18 mc_X3_at ml_X3_25 im_X3_at se_X3_at rfl rfl (by assumption) (by omega) (c_at hn (by assumption) (by assumption)) (Nat.le_of_ble_eq_true rfl) ?_
    rw [rAt_in (show i < n by omega) hn]
    refine j_iastE (pc := 21) dX3_copyFrom_21 (by assumption) rfl (by omega) (by omega) rfl ?_
    refine j_iinc (pc := 22) dX3_copyFrom_22 rfl rfl (Nat.le_of_ble_eq_true rfl) rfl ?_
    refine j_goto (pc := 25) (tgt := 2) dX3_copyFrom_25 rfl ?_
    rw [nI_s]
    have z := ih (i + 1) (upd f i (f2 i)) (h.set j (8, iv n (upd f i (f2 i)))) (by omega) (fun l hl => by
      by_cases e : l = i
      · simp [upd, e]
      · simp [upd, e, hf l (by omega)]) (get_ne hk hj (show (3 : Nat) ≠ 8 by decide)) (get_eq hj) (get_ne hk2 hj (show (3 : Nat) ≠ 8 by decide)) (get_ne2 hj2 hne)
    rw [List.set_set] at z
    exact z

set_option maxRecDepth 20000 in
set_option maxHeartbeats 1000000 in
theorem c_copyR {k j n k2 j2 : Nat} {f f2 : Fn} (hn : n < 2 ^ 31) (hk : h[k]? = some (3, [.ref j])) (hj : h[j]? = some (8, iv n f)) (hk2 : h[k2]? = some (3, [.ref j2])) (hj2 : h[j2]? = some (8, iv n f2)) (hne : ¬ j = j2) : CD g 1 mX3_copyFrom [.ref k, .ref k2] h none (h.set j (8, iv n f2)) := by
  refine C.of (by decide +kernel) (by simp [Value.category]) (Nat.le_of_ble_eq_true rfl) ?_
  change J g mX3_copyFrom 1 0 0 _ h 0 [some (.ref k), some (.ref k2), none] []
  refine j_iconst (pc := 0) dX3_copyFrom_0 kc_0 ?_
  refine j_istore_n (pc := 1) dX3_copyFrom_1 rfl (Nat.le_of_ble_eq_true rfl) rfl ?_
  exact l_copyR hn hne n 0 f h (by omega) (fun l hl => absurd hl (Nat.not_lt_zero l)) hk hj hk2 hj2

theorem imax_nI {n : Nat} (h : n < 2 ^ 31) : imax 0 (nI n) = nI n := by
  unfold imax
  by_cases e : n = 0
  · subst e
    rfl
  · rw [if_pos (show (0 : Int32) < nI n from nI_lt (a := 0) (by omega) h)]
theorem ap_get {l1 l2 : List AC} {k : Nat} {c : AC} (hk : l1[k]? = some c) : (l1 ++ l2)[k]? = some c := by
  rw [List.getElem?_append_left (List.getElem?_eq_some_iff.mp hk).1]
  exact hk
theorem jdef_X3 : jdef 3 [.null] := fun q hq => by
  cases hq
  refine ⟨rfl, fun k hk => ?_⟩
  have : k = 0 := by have : k < 1 := hk; omega
  subst this
  exact ⟨.array .int, by decide +kernel, _, rfl, rfl, fun _ => rfl⟩
set_option maxRecDepth 20000 in
set_option maxHeartbeats 1000000 in
theorem c_rowInit {k n : Nat} (hn : n < 1000) (hk : h[k]? = some (3, [.null])) : C g 1 1 n mX3_init [.ref k, .int (nI n)] h (fun r h' => r = none ∧ h' = (h ++ [(8, iv n (fun _ => 0))]).set k (3, [.ref h.length])) := by
  refine C.of (by decide +kernel) (by simp [Value.category]) (Nat.le_of_ble_eq_true rfl) ?_
  change J g mX3_init 1 1 n _ h 0 [some (.ref k), some (.int (nI n))] []
  refine j_aload_n (pc := 0) dX3_init_0 rfl ?_
  refine j_objinit (pc := 1) dX3_init_1 ol_X3_3 ol_im ol_co (by omega) (Nat.le_of_ble_eq_true rfl) ?_
  refine j_aload_n (pc := 4) dX3_init_4 rfl ?_
  refine j_iconst (pc := 5) dX3_init_5 kc_0 ?_
  refine j_iload_n (pc := 6) dX3_init_6 rfl ?_
  refine j_max (pc := 7) dX3_init_7 ml_X3_9 (by omega) (Nat.le_of_ble_eq_true rfl) ?_
  refine j_newarr (pc := 10) dX3_init_10 rfl (t := 8) (N := n) rfl (by decide) ac_int (by rw [imax_nI (by omega)]; exact nI_pos (by omega)) (by rw [imax_nI (by omega), nI_clamp (by omega)]) (by show n * 4 ≤ _; omega) (iv_len n (fun _ => 0)) (fun j v hv => by rw [(iv_in hv).2]; rfl) rfl (Nat.zero_add n).symm ?_
  refine j_putF (pc := 12) dX3_init_12 fl_X3_15 rfl (fun q e => by cases e; rfl) (jfit_a _ _) (ap_get hk) rfl ?_
  refine j_return (pc := 15) dX3_init_15 rfl ?_
  exact ⟨rfl, rfl⟩

end
end
section
/-! the heap of the class and of the reference, cell by cell (written by wip/whole/gen11.py) -/
/-- a scene: needle, thumb, rust; flowers, sins, chalk -/
abbrev ScV : Type := Int32 × Int32 × Int32 × Fn × Fn × Fn
/-- a parish: items, deeds, dead, bearers, pin, rust; weights, boxes, flowers, sins, strengths -/
abbrev ParV : Type := Int32 × Int32 × Int32 × Int32 × Int32 × Int32 × Fn × Fn × Fn × Fn × Fn
/-- a reader: length, start, behind, token, value; wrong, pinTold, rustTold -/
abbrev RdV : Type := Int32 × Int32 × Int32 × Int32 × Int32 × Bool × Bool × Bool
def pa : Bool → Nat
  | false => 5
  | true => 16
def pd : Bool → Nat
  | false => 16
  | true => 5
def ia (n : Nat) (f : Fn) : AC := (8, iv n f)
def rowC (a : Nat) : AC := (3, [.ref (a + 1)])
def scC (a : Nat) (v : ScV) : AC := (4, [.int v.1, .int v.2.1, .int v.2.2.1, .ref (a + 1), .ref (a + 3), .ref (a + 5)])
def scL (a : Nat) (v : ScV) : List AC := [scC a v, rowC (a + 1), ia 6 v.2.2.2.1, rowC (a + 3), ia 6 v.2.2.2.2.1, rowC (a + 5), ia 6 v.2.2.2.2.2]
def paC (a : Nat) (v : ParV) : AC := (1, [.int v.1, .int v.2.1, .int v.2.2.1, .int v.2.2.2.1, .int v.2.2.2.2.1, .int v.2.2.2.2.2.1, .ref (a + 1), .ref (a + 3), .ref (a + 5), .ref (a + 7), .ref (a + 9)])
def paL (a : Nat) (v : ParV) : List AC := [paC a v, rowC (a + 1), ia 6 v.2.2.2.2.2.2.1, rowC (a + 3), ia 6 v.2.2.2.2.2.2.2.1, rowC (a + 5), ia 6 v.2.2.2.2.2.2.2.2.1, rowC (a + 7), ia 6 v.2.2.2.2.2.2.2.2.2.1, rowC (a + 9), ia 6 v.2.2.2.2.2.2.2.2.2.2]
def rdC (r : RdV) : AC := (2, [.ref 2, .int r.1, .int r.2.1, .int r.2.2.1, .int r.2.2.2.1, .int r.2.2.2.2.1, .int (b2i r.2.2.2.2.2.1), .int (b2i r.2.2.2.2.2.2.1), .int (b2i r.2.2.2.2.2.2.2)])
def xC (lc : Int32) (sw : Bool) (kept tc : Int32) (ts : Int64) : AC := (6, [.ref 2, .int lc, .ref 4, .ref (pa sw), .ref (pd sw), .ref 27, .ref 34, .ref 107, .ref 109, .int kept, .ref 125, .ref 127, .int tc, .long ts])
def hsC (kk nx : Int32) : AC := (0, [.int kk, .int nx, .ref 35])
def ringC : AC := (10, [.ref 37, .ref 44, .ref 51, .ref 58, .ref 65, .ref 72, .ref 79, .ref 86, .ref 93, .ref 100])
def imC : AC := (10, [.ref 111, .ref 118])
def selP (sw : Bool) (P D : ParV) : ParV := match sw with
  | false => P
  | true => D
def HX (lt : Fn) (lc : Int32) (rd : RdV) (sw : Bool) (P : ParV) (D : ParV) (S : ScV) (kk : Int32) (nx : Int32) (ring : Nat → ScV) (bu : Fn) (im : Nat → ScV) (kept : Int32) (tb : Fn) (tr : Fn) (tc : Int32) (ts : Int64) : List AC :=
  [xC lc sw kept tc ts, rowC 2, ia 150 lt, rdC rd] ++ (paL 5 (selP sw P D) ++ (paL 16 (selP sw D P) ++ (scL 27 S ++ ([hsC kk nx, (5, [.ref 36]), ringC] ++ (
    scL 37 (ring 0) ++ (scL 44 (ring 1) ++ (scL 51 (ring 2) ++ (scL 58 (ring 3) ++ (scL 65 (ring 4) ++ (scL 72 (ring 5) ++ (scL 79 (ring 6) ++ (scL 86 (ring 7) ++ (scL 93 (ring 8) ++ (scL 100 (ring 9) ++ (
    [rowC 107, ia 6 bu, (5, [.ref 110]), imC] ++ (scL 111 (im 0) ++ (scL 118 (im 1) ++ [rowC 125, ia 6 tb, rowC 127, ia 6 tr])))))))))))))))))
def W1 (scr : AC) (tl : List AC) (lt : Fn) (lc : Int32) (rd : RdV) (sw : Bool) (P : ParV) (D : ParV) (S : ScV) (kk : Int32) (nx : Int32) (ring : Nat → ScV) (bu : Fn) (im : Nat → ScV) (kept : Int32) (tb : Fn) (tr : Fn) (tc : Int32) (ts : Int64) : List AC := scr :: (HX lt lc rd sw P D S kk nx ring bu im kept tb tr tc ts ++ tl)
theorem lkE {h : List AC} {a : Nat} {c c2 : AC} (hc : h[a]? = some c) (e : c = c2) : h[a]? = some c2 := by rw [hc, e]
section
variable {scr : AC} {tl : List AC} {lt : Fn} {lc : Int32} {rd : RdV} {sw : Bool} {P : ParV} {D : ParV} {S : ScV} {kk : Int32} {nx : Int32} {ring : Nat → ScV} {bu : Fn} {im : Nat → ScV} {kept : Int32} {tb : Fn} {tr : Fn} {tc : Int32} {ts : Int64}
set_option maxRecDepth 100000 in
theorem lkX_0  : (W1 scr tl lt lc rd sw P D S kk nx ring bu im kept tb tr tc ts)[0]? = some (scr) := rfl
set_option maxRecDepth 100000 in
theorem lkX_1  : (W1 scr tl lt lc rd sw P D S kk nx ring bu im kept tb tr tc ts)[1]? = some (xC lc sw kept tc ts) := rfl
set_option maxRecDepth 100000 in
theorem lkX_2  : (W1 scr tl lt lc rd sw P D S kk nx ring bu im kept tb tr tc ts)[2]? = some (rowC 2) := rfl
set_option maxRecDepth 100000 in
theorem lkX_3  : (W1 scr tl lt lc rd sw P D S kk nx ring bu im kept tb tr tc ts)[2 + 1]? = some (ia 150 lt) := rfl
set_option maxRecDepth 100000 in
theorem lkX_4  : (W1 scr tl lt lc rd sw P D S kk nx ring bu im kept tb tr tc ts)[4]? = some (rdC rd) := rfl
set_option maxRecDepth 100000 in
theorem lkX_p  : (W1 scr tl lt lc rd sw P D S kk nx ring bu im kept tb tr tc ts)[pa sw]? = some (paC (pa sw) P) := by cases sw <;> rfl
set_option maxRecDepth 100000 in
theorem lkX_p1  : (W1 scr tl lt lc rd sw P D S kk nx ring bu im kept tb tr tc ts)[pa sw + 1]? = some (rowC (pa sw + 1)) := by cases sw <;> rfl
set_option maxRecDepth 100000 in
theorem lkX_p2  : (W1 scr tl lt lc rd sw P D S kk nx ring bu im kept tb tr tc ts)[pa sw + 1 + 1]? = some (ia 6 P.2.2.2.2.2.2.1) := by cases sw <;> rfl
set_option maxRecDepth 100000 in
theorem lkX_p3  : (W1 scr tl lt lc rd sw P D S kk nx ring bu im kept tb tr tc ts)[pa sw + 3]? = some (rowC (pa sw + 3)) := by cases sw <;> rfl
set_option maxRecDepth 100000 in
theorem lkX_p4  : (W1 scr tl lt lc rd sw P D S kk nx ring bu im kept tb tr tc ts)[pa sw + 3 + 1]? = some (ia 6 P.2.2.2.2.2.2.2.1) := by cases sw <;> rfl
set_option maxRecDepth 100000 in
theorem lkX_p5  : (W1 scr tl lt lc rd sw P D S kk nx ring bu im kept tb tr tc ts)[pa sw + 5]? = some (rowC (pa sw + 5)) := by cases sw <;> rfl
set_option maxRecDepth 100000 in
theorem lkX_p6  : (W1 scr tl lt lc rd sw P D S kk nx ring bu im kept tb tr tc ts)[pa sw + 5 + 1]? = some (ia 6 P.2.2.2.2.2.2.2.2.1) := by cases sw <;> rfl
set_option maxRecDepth 100000 in
theorem lkX_p7  : (W1 scr tl lt lc rd sw P D S kk nx ring bu im kept tb tr tc ts)[pa sw + 7]? = some (rowC (pa sw + 7)) := by cases sw <;> rfl
set_option maxRecDepth 100000 in
theorem lkX_p8  : (W1 scr tl lt lc rd sw P D S kk nx ring bu im kept tb tr tc ts)[pa sw + 7 + 1]? = some (ia 6 P.2.2.2.2.2.2.2.2.2.1) := by cases sw <;> rfl
set_option maxRecDepth 100000 in
theorem lkX_p9  : (W1 scr tl lt lc rd sw P D S kk nx ring bu im kept tb tr tc ts)[pa sw + 9]? = some (rowC (pa sw + 9)) := by cases sw <;> rfl
set_option maxRecDepth 100000 in
theorem lkX_p10  : (W1 scr tl lt lc rd sw P D S kk nx ring bu im kept tb tr tc ts)[pa sw + 9 + 1]? = some (ia 6 P.2.2.2.2.2.2.2.2.2.2) := by cases sw <;> rfl
set_option maxRecDepth 100000 in
theorem lkX_d  : (W1 scr tl lt lc rd sw P D S kk nx ring bu im kept tb tr tc ts)[pd sw]? = some (paC (pd sw) D) := by cases sw <;> rfl
set_option maxRecDepth 100000 in
theorem lkX_d1  : (W1 scr tl lt lc rd sw P D S kk nx ring bu im kept tb tr tc ts)[pd sw + 1]? = some (rowC (pd sw + 1)) := by cases sw <;> rfl
set_option maxRecDepth 100000 in
theorem lkX_d2  : (W1 scr tl lt lc rd sw P D S kk nx ring bu im kept tb tr tc ts)[pd sw + 1 + 1]? = some (ia 6 D.2.2.2.2.2.2.1) := by cases sw <;> rfl
set_option maxRecDepth 100000 in
theorem lkX_d3  : (W1 scr tl lt lc rd sw P D S kk nx ring bu im kept tb tr tc ts)[pd sw + 3]? = some (rowC (pd sw + 3)) := by cases sw <;> rfl
set_option maxRecDepth 100000 in
theorem lkX_d4  : (W1 scr tl lt lc rd sw P D S kk nx ring bu im kept tb tr tc ts)[pd sw + 3 + 1]? = some (ia 6 D.2.2.2.2.2.2.2.1) := by cases sw <;> rfl
set_option maxRecDepth 100000 in
theorem lkX_d5  : (W1 scr tl lt lc rd sw P D S kk nx ring bu im kept tb tr tc ts)[pd sw + 5]? = some (rowC (pd sw + 5)) := by cases sw <;> rfl
set_option maxRecDepth 100000 in
theorem lkX_d6  : (W1 scr tl lt lc rd sw P D S kk nx ring bu im kept tb tr tc ts)[pd sw + 5 + 1]? = some (ia 6 D.2.2.2.2.2.2.2.2.1) := by cases sw <;> rfl
set_option maxRecDepth 100000 in
theorem lkX_d7  : (W1 scr tl lt lc rd sw P D S kk nx ring bu im kept tb tr tc ts)[pd sw + 7]? = some (rowC (pd sw + 7)) := by cases sw <;> rfl
set_option maxRecDepth 100000 in
theorem lkX_d8  : (W1 scr tl lt lc rd sw P D S kk nx ring bu im kept tb tr tc ts)[pd sw + 7 + 1]? = some (ia 6 D.2.2.2.2.2.2.2.2.2.1) := by cases sw <;> rfl
set_option maxRecDepth 100000 in
theorem lkX_d9  : (W1 scr tl lt lc rd sw P D S kk nx ring bu im kept tb tr tc ts)[pd sw + 9]? = some (rowC (pd sw + 9)) := by cases sw <;> rfl
set_option maxRecDepth 100000 in
theorem lkX_d10  : (W1 scr tl lt lc rd sw P D S kk nx ring bu im kept tb tr tc ts)[pd sw + 9 + 1]? = some (ia 6 D.2.2.2.2.2.2.2.2.2.2) := by cases sw <;> rfl
set_option maxRecDepth 100000 in
theorem lkX_27  : (W1 scr tl lt lc rd sw P D S kk nx ring bu im kept tb tr tc ts)[27]? = some (scC 27 S) := rfl
set_option maxRecDepth 100000 in
theorem lkX_28  : (W1 scr tl lt lc rd sw P D S kk nx ring bu im kept tb tr tc ts)[27 + 1]? = some (rowC (27 + 1)) := rfl
set_option maxRecDepth 100000 in
theorem lkX_29  : (W1 scr tl lt lc rd sw P D S kk nx ring bu im kept tb tr tc ts)[27 + 1 + 1]? = some (ia 6 S.2.2.2.1) := rfl
set_option maxRecDepth 100000 in
theorem lkX_30  : (W1 scr tl lt lc rd sw P D S kk nx ring bu im kept tb tr tc ts)[27 + 3]? = some (rowC (27 + 3)) := rfl
set_option maxRecDepth 100000 in
theorem lkX_31  : (W1 scr tl lt lc rd sw P D S kk nx ring bu im kept tb tr tc ts)[27 + 3 + 1]? = some (ia 6 S.2.2.2.2.1) := rfl
set_option maxRecDepth 100000 in
theorem lkX_32  : (W1 scr tl lt lc rd sw P D S kk nx ring bu im kept tb tr tc ts)[27 + 5]? = some (rowC (27 + 5)) := rfl
set_option maxRecDepth 100000 in
theorem lkX_33  : (W1 scr tl lt lc rd sw P D S kk nx ring bu im kept tb tr tc ts)[27 + 5 + 1]? = some (ia 6 S.2.2.2.2.2) := rfl
set_option maxRecDepth 100000 in
theorem lkX_34  : (W1 scr tl lt lc rd sw P D S kk nx ring bu im kept tb tr tc ts)[34]? = some (hsC kk nx) := rfl
set_option maxRecDepth 100000 in
theorem lkX_35  : (W1 scr tl lt lc rd sw P D S kk nx ring bu im kept tb tr tc ts)[35]? = some (5, [.ref 36]) := rfl
set_option maxRecDepth 100000 in
theorem lkX_36  : (W1 scr tl lt lc rd sw P D S kk nx ring bu im kept tb tr tc ts)[36]? = some (ringC) := rfl
set_option maxRecDepth 100000 in
theorem lkX_107  : (W1 scr tl lt lc rd sw P D S kk nx ring bu im kept tb tr tc ts)[107]? = some (rowC 107) := rfl
set_option maxRecDepth 100000 in
theorem lkX_108  : (W1 scr tl lt lc rd sw P D S kk nx ring bu im kept tb tr tc ts)[107 + 1]? = some (ia 6 bu) := rfl
set_option maxRecDepth 100000 in
theorem lkX_109  : (W1 scr tl lt lc rd sw P D S kk nx ring bu im kept tb tr tc ts)[109]? = some (5, [.ref 110]) := rfl
set_option maxRecDepth 100000 in
theorem lkX_110  : (W1 scr tl lt lc rd sw P D S kk nx ring bu im kept tb tr tc ts)[110]? = some (imC) := rfl
set_option maxRecDepth 100000 in
theorem lkX_125  : (W1 scr tl lt lc rd sw P D S kk nx ring bu im kept tb tr tc ts)[125]? = some (rowC 125) := rfl
set_option maxRecDepth 100000 in
theorem lkX_126  : (W1 scr tl lt lc rd sw P D S kk nx ring bu im kept tb tr tc ts)[125 + 1]? = some (ia 6 tb) := rfl
set_option maxRecDepth 100000 in
theorem lkX_127  : (W1 scr tl lt lc rd sw P D S kk nx ring bu im kept tb tr tc ts)[127]? = some (rowC 127) := rfl
set_option maxRecDepth 100000 in
theorem lkX_128  : (W1 scr tl lt lc rd sw P D S kk nx ring bu im kept tb tr tc ts)[127 + 1]? = some (ia 6 tr) := rfl
set_option maxRecDepth 100000 in
theorem upX_1 {lc2 kept2 tc2 : Int32} {ts2 : Int64} : (W1 scr tl lt lc rd sw P D S kk nx ring bu im kept tb tr tc ts).set 1 (xC lc2 sw kept2 tc2 ts2) = (W1 scr tl lt (lc2) rd sw P D S kk nx ring bu im (kept2) tb tr (tc2) (ts2)) := rfl
theorem upX_sw : (W1 scr tl lt lc rd sw P D S kk nx ring bu im kept tb tr tc ts).set 1 (xC lc (!sw) kept tc ts) = (W1 scr tl lt lc rd (!sw) (D) (P) S kk nx ring bu im kept tb tr tc ts) := by cases sw <;> rfl
set_option maxRecDepth 100000 in
theorem upX_3 {lt2 : Fn} : (W1 scr tl lt lc rd sw P D S kk nx ring bu im kept tb tr tc ts).set (2 + 1) (ia 150 lt2) = (W1 scr tl (lt2) lc rd sw P D S kk nx ring bu im kept tb tr tc ts) := rfl
set_option maxRecDepth 100000 in
theorem upX_4 {rd2 : RdV} : (W1 scr tl lt lc rd sw P D S kk nx ring bu im kept tb tr tc ts).set 4 (rdC rd2) = (W1 scr tl lt lc (rd2) sw P D S kk nx ring bu im kept tb tr tc ts) := rfl
set_option maxRecDepth 100000 in
theorem upX_d {i0 i1 i2 i3 i4 i5 : Int32} : (W1 scr tl lt lc rd sw P D S kk nx ring bu im kept tb tr tc ts).set (pd sw) (paC (pd sw) (i0, i1, i2, i3, i4, i5, D.2.2.2.2.2.2.1, D.2.2.2.2.2.2.2.1, D.2.2.2.2.2.2.2.2.1, D.2.2.2.2.2.2.2.2.2.1, D.2.2.2.2.2.2.2.2.2.2)) = (W1 scr tl lt lc rd sw P (i0, i1, i2, i3, i4, i5, D.2.2.2.2.2.2.1, D.2.2.2.2.2.2.2.1, D.2.2.2.2.2.2.2.2.1, D.2.2.2.2.2.2.2.2.2.1, D.2.2.2.2.2.2.2.2.2.2) S kk nx ring bu im kept tb tr tc ts) := by cases sw <;> rfl
set_option maxRecDepth 100000 in
theorem upX_d2 {f2 : Fn} : (W1 scr tl lt lc rd sw P D S kk nx ring bu im kept tb tr tc ts).set (pd sw + 1 + 1) (ia 6 f2) = (W1 scr tl lt lc rd sw P (D.1, D.2.1, D.2.2.1, D.2.2.2.1, D.2.2.2.2.1, D.2.2.2.2.2.1, f2, D.2.2.2.2.2.2.2.1, D.2.2.2.2.2.2.2.2.1, D.2.2.2.2.2.2.2.2.2.1, D.2.2.2.2.2.2.2.2.2.2) S kk nx ring bu im kept tb tr tc ts) := by cases sw <;> rfl
set_option maxRecDepth 100000 in
theorem upX_d4 {f2 : Fn} : (W1 scr tl lt lc rd sw P D S kk nx ring bu im kept tb tr tc ts).set (pd sw + 3 + 1) (ia 6 f2) = (W1 scr tl lt lc rd sw P (D.1, D.2.1, D.2.2.1, D.2.2.2.1, D.2.2.2.2.1, D.2.2.2.2.2.1, D.2.2.2.2.2.2.1, f2, D.2.2.2.2.2.2.2.2.1, D.2.2.2.2.2.2.2.2.2.1, D.2.2.2.2.2.2.2.2.2.2) S kk nx ring bu im kept tb tr tc ts) := by cases sw <;> rfl
set_option maxRecDepth 100000 in
theorem upX_d6 {f2 : Fn} : (W1 scr tl lt lc rd sw P D S kk nx ring bu im kept tb tr tc ts).set (pd sw + 5 + 1) (ia 6 f2) = (W1 scr tl lt lc rd sw P (D.1, D.2.1, D.2.2.1, D.2.2.2.1, D.2.2.2.2.1, D.2.2.2.2.2.1, D.2.2.2.2.2.2.1, D.2.2.2.2.2.2.2.1, f2, D.2.2.2.2.2.2.2.2.2.1, D.2.2.2.2.2.2.2.2.2.2) S kk nx ring bu im kept tb tr tc ts) := by cases sw <;> rfl
set_option maxRecDepth 100000 in
theorem upX_d8 {f2 : Fn} : (W1 scr tl lt lc rd sw P D S kk nx ring bu im kept tb tr tc ts).set (pd sw + 7 + 1) (ia 6 f2) = (W1 scr tl lt lc rd sw P (D.1, D.2.1, D.2.2.1, D.2.2.2.1, D.2.2.2.2.1, D.2.2.2.2.2.1, D.2.2.2.2.2.2.1, D.2.2.2.2.2.2.2.1, D.2.2.2.2.2.2.2.2.1, f2, D.2.2.2.2.2.2.2.2.2.2) S kk nx ring bu im kept tb tr tc ts) := by cases sw <;> rfl
set_option maxRecDepth 100000 in
theorem upX_d10 {f2 : Fn} : (W1 scr tl lt lc rd sw P D S kk nx ring bu im kept tb tr tc ts).set (pd sw + 9 + 1) (ia 6 f2) = (W1 scr tl lt lc rd sw P (D.1, D.2.1, D.2.2.1, D.2.2.2.1, D.2.2.2.2.1, D.2.2.2.2.2.1, D.2.2.2.2.2.2.1, D.2.2.2.2.2.2.2.1, D.2.2.2.2.2.2.2.2.1, D.2.2.2.2.2.2.2.2.2.1, f2) S kk nx ring bu im kept tb tr tc ts) := by cases sw <;> rfl
set_option maxRecDepth 100000 in
theorem upX_27 {i0 i1 i2 : Int32} : (W1 scr tl lt lc rd sw P D S kk nx ring bu im kept tb tr tc ts).set 27 (scC 27 (i0, i1, i2, S.2.2.2.1, S.2.2.2.2.1, S.2.2.2.2.2)) = (W1 scr tl lt lc rd sw P D (i0, i1, i2, S.2.2.2.1, S.2.2.2.2.1, S.2.2.2.2.2) kk nx ring bu im kept tb tr tc ts) := rfl
set_option maxRecDepth 100000 in
theorem upX_29 {f2 : Fn} : (W1 scr tl lt lc rd sw P D S kk nx ring bu im kept tb tr tc ts).set (27 + 1 + 1) (ia 6 f2) = (W1 scr tl lt lc rd sw P D (S.1, S.2.1, S.2.2.1, f2, S.2.2.2.2.1, S.2.2.2.2.2) kk nx ring bu im kept tb tr tc ts) := rfl
set_option maxRecDepth 100000 in
theorem upX_31 {f2 : Fn} : (W1 scr tl lt lc rd sw P D S kk nx ring bu im kept tb tr tc ts).set (27 + 3 + 1) (ia 6 f2) = (W1 scr tl lt lc rd sw P D (S.1, S.2.1, S.2.2.1, S.2.2.2.1, f2, S.2.2.2.2.2) kk nx ring bu im kept tb tr tc ts) := rfl
set_option maxRecDepth 100000 in
theorem upX_33 {f2 : Fn} : (W1 scr tl lt lc rd sw P D S kk nx ring bu im kept tb tr tc ts).set (27 + 5 + 1) (ia 6 f2) = (W1 scr tl lt lc rd sw P D (S.1, S.2.1, S.2.2.1, S.2.2.2.1, S.2.2.2.2.1, f2) kk nx ring bu im kept tb tr tc ts) := rfl
set_option maxRecDepth 100000 in
theorem upX_34 {k2 n2 : Int32} : (W1 scr tl lt lc rd sw P D S kk nx ring bu im kept tb tr tc ts).set 34 (hsC k2 n2) = (W1 scr tl lt lc rd sw P D S (k2) (n2) ring bu im kept tb tr tc ts) := rfl
set_option maxRecDepth 100000 in
theorem upX_108 {f2 : Fn} : (W1 scr tl lt lc rd sw P D S kk nx ring bu im kept tb tr tc ts).set (107 + 1) (ia 6 f2) = (W1 scr tl lt lc rd sw P D S kk nx ring (f2) im kept tb tr tc ts) := rfl
set_option maxRecDepth 100000 in
theorem upX_126 {f2 : Fn} : (W1 scr tl lt lc rd sw P D S kk nx ring bu im kept tb tr tc ts).set (125 + 1) (ia 6 f2) = (W1 scr tl lt lc rd sw P D S kk nx ring bu im kept (f2) tr tc ts) := rfl
set_option maxRecDepth 100000 in
theorem upX_128 {f2 : Fn} : (W1 scr tl lt lc rd sw P D S kk nx ring bu im kept tb tr tc ts).set (127 + 1) (ia 6 f2) = (W1 scr tl lt lc rd sw P D S kk nx ring bu im kept tb (f2) tc ts) := rfl
end
def za (n : Nat) (f : Nat → Bool) : AC := (9, zv n f)
def moC (de : Int32) (da : Int32) (be : Int32) (pi : Int32) (ru : Int32) (kn : Int32) (tm : Int32) (tr : Int64) (tn : Int32) (cu : Int32) (sa : Int32) (tk : Int32) (nu : Int32) (wr : Bool) (it : Int32) (sd : Int32) (sdd : Int32) (sb : Int32) (sp : Int32) (sr : Int32) : AC := (7, [.int de, .ref 130, .int da, .ref 131, .int be, .ref 132, .int pi, .int ru, .ref 133, .ref 134, .int kn, .ref 135, .ref 136, .int tm, .ref 137, .long tr, .ref 138, .int tn, .int cu, .int sa, .int tk, .int nu, .int (b2i wr), .int it, .int sd, .ref 139, .int sdd, .ref 140, .ref 141, .ref 142, .int sb, .ref 143, .int sp, .int sr, .ref 144, .ref 145, .ref 146])
def HM (de : Int32) (we : Fn) (da : Int32) (bo : Fn) (be : Int32) (sg : Fn) (pi : Int32) (ru : Int32) (st : Fn) (wa : Fn) (kn : Int32) (im : Fn) (ik : Nat → Bool) (tm : Int32) (to : Fn) (tr : Int64) (tx : Fn) (tn : Int32) (cu : Int32) (sa : Int32) (tk : Int32) (nu : Int32) (wr : Bool) (it : Int32) (sd : Int32) (swt : Fn) (sdd : Int32) (sbx : Fn) (sfl : Fn) (sdi : Fn) (sb : Int32) (sst : Fn) (sp : Int32) (sr : Int32) (nw : Fn) (od : Fn) (bs : Fn) : List AC := [moC de da be pi ru kn tm tr tn cu sa tk nu wr it sd sdd sb sp sr, ia 6 we, ia 6 bo, ia 6 sg, ia 21 st, ia 210 wa, ia 42 im, za 2 ik, ia 12 to, ia 150 tx, ia 6 swt, ia 6 sbx, ia 6 sfl, ia 6 sdi, ia 6 sst, ia 21 nw, ia 6 od, ia 6 bs]
def W2 (pre : List AC) (de : Int32) (we : Fn) (da : Int32) (bo : Fn) (be : Int32) (sg : Fn) (pi : Int32) (ru : Int32) (st : Fn) (wa : Fn) (kn : Int32) (im : Fn) (ik : Nat → Bool) (tm : Int32) (to : Fn) (tr : Int64) (tx : Fn) (tn : Int32) (cu : Int32) (sa : Int32) (tk : Int32) (nu : Int32) (wr : Bool) (it : Int32) (sd : Int32) (swt : Fn) (sdd : Int32) (sbx : Fn) (sfl : Fn) (sdi : Fn) (sb : Int32) (sst : Fn) (sp : Int32) (sr : Int32) (nw : Fn) (od : Fn) (bs : Fn) : List AC := pre ++ HM de we da bo be sg pi ru st wa kn im ik tm to tr tx tn cu sa tk nu wr it sd swt sdd sbx sfl sdi sb sst sp sr nw od bs
section
variable {pre : List AC} {de : Int32} {we : Fn} {da : Int32} {bo : Fn} {be : Int32} {sg : Fn} {pi : Int32} {ru : Int32} {st : Fn} {wa : Fn} {kn : Int32} {im : Fn} {ik : Nat → Bool} {tm : Int32} {to : Fn} {tr : Int64} {tx : Fn} {tn : Int32} {cu : Int32} {sa : Int32} {tk : Int32} {nu : Int32} {wr : Bool} {it : Int32} {sd : Int32} {swt : Fn} {sdd : Int32} {sbx : Fn} {sfl : Fn} {sdi : Fn} {sb : Int32} {sst : Fn} {sp : Int32} {sr : Int32} {nw : Fn} {od : Fn} {bs : Fn}
theorem ap_at {pre l : List AC} (hp : pre.length = 129) (k : Nat) : (pre ++ l)[129 + k]? = l[k]? := by rw [List.getElem?_append_right (by omega), hp, Nat.add_sub_cancel_left]
theorem ap_set {pre l : List AC} (hp : pre.length = 129) (k : Nat) (c : AC) : (pre ++ l).set (129 + k) c = pre ++ l.set k c := by rw [List.set_append_right _ _ (by omega), hp, Nat.add_sub_cancel_left]
theorem lkM_129 (hp : pre.length = 129) : (W2 pre de we da bo be sg pi ru st wa kn im ik tm to tr tx tn cu sa tk nu wr it sd swt sdd sbx sfl sdi sb sst sp sr nw od bs)[129]? = some (moC de da be pi ru kn tm tr tn cu sa tk nu wr it sd sdd sb sp sr) := ap_at hp 0
theorem lkM_130 (hp : pre.length = 129) : (W2 pre de we da bo be sg pi ru st wa kn im ik tm to tr tx tn cu sa tk nu wr it sd swt sdd sbx sfl sdi sb sst sp sr nw od bs)[130]? = some (ia 6 we) := ap_at hp 1
theorem lkM_131 (hp : pre.length = 129) : (W2 pre de we da bo be sg pi ru st wa kn im ik tm to tr tx tn cu sa tk nu wr it sd swt sdd sbx sfl sdi sb sst sp sr nw od bs)[131]? = some (ia 6 bo) := ap_at hp 2
theorem lkM_132 (hp : pre.length = 129) : (W2 pre de we da bo be sg pi ru st wa kn im ik tm to tr tx tn cu sa tk nu wr it sd swt sdd sbx sfl sdi sb sst sp sr nw od bs)[132]? = some (ia 6 sg) := ap_at hp 3
theorem lkM_133 (hp : pre.length = 129) : (W2 pre de we da bo be sg pi ru st wa kn im ik tm to tr tx tn cu sa tk nu wr it sd swt sdd sbx sfl sdi sb sst sp sr nw od bs)[133]? = some (ia 21 st) := ap_at hp 4
theorem lkM_134 (hp : pre.length = 129) : (W2 pre de we da bo be sg pi ru st wa kn im ik tm to tr tx tn cu sa tk nu wr it sd swt sdd sbx sfl sdi sb sst sp sr nw od bs)[134]? = some (ia 210 wa) := ap_at hp 5
theorem lkM_135 (hp : pre.length = 129) : (W2 pre de we da bo be sg pi ru st wa kn im ik tm to tr tx tn cu sa tk nu wr it sd swt sdd sbx sfl sdi sb sst sp sr nw od bs)[135]? = some (ia 42 im) := ap_at hp 6
theorem lkM_136 (hp : pre.length = 129) : (W2 pre de we da bo be sg pi ru st wa kn im ik tm to tr tx tn cu sa tk nu wr it sd swt sdd sbx sfl sdi sb sst sp sr nw od bs)[136]? = some (za 2 ik) := ap_at hp 7
theorem lkM_137 (hp : pre.length = 129) : (W2 pre de we da bo be sg pi ru st wa kn im ik tm to tr tx tn cu sa tk nu wr it sd swt sdd sbx sfl sdi sb sst sp sr nw od bs)[137]? = some (ia 12 to) := ap_at hp 8
theorem lkM_138 (hp : pre.length = 129) : (W2 pre de we da bo be sg pi ru st wa kn im ik tm to tr tx tn cu sa tk nu wr it sd swt sdd sbx sfl sdi sb sst sp sr nw od bs)[138]? = some (ia 150 tx) := ap_at hp 9
theorem lkM_139 (hp : pre.length = 129) : (W2 pre de we da bo be sg pi ru st wa kn im ik tm to tr tx tn cu sa tk nu wr it sd swt sdd sbx sfl sdi sb sst sp sr nw od bs)[139]? = some (ia 6 swt) := ap_at hp 10
theorem lkM_140 (hp : pre.length = 129) : (W2 pre de we da bo be sg pi ru st wa kn im ik tm to tr tx tn cu sa tk nu wr it sd swt sdd sbx sfl sdi sb sst sp sr nw od bs)[140]? = some (ia 6 sbx) := ap_at hp 11
theorem lkM_141 (hp : pre.length = 129) : (W2 pre de we da bo be sg pi ru st wa kn im ik tm to tr tx tn cu sa tk nu wr it sd swt sdd sbx sfl sdi sb sst sp sr nw od bs)[141]? = some (ia 6 sfl) := ap_at hp 12
theorem lkM_142 (hp : pre.length = 129) : (W2 pre de we da bo be sg pi ru st wa kn im ik tm to tr tx tn cu sa tk nu wr it sd swt sdd sbx sfl sdi sb sst sp sr nw od bs)[142]? = some (ia 6 sdi) := ap_at hp 13
theorem lkM_143 (hp : pre.length = 129) : (W2 pre de we da bo be sg pi ru st wa kn im ik tm to tr tx tn cu sa tk nu wr it sd swt sdd sbx sfl sdi sb sst sp sr nw od bs)[143]? = some (ia 6 sst) := ap_at hp 14
theorem lkM_144 (hp : pre.length = 129) : (W2 pre de we da bo be sg pi ru st wa kn im ik tm to tr tx tn cu sa tk nu wr it sd swt sdd sbx sfl sdi sb sst sp sr nw od bs)[144]? = some (ia 21 nw) := ap_at hp 15
theorem lkM_145 (hp : pre.length = 129) : (W2 pre de we da bo be sg pi ru st wa kn im ik tm to tr tx tn cu sa tk nu wr it sd swt sdd sbx sfl sdi sb sst sp sr nw od bs)[145]? = some (ia 6 od) := ap_at hp 16
theorem lkM_146 (hp : pre.length = 129) : (W2 pre de we da bo be sg pi ru st wa kn im ik tm to tr tx tn cu sa tk nu wr it sd swt sdd sbx sfl sdi sb sst sp sr nw od bs)[146]? = some (ia 6 bs) := ap_at hp 17
theorem upM_129 {de2 : Int32} {da2 : Int32} {be2 : Int32} {pi2 : Int32} {ru2 : Int32} {kn2 : Int32} {tm2 : Int32} {tr2 : Int64} {tn2 : Int32} {cu2 : Int32} {sa2 : Int32} {tk2 : Int32} {nu2 : Int32} {wr2 : Bool} {it2 : Int32} {sd2 : Int32} {sdd2 : Int32} {sb2 : Int32} {sp2 : Int32} {sr2 : Int32} (hp : pre.length = 129) : (W2 pre de we da bo be sg pi ru st wa kn im ik tm to tr tx tn cu sa tk nu wr it sd swt sdd sbx sfl sdi sb sst sp sr nw od bs).set 129 (moC de2 da2 be2 pi2 ru2 kn2 tm2 tr2 tn2 cu2 sa2 tk2 nu2 wr2 it2 sd2 sdd2 sb2 sp2 sr2) = (W2 pre (de2) we (da2) bo (be2) sg (pi2) (ru2) st wa (kn2) im ik (tm2) to (tr2) tx (tn2) (cu2) (sa2) (tk2) (nu2) (wr2) (it2) (sd2) swt (sdd2) sbx sfl sdi (sb2) sst (sp2) (sr2) nw od bs) := ap_set hp 0 _
theorem upM_130 {f2 : Fn} (hp : pre.length = 129) : (W2 pre de we da bo be sg pi ru st wa kn im ik tm to tr tx tn cu sa tk nu wr it sd swt sdd sbx sfl sdi sb sst sp sr nw od bs).set 130 (ia 6 f2) = (W2 pre de (f2) da bo be sg pi ru st wa kn im ik tm to tr tx tn cu sa tk nu wr it sd swt sdd sbx sfl sdi sb sst sp sr nw od bs) := ap_set hp 1 _
theorem upM_131 {f2 : Fn} (hp : pre.length = 129) : (W2 pre de we da bo be sg pi ru st wa kn im ik tm to tr tx tn cu sa tk nu wr it sd swt sdd sbx sfl sdi sb sst sp sr nw od bs).set 131 (ia 6 f2) = (W2 pre de we da (f2) be sg pi ru st wa kn im ik tm to tr tx tn cu sa tk nu wr it sd swt sdd sbx sfl sdi sb sst sp sr nw od bs) := ap_set hp 2 _
theorem upM_132 {f2 : Fn} (hp : pre.length = 129) : (W2 pre de we da bo be sg pi ru st wa kn im ik tm to tr tx tn cu sa tk nu wr it sd swt sdd sbx sfl sdi sb sst sp sr nw od bs).set 132 (ia 6 f2) = (W2 pre de we da bo be (f2) pi ru st wa kn im ik tm to tr tx tn cu sa tk nu wr it sd swt sdd sbx sfl sdi sb sst sp sr nw od bs) := ap_set hp 3 _
theorem upM_133 {f2 : Fn} (hp : pre.length = 129) : (W2 pre de we da bo be sg pi ru st wa kn im ik tm to tr tx tn cu sa tk nu wr it sd swt sdd sbx sfl sdi sb sst sp sr nw od bs).set 133 (ia 21 f2) = (W2 pre de we da bo be sg pi ru (f2) wa kn im ik tm to tr tx tn cu sa tk nu wr it sd swt sdd sbx sfl sdi sb sst sp sr nw od bs) := ap_set hp 4 _
theorem upM_134 {f2 : Fn} (hp : pre.length = 129) : (W2 pre de we da bo be sg pi ru st wa kn im ik tm to tr tx tn cu sa tk nu wr it sd swt sdd sbx sfl sdi sb sst sp sr nw od bs).set 134 (ia 210 f2) = (W2 pre de we da bo be sg pi ru st (f2) kn im ik tm to tr tx tn cu sa tk nu wr it sd swt sdd sbx sfl sdi sb sst sp sr nw od bs) := ap_set hp 5 _
theorem upM_135 {f2 : Fn} (hp : pre.length = 129) : (W2 pre de we da bo be sg pi ru st wa kn im ik tm to tr tx tn cu sa tk nu wr it sd swt sdd sbx sfl sdi sb sst sp sr nw od bs).set 135 (ia 42 f2) = (W2 pre de we da bo be sg pi ru st wa kn (f2) ik tm to tr tx tn cu sa tk nu wr it sd swt sdd sbx sfl sdi sb sst sp sr nw od bs) := ap_set hp 6 _
theorem upM_136 {f2 : Nat → Bool} (hp : pre.length = 129) : (W2 pre de we da bo be sg pi ru st wa kn im ik tm to tr tx tn cu sa tk nu wr it sd swt sdd sbx sfl sdi sb sst sp sr nw od bs).set 136 (za 2 f2) = (W2 pre de we da bo be sg pi ru st wa kn im (f2) tm to tr tx tn cu sa tk nu wr it sd swt sdd sbx sfl sdi sb sst sp sr nw od bs) := ap_set hp 7 _
theorem upM_137 {f2 : Fn} (hp : pre.length = 129) : (W2 pre de we da bo be sg pi ru st wa kn im ik tm to tr tx tn cu sa tk nu wr it sd swt sdd sbx sfl sdi sb sst sp sr nw od bs).set 137 (ia 12 f2) = (W2 pre de we da bo be sg pi ru st wa kn im ik tm (f2) tr tx tn cu sa tk nu wr it sd swt sdd sbx sfl sdi sb sst sp sr nw od bs) := ap_set hp 8 _
theorem upM_138 {f2 : Fn} (hp : pre.length = 129) : (W2 pre de we da bo be sg pi ru st wa kn im ik tm to tr tx tn cu sa tk nu wr it sd swt sdd sbx sfl sdi sb sst sp sr nw od bs).set 138 (ia 150 f2) = (W2 pre de we da bo be sg pi ru st wa kn im ik tm to tr (f2) tn cu sa tk nu wr it sd swt sdd sbx sfl sdi sb sst sp sr nw od bs) := ap_set hp 9 _
theorem upM_139 {f2 : Fn} (hp : pre.length = 129) : (W2 pre de we da bo be sg pi ru st wa kn im ik tm to tr tx tn cu sa tk nu wr it sd swt sdd sbx sfl sdi sb sst sp sr nw od bs).set 139 (ia 6 f2) = (W2 pre de we da bo be sg pi ru st wa kn im ik tm to tr tx tn cu sa tk nu wr it sd (f2) sdd sbx sfl sdi sb sst sp sr nw od bs) := ap_set hp 10 _
theorem upM_140 {f2 : Fn} (hp : pre.length = 129) : (W2 pre de we da bo be sg pi ru st wa kn im ik tm to tr tx tn cu sa tk nu wr it sd swt sdd sbx sfl sdi sb sst sp sr nw od bs).set 140 (ia 6 f2) = (W2 pre de we da bo be sg pi ru st wa kn im ik tm to tr tx tn cu sa tk nu wr it sd swt sdd (f2) sfl sdi sb sst sp sr nw od bs) := ap_set hp 11 _
theorem upM_141 {f2 : Fn} (hp : pre.length = 129) : (W2 pre de we da bo be sg pi ru st wa kn im ik tm to tr tx tn cu sa tk nu wr it sd swt sdd sbx sfl sdi sb sst sp sr nw od bs).set 141 (ia 6 f2) = (W2 pre de we da bo be sg pi ru st wa kn im ik tm to tr tx tn cu sa tk nu wr it sd swt sdd sbx (f2) sdi sb sst sp sr nw od bs) := ap_set hp 12 _
theorem upM_142 {f2 : Fn} (hp : pre.length = 129) : (W2 pre de we da bo be sg pi ru st wa kn im ik tm to tr tx tn cu sa tk nu wr it sd swt sdd sbx sfl sdi sb sst sp sr nw od bs).set 142 (ia 6 f2) = (W2 pre de we da bo be sg pi ru st wa kn im ik tm to tr tx tn cu sa tk nu wr it sd swt sdd sbx sfl (f2) sb sst sp sr nw od bs) := ap_set hp 13 _
theorem upM_143 {f2 : Fn} (hp : pre.length = 129) : (W2 pre de we da bo be sg pi ru st wa kn im ik tm to tr tx tn cu sa tk nu wr it sd swt sdd sbx sfl sdi sb sst sp sr nw od bs).set 143 (ia 6 f2) = (W2 pre de we da bo be sg pi ru st wa kn im ik tm to tr tx tn cu sa tk nu wr it sd swt sdd sbx sfl sdi sb (f2) sp sr nw od bs) := ap_set hp 14 _
theorem upM_144 {f2 : Fn} (hp : pre.length = 129) : (W2 pre de we da bo be sg pi ru st wa kn im ik tm to tr tx tn cu sa tk nu wr it sd swt sdd sbx sfl sdi sb sst sp sr nw od bs).set 144 (ia 21 f2) = (W2 pre de we da bo be sg pi ru st wa kn im ik tm to tr tx tn cu sa tk nu wr it sd swt sdd sbx sfl sdi sb sst sp sr (f2) od bs) := ap_set hp 15 _
theorem upM_145 {f2 : Fn} (hp : pre.length = 129) : (W2 pre de we da bo be sg pi ru st wa kn im ik tm to tr tx tn cu sa tk nu wr it sd swt sdd sbx sfl sdi sb sst sp sr nw od bs).set 145 (ia 6 f2) = (W2 pre de we da bo be sg pi ru st wa kn im ik tm to tr tx tn cu sa tk nu wr it sd swt sdd sbx sfl sdi sb sst sp sr nw (f2) bs) := ap_set hp 16 _
theorem upM_146 {f2 : Fn} (hp : pre.length = 129) : (W2 pre de we da bo be sg pi ru st wa kn im ik tm to tr tx tn cu sa tk nu wr it sd swt sdd sbx sfl sdi sb sst sp sr nw od bs).set 146 (ia 6 f2) = (W2 pre de we da bo be sg pi ru st wa kn im ik tm to tr tx tn cu sa tk nu wr it sd swt sdd sbx sfl sdi sb sst sp sr nw od (f2)) := ap_set hp 17 _
end
end
section
/-! scenes, shelves, parishes on any heap -/
section
variable {g : GG} {h : List AC} {Q : Option Value → List AC → Prop}
def atSc (h : List AC) (a : Nat) (v : ScV) : Prop := h[a]? = some (scC a v) ∧ h[a + 1]? = some (rowC (a + 1)) ∧ h[a + 1 + 1]? = some (ia 6 v.2.2.2.1) ∧ h[a + 3]? = some (rowC (a + 3)) ∧ h[a + 3 + 1]? = some (ia 6 v.2.2.2.2.1) ∧ h[a + 5]? = some (rowC (a + 5)) ∧ h[a + 5 + 1]? = some (ia 6 v.2.2.2.2.2)
def setSc (h : List AC) (a : Nat) (v : ScV) : List AC := (((h.set a (scC a v)).set (a + 1 + 1) (ia 6 v.2.2.2.1)).set (a + 3 + 1) (ia 6 v.2.2.2.2.1)).set (a + 5 + 1) (ia 6 v.2.2.2.2.2)
def isCh (v : ScV) (i : Int32) : Bool := decide (¬ rAt 6 v.2.2.2.2.2 i = -9)
set_option maxRecDepth 20000 in
set_option maxHeartbeats 1000000 in
theorem c_isChalked {a : Nat} {v : ScV} {i : Int32} (hs : atSc h a v) : CD g 1 mX4_isChalked [.ref a, .int i] h (some (.int (b2i (isCh v i)))) h := by
  obtain ⟨s0, s1, s2, s3, s4, s5, s6⟩ := hs
  refine C.of (by decide +kernel) (by simp [Value.category]) (Nat.le_of_ble_eq_true rfl) ?_
  change J g mX4_isChalked 1 0 0 _ h 0 [some (.ref a), some (.int i)] []
  refine j_aload_n (pc := 0) dX4_isChalked_0 rfl ?_
  refine j_getf (pc := 1) dX4_isChalked_1 fl_X4_23 (by assumption) rfl ?_
  refine j_iload_n (pc := 4) dX4_isChalked_4 rfl ?_
  refine j_v1 (pc := 5) (ci := 3) dX4_isChalked_5 mc_X3_at ml_X4_48 im_X3_at se_X3_at rfl rfl (by assumption) (by omega) (c_at (n := 6) (by decide) (by assumption) (by assumption)) (Nat.le_of_ble_eq_true rfl) ?_
  refine j_bipush (pc := 8) dX4_isChalked_8 kb_m9 ?_
  refine j_icmp_eq (pc := 10) (tgt := 17) dX4_isChalked_10 rfl (fun zc10 => ?_) (fun zc10 => ?_)
  · refine j_iconst (pc := 17) dX4_isChalked_17 kc_0 ?_
    refine j_zret (pc := 18) (b := isCh v i) dX4_isChalked_18 rfl (by simp [isCh, b2i, *]) ?_
    exact ⟨rfl, rfl⟩
  · refine j_iconst (pc := 13) dX4_isChalked_13 kc_1 ?_
    refine j_goto (pc := 14) (tgt := 18) dX4_isChalked_14 rfl ?_
    refine j_zret (pc := 18) (b := isCh v i) dX4_isChalked_18 rfl (by simp [isCh, b2i, *]) ?_
    exact ⟨rfl, rfl⟩

set_option maxRecDepth 20000 in
set_option maxHeartbeats 1000000 in
theorem c_scCopy {a b : Nat} {v w : ScV} (hs : atSc h a v) (hw : atSc h b w) (hab : a + 7 ≤ b ∨ b + 7 ≤ a) : CD g 2 mX4_copyFrom [.ref a, .ref b] h none (setSc h a w) := by
  obtain ⟨s0, s1, s2, s3, s4, s5, s6⟩ := hs
  obtain ⟨w0, w1, w2, w3, w4, w5, w6⟩ := hw
  refine C.of (by decide +kernel) (by simp [Value.category]) (Nat.le_of_ble_eq_true rfl) ?_
  change J g mX4_copyFrom 2 0 0 _ h 0 [some (.ref a), some (.ref b)] []
  refine j_aload_n (pc := 0) dX4_copyFrom_0 rfl ?_
  refine j_aload_n (pc := 1) dX4_copyFrom_1 rfl ?_
  refine j_getf (pc := 2) dX4_copyFrom_2 fl_X4_26 (by first | assumption | exact get_eq (by assumption) | exact get_ne2 (by assumption) (by omega) | exact get_ne2 (get_eq (by assumption)) (by omega) | exact get_ne2 (get_ne2 (by assumption) (by omega)) (by omega) | exact get_ne2 (get_ne2 (get_eq (by assumption)) (by omega)) (by omega) | exact get_ne2 (get_ne2 (get_ne2 (by assumption) (by omega)) (by omega)) (by omega) | exact get_ne2 (get_ne2 (get_ne2 (get_eq (by assumption)) (by omega)) (by omega)) (by omega)) rfl ?_
  refine j_putf (pc := 5) dX4_copyFrom_5 fl_X4_26 (jfit_i _) (by first | assumption | exact get_eq (by assumption) | exact get_ne2 (by assumption) (by omega) | exact get_ne2 (get_eq (by assumption)) (by omega) | exact get_ne2 (get_ne2 (by assumption) (by omega)) (by omega) | exact get_ne2 (get_ne2 (get_eq (by assumption)) (by omega)) (by omega) | exact get_ne2 (get_ne2 (get_ne2 (by assumption) (by omega)) (by omega)) (by omega) | exact get_ne2 (get_ne2 (get_ne2 (get_eq (by assumption)) (by omega)) (by omega)) (by omega)) rfl ?_
  refine j_aload_n (pc := 8) dX4_copyFrom_8 rfl ?_
  refine j_aload_n (pc := 9) dX4_copyFrom_9 rfl ?_
  refine j_getf (pc := 10) dX4_copyFrom_10 fl_X4_30 (by first | assumption | exact get_eq (by assumption) | exact get_ne2 (by assumption) (by omega) | exact get_ne2 (get_eq (by assumption)) (by omega) | exact get_ne2 (get_ne2 (by assumption) (by omega)) (by omega) | exact get_ne2 (get_ne2 (get_eq (by assumption)) (by omega)) (by omega) | exact get_ne2 (get_ne2 (get_ne2 (by assumption) (by omega)) (by omega)) (by omega) | exact get_ne2 (get_ne2 (get_ne2 (get_eq (by assumption)) (by omega)) (by omega)) (by omega)) rfl ?_
  refine j_putf (pc := 13) dX4_copyFrom_13 fl_X4_30 (jfit_i _) (by first | assumption | exact get_eq (by assumption) | exact get_ne2 (by assumption) (by omega) | exact get_ne2 (get_eq (by assumption)) (by omega) | exact get_ne2 (get_ne2 (by assumption) (by omega)) (by omega) | exact get_ne2 (get_ne2 (get_eq (by assumption)) (by omega)) (by omega) | exact get_ne2 (get_ne2 (get_ne2 (by assumption) (by omega)) (by omega)) (by omega) | exact get_ne2 (get_ne2 (get_ne2 (get_eq (by assumption)) (by omega)) (by omega)) (by omega)) (List.set_set _) ?_
  refine j_aload_n (pc := 16) dX4_copyFrom_16 rfl ?_
  refine j_aload_n (pc := 17) dX4_copyFrom_17 rfl ?_
  refine j_getf (pc := 18) dX4_copyFrom_18 fl_X4_38 (by first | assumption | exact get_eq (by assumption) | exact get_ne2 (by assumption) (by omega) | exact get_ne2 (get_eq (by assumption)) (by omega) | exact get_ne2 (get_ne2 (by assumption) (by omega)) (by omega) | exact get_ne2 (get_ne2 (get_eq (by assumption)) (by omega)) (by omega) | exact get_ne2 (get_ne2 (get_ne2 (by assumption) (by omega)) (by omega)) (by omega) | exact get_ne2 (get_ne2 (get_ne2 (get_eq (by assumption)) (by omega)) (by omega)) (by omega)) rfl ?_
  refine j_putf (pc := 21) dX4_copyFrom_21 fl_X4_38 (jfit_i _) (by first | assumption | exact get_eq (by assumption) | exact get_ne2 (by assumption) (by omega) | exact get_ne2 (get_eq (by assumption)) (by omega) | exact get_ne2 (get_ne2 (by assumption) (by omega)) (by omega) | exact get_ne2 (get_ne2 (get_eq (by assumption)) (by omega)) (by omega) | exact get_ne2 (get_ne2 (get_ne2 (by assumption) (by omega)) (by omega)) (by omega) | exact get_ne2 (get_ne2 (get_ne2 (get_eq (by assumption)) (by omega)) (by omega)) (by omega)) (List.set_set _) ?_
  refine j_aload_n (pc := 24) dX4_copyFrom_24 rfl ?_
  refine j_getf (pc := 25) dX4_copyFrom_25 fl_X4_14 (by first | assumption | exact get_eq (by assumption) | exact get_ne2 (by assumption) (by omega) | exact get_ne2 (get_eq (by assumption)) (by omega) | exact get_ne2 (get_ne2 (by assumption) (by omega)) (by omega) | exact get_ne2 (get_ne2 (get_eq (by assumption)) (by omega)) (by omega) | exact get_ne2 (get_ne2 (get_ne2 (by assumption) (by omega)) (by omega)) (by omega) | exact get_ne2 (get_ne2 (get_ne2 (get_eq (by assumption)) (by omega)) (by omega)) (by omega)) rfl ?_
  refine j_aload_n (pc := 28) dX4_copyFrom_28 rfl ?_
  refine j_getf (pc := 29) dX4_copyFrom_29 fl_X4_14 (by first | assumption | exact get_eq (by assumption) | exact get_ne2 (by assumption) (by omega) | exact get_ne2 (get_eq (by assumption)) (by omega) | exact get_ne2 (get_ne2 (by assumption) (by omega)) (by omega) | exact get_ne2 (get_ne2 (get_eq (by assumption)) (by omega)) (by omega) | exact get_ne2 (get_ne2 (get_ne2 (by assumption) (by omega)) (by omega)) (by omega) | exact get_ne2 (get_ne2 (get_ne2 (get_eq (by assumption)) (by omega)) (by omega)) (by omega)) rfl ?_
  refine j_v1n (pc := 32) (ci := 3) dX4_copyFrom_32 mc_X3_copyFrom ml_X4_40 im_X3_copyFrom se_X3_copyFrom rfl rfl (by first | assumption | exact get_eq (by assumption) | exact get_ne2 (by assumption) (by omega) | exact get_ne2 (get_eq (by assumption)) (by omega) | exact get_ne2 (get_ne2 (by assumption) (by omega)) (by omega) | exact get_ne2 (get_ne2 (get_eq (by assumption)) (by omega)) (by omega) | exact get_ne2 (get_ne2 (get_ne2 (by assumption) (by omega)) (by omega)) (by omega) | exact get_ne2 (get_ne2 (get_ne2 (get_eq (by assumption)) (by omega)) (by omega)) (by omega)) (by omega) (c_copyR (n := 6) (by decide) (by first | assumption | exact get_eq (by assumption) | exact get_ne2 (by assumption) (by omega) | exact get_ne2 (get_eq (by assumption)) (by omega) | exact get_ne2 (get_ne2 (by assumption) (by omega)) (by omega) | exact get_ne2 (get_ne2 (get_eq (by assumption)) (by omega)) (by omega) | exact get_ne2 (get_ne2 (get_ne2 (by assumption) (by omega)) (by omega)) (by omega) | exact get_ne2 (get_ne2 (get_ne2 (get_eq (by assumption)) (by omega)) (by omega)) (by omega)) (by first | assumption | exact get_eq (by assumption) | exact get_ne2 (by assumption) (by omega) | exact get_ne2 (get_eq (by assumption)) (by omega) | exact get_ne2 (get_ne2 (by assumption) (by omega)) (by omega) | exact get_ne2 (get_ne2 (get_eq (by assumption)) (by omega)) (by omega) | exact get_ne2 (get_ne2 (get_ne2 (by assumption) (by omega)) (by omega)) (by omega) | exact get_ne2 (get_ne2 (get_ne2 (get_eq (by assumption)) (by omega)) (by omega)) (by omega)) (by first | assumption | exact get_eq (by assumption) | exact get_ne2 (by assumption) (by omega) | exact get_ne2 (get_eq (by assumption)) (by omega) | exact get_ne2 (get_ne2 (by assumption) (by omega)) (by omega) | exact get_ne2 (get_ne2 (get_eq (by assumption)) (by omega)) (by omega) | exact get_ne2 (get_ne2 (get_ne2 (by assumption) (by omega)) (by omega)) (by omega) | exact get_ne2 (get_ne2 (get_ne2 (get_eq (by assumption)) (by omega)) (by omega)) (by omega)) (by first | assumption | exact get_eq (by assumption) | exact get_ne2 (by assumption) (by omega) | exact get_ne2 (get_eq (by assumption)) (by omega) | exact get_ne2 (get_ne2 (by assumption) (by omega)) (by omega) | exact get_ne2 (get_ne2 (get_eq (by assumption)) (by omega)) (by omega) | exact get_ne2 (get_ne2 (get_ne2 (by assumption) (by omega)) (by omega)) (by omega) | exact get_ne2 (get_ne2 (get_ne2 (get_eq (by assumption)) (by omega)) (by omega)) (by omega)) (by omega)) (Nat.le_of_ble_eq_true rfl) ?_
  refine j_aload_n (pc := 35) dX4_copyFrom_35 rfl ?_
  refine j_getf (pc := 36) dX4_copyFrom_36 fl_X4_20 (by first | assumption | exact get_eq (by assumption) | exact get_ne2 (by assumption) (by omega) | exact get_ne2 (get_eq (by assumption)) (by omega) | exact get_ne2 (get_ne2 (by assumption) (by omega)) (by omega) | exact get_ne2 (get_ne2 (get_eq (by assumption)) (by omega)) (by omega) | exact get_ne2 (get_ne2 (get_ne2 (by assumption) (by omega)) (by omega)) (by omega) | exact get_ne2 (get_ne2 (get_ne2 (get_eq (by assumption)) (by omega)) (by omega)) (by omega)) rfl ?_
  refine j_aload_n (pc := 39) dX4_copyFrom_39 rfl ?_
  refine j_getf (pc := 40) dX4_copyFrom_40 fl_X4_20 (by first | assumption | exact get_eq (by assumption) | exact get_ne2 (by assumption) (by omega) | exact get_ne2 (get_eq (by assumption)) (by omega) | exact get_ne2 (get_ne2 (by assumption) (by omega)) (by omega) | exact get_ne2 (get_ne2 (get_eq (by assumption)) (by omega)) (by omega) | exact get_ne2 (get_ne2 (get_ne2 (by assumption) (by omega)) (by omega)) (by omega) | exact get_ne2 (get_ne2 (get_ne2 (get_eq (by assumption)) (by omega)) (by omega)) (by omega)) rfl ?_
  refine j_v1n (pc := 43) (ci := 3) dX4_copyFrom_43 mc_X3_copyFrom ml_X4_40 im_X3_copyFrom se_X3_copyFrom rfl rfl (by first | assumption | exact get_eq (by assumption) | exact get_ne2 (by assumption) (by omega) | exact get_ne2 (get_eq (by assumption)) (by omega) | exact get_ne2 (get_ne2 (by assumption) (by omega)) (by omega) | exact get_ne2 (get_ne2 (get_eq (by assumption)) (by omega)) (by omega) | exact get_ne2 (get_ne2 (get_ne2 (by assumption) (by omega)) (by omega)) (by omega) | exact get_ne2 (get_ne2 (get_ne2 (get_eq (by assumption)) (by omega)) (by omega)) (by omega)) (by omega) (c_copyR (n := 6) (by decide) (by first | assumption | exact get_eq (by assumption) | exact get_ne2 (by assumption) (by omega) | exact get_ne2 (get_eq (by assumption)) (by omega) | exact get_ne2 (get_ne2 (by assumption) (by omega)) (by omega) | exact get_ne2 (get_ne2 (get_eq (by assumption)) (by omega)) (by omega) | exact get_ne2 (get_ne2 (get_ne2 (by assumption) (by omega)) (by omega)) (by omega) | exact get_ne2 (get_ne2 (get_ne2 (get_eq (by assumption)) (by omega)) (by omega)) (by omega)) (by first | assumption | exact get_eq (by assumption) | exact get_ne2 (by assumption) (by omega) | exact get_ne2 (get_eq (by assumption)) (by omega) | exact get_ne2 (get_ne2 (by assumption) (by omega)) (by omega) | exact get_ne2 (get_ne2 (get_eq (by assumption)) (by omega)) (by omega) | exact get_ne2 (get_ne2 (get_ne2 (by assumption) (by omega)) (by omega)) (by omega) | exact get_ne2 (get_ne2 (get_ne2 (get_eq (by assumption)) (by omega)) (by omega)) (by omega)) (by first | assumption | exact get_eq (by assumption) | exact get_ne2 (by assumption) (by omega) | exact get_ne2 (get_eq (by assumption)) (by omega) | exact get_ne2 (get_ne2 (by assumption) (by omega)) (by omega) | exact get_ne2 (get_ne2 (get_eq (by assumption)) (by omega)) (by omega) | exact get_ne2 (get_ne2 (get_ne2 (by assumption) (by omega)) (by omega)) (by omega) | exact get_ne2 (get_ne2 (get_ne2 (get_eq (by assumption)) (by omega)) (by omega)) (by omega)) (by first | assumption | exact get_eq (by assumption) | exact get_ne2 (by assumption) (by omega) | exact get_ne2 (get_eq (by assumption)) (by omega) | exact get_ne2 (get_ne2 (by assumption) (by omega)) (by omega) | exact get_ne2 (get_ne2 (get_eq (by assumption)) (by omega)) (by omega) | exact get_ne2 (get_ne2 (get_ne2 (by assumption) (by omega)) (by omega)) (by omega) | exact get_ne2 (get_ne2 (get_ne2 (get_eq (by assumption)) (by omega)) (by omega)) (by omega)) (by omega)) (Nat.le_of_ble_eq_true rfl) ?_
  refine j_aload_n (pc := 46) dX4_copyFrom_46 rfl ?_
  refine j_getf (pc := 47) dX4_copyFrom_47 fl_X4_23 (by first | assumption | exact get_eq (by assumption) | exact get_ne2 (by assumption) (by omega) | exact get_ne2 (get_eq (by assumption)) (by omega) | exact get_ne2 (get_ne2 (by assumption) (by omega)) (by omega) | exact get_ne2 (get_ne2 (get_eq (by assumption)) (by omega)) (by omega) | exact get_ne2 (get_ne2 (get_ne2 (by assumption) (by omega)) (by omega)) (by omega) | exact get_ne2 (get_ne2 (get_ne2 (get_eq (by assumption)) (by omega)) (by omega)) (by omega)) rfl ?_
  refine j_aload_n (pc := 50) dX4_copyFrom_50 rfl ?_
  refine j_getf (pc := 51) dX4_copyFrom_51 fl_X4_23 (by first | assumption | exact get_eq (by assumption) | exact get_ne2 (by assumption) (by omega) | exact get_ne2 (get_eq (by assumption)) (by omega) | exact get_ne2 (get_ne2 (by assumption) (by omega)) (by omega) | exact get_ne2 (get_ne2 (get_eq (by assumption)) (by omega)) (by omega) | exact get_ne2 (get_ne2 (get_ne2 (by assumption) (by omega)) (by omega)) (by omega) | exact get_ne2 (get_ne2 (get_ne2 (get_eq (by assumption)) (by omega)) (by omega)) (by omega)) rfl ?_
  refine j_v1n (pc := 54) (ci := 3) dX4_copyFrom_54 mc_X3_copyFrom ml_X4_40 im_X3_copyFrom se_X3_copyFrom rfl rfl (by first | assumption | exact get_eq (by assumption) | exact get_ne2 (by assumption) (by omega) | exact get_ne2 (get_eq (by assumption)) (by omega) | exact get_ne2 (get_ne2 (by assumption) (by omega)) (by omega) | exact get_ne2 (get_ne2 (get_eq (by assumption)) (by omega)) (by omega) | exact get_ne2 (get_ne2 (get_ne2 (by assumption) (by omega)) (by omega)) (by omega) | exact get_ne2 (get_ne2 (get_ne2 (get_eq (by assumption)) (by omega)) (by omega)) (by omega)) (by omega) (c_copyR (n := 6) (by decide) (by first | assumption | exact get_eq (by assumption) | exact get_ne2 (by assumption) (by omega) | exact get_ne2 (get_eq (by assumption)) (by omega) | exact get_ne2 (get_ne2 (by assumption) (by omega)) (by omega) | exact get_ne2 (get_ne2 (get_eq (by assumption)) (by omega)) (by omega) | exact get_ne2 (get_ne2 (get_ne2 (by assumption) (by omega)) (by omega)) (by omega) | exact get_ne2 (get_ne2 (get_ne2 (get_eq (by assumption)) (by omega)) (by omega)) (by omega)) (by first | assumption | exact get_eq (by assumption) | exact get_ne2 (by assumption) (by omega) | exact get_ne2 (get_eq (by assumption)) (by omega) | exact get_ne2 (get_ne2 (by assumption) (by omega)) (by omega) | exact get_ne2 (get_ne2 (get_eq (by assumption)) (by omega)) (by omega) | exact get_ne2 (get_ne2 (get_ne2 (by assumption) (by omega)) (by omega)) (by omega) | exact get_ne2 (get_ne2 (get_ne2 (get_eq (by assumption)) (by omega)) (by omega)) (by omega)) (by first | assumption | exact get_eq (by assumption) | exact get_ne2 (by assumption) (by omega) | exact get_ne2 (get_eq (by assumption)) (by omega) | exact get_ne2 (get_ne2 (by assumption) (by omega)) (by omega) | exact get_ne2 (get_ne2 (get_eq (by assumption)) (by omega)) (by omega) | exact get_ne2 (get_ne2 (get_ne2 (by assumption) (by omega)) (by omega)) (by omega) | exact get_ne2 (get_ne2 (get_ne2 (get_eq (by assumption)) (by omega)) (by omega)) (by omega)) (by first | assumption | exact get_eq (by assumption) | exact get_ne2 (by assumption) (by omega) | exact get_ne2 (get_eq (by assumption)) (by omega) | exact get_ne2 (get_ne2 (by assumption) (by omega)) (by omega) | exact get_ne2 (get_ne2 (get_eq (by assumption)) (by omega)) (by omega) | exact get_ne2 (get_ne2 (get_ne2 (by assumption) (by omega)) (by omega)) (by omega) | exact get_ne2 (get_ne2 (get_ne2 (get_eq (by assumption)) (by omega)) (by omega)) (by omega)) (by omega)) (Nat.le_of_ble_eq_true rfl) ?_
  refine j_return (pc := 57) dX4_copyFrom_57 rfl ?_
  exact ⟨rfl, rfl⟩

set_option maxRecDepth 20000 in
set_option maxHeartbeats 1000000 in
theorem c_scBegin {a b : Nat} {v : ScV} {w : ParV} (hs : atSc h a v) (hab : a + 7 ≤ b ∨ b + 11 ≤ a) (p0 : h[b]? = some (paC b w)) (p1 : h[b + 5]? = some (rowC (b + 5))) (p2 : h[b + 5 + 1]? = some (ia 6 w.2.2.2.2.2.2.2.2.1)) (p3 : h[b + 7]? = some (rowC (b + 7))) (p4 : h[b + 7 + 1]? = some (ia 6 w.2.2.2.2.2.2.2.2.2.1)) : CD g 2 mX4_begin [.ref a, .ref b] h none (setSc h a (0, 0, w.2.2.2.2.2.1, w.2.2.2.2.2.2.2.2.1, w.2.2.2.2.2.2.2.2.2.1, fun _ => -9)) := by
  obtain ⟨s0, s1, s2, s3, s4, s5, s6⟩ := hs
  refine C.of (by decide +kernel) (by simp [Value.category]) (Nat.le_of_ble_eq_true rfl) ?_
  change J g mX4_begin 2 0 0 _ h 0 [some (.ref a), some (.ref b)] []
  refine j_aload_n (pc := 0) dX4_begin_0 rfl ?_
  refine j_iconst (pc := 1) dX4_begin_1 kc_0 ?_
  refine j_putf (pc := 2) dX4_begin_2 fl_X4_26 (jfit_i _) (by first | assumption | exact get_eq (by assumption) | exact get_ne2 (by assumption) (by omega) | exact get_ne2 (get_eq (by assumption)) (by omega) | exact get_ne2 (get_ne2 (by assumption) (by omega)) (by omega) | exact get_ne2 (get_ne2 (get_eq (by assumption)) (by omega)) (by omega) | exact get_ne2 (get_ne2 (get_ne2 (by assumption) (by omega)) (by omega)) (by omega) | exact get_ne2 (get_ne2 (get_ne2 (get_eq (by assumption)) (by omega)) (by omega)) (by omega)) rfl ?_
  refine j_aload_n (pc := 5) dX4_begin_5 rfl ?_
  refine j_iconst (pc := 6) dX4_begin_6 kc_0 ?_
  refine j_putf (pc := 7) dX4_begin_7 fl_X4_30 (jfit_i _) (by first | assumption | exact get_eq (by assumption) | exact get_ne2 (by assumption) (by omega) | exact get_ne2 (get_eq (by assumption)) (by omega) | exact get_ne2 (get_ne2 (by assumption) (by omega)) (by omega) | exact get_ne2 (get_ne2 (get_eq (by assumption)) (by omega)) (by omega) | exact get_ne2 (get_ne2 (get_ne2 (by assumption) (by omega)) (by omega)) (by omega) | exact get_ne2 (get_ne2 (get_ne2 (get_eq (by assumption)) (by omega)) (by omega)) (by omega)) (List.set_set _) ?_
  refine j_aload_n (pc := 10) dX4_begin_10 rfl ?_
  refine j_aload_n (pc := 11) dX4_begin_11 rfl ?_
  refine j_getf (pc := 12) dX4_begin_12 fl_X4_33 (by first | assumption | exact get_eq (by assumption) | exact get_ne2 (by assumption) (by omega) | exact get_ne2 (get_eq (by assumption)) (by omega) | exact get_ne2 (get_ne2 (by assumption) (by omega)) (by omega) | exact get_ne2 (get_ne2 (get_eq (by assumption)) (by omega)) (by omega) | exact get_ne2 (get_ne2 (get_ne2 (by assumption) (by omega)) (by omega)) (by omega) | exact get_ne2 (get_ne2 (get_ne2 (get_eq (by assumption)) (by omega)) (by omega)) (by omega)) rfl ?_
  refine j_putf (pc := 15) dX4_begin_15 fl_X4_38 (jfit_i _) (by first | assumption | exact get_eq (by assumption) | exact get_ne2 (by assumption) (by omega) | exact get_ne2 (get_eq (by assumption)) (by omega) | exact get_ne2 (get_ne2 (by assumption) (by omega)) (by omega) | exact get_ne2 (get_ne2 (get_eq (by assumption)) (by omega)) (by omega) | exact get_ne2 (get_ne2 (get_ne2 (by assumption) (by omega)) (by omega)) (by omega) | exact get_ne2 (get_ne2 (get_ne2 (get_eq (by assumption)) (by omega)) (by omega)) (by omega)) (List.set_set _) ?_
  refine j_aload_n (pc := 18) dX4_begin_18 rfl ?_
  refine j_getf (pc := 19) dX4_begin_19 fl_X4_14 (by first | assumption | exact get_eq (by assumption) | exact get_ne2 (by assumption) (by omega) | exact get_ne2 (get_eq (by assumption)) (by omega) | exact get_ne2 (get_ne2 (by assumption) (by omega)) (by omega) | exact get_ne2 (get_ne2 (get_eq (by assumption)) (by omega)) (by omega) | exact get_ne2 (get_ne2 (get_ne2 (by assumption) (by omega)) (by omega)) (by omega) | exact get_ne2 (get_ne2 (get_ne2 (get_eq (by assumption)) (by omega)) (by omega)) (by omega)) rfl ?_
  refine j_aload_n (pc := 22) dX4_begin_22 rfl ?_
  refine j_getf (pc := 23) dX4_begin_23 fl_X4_39 (by first | assumption | exact get_eq (by assumption) | exact get_ne2 (by assumption) (by omega) | exact get_ne2 (get_eq (by assumption)) (by omega) | exact get_ne2 (get_ne2 (by assumption) (by omega)) (by omega) | exact get_ne2 (get_ne2 (get_eq (by assumption)) (by omega)) (by omega) | exact get_ne2 (get_ne2 (get_ne2 (by assumption) (by omega)) (by omega)) (by omega) | exact get_ne2 (get_ne2 (get_ne2 (get_eq (by assumption)) (by omega)) (by omega)) (by omega)) rfl ?_
  refine j_v1n (pc := 26) (ci := 3) dX4_begin_26 mc_X3_copyFrom ml_X4_40 im_X3_copyFrom se_X3_copyFrom rfl rfl (by first | assumption | exact get_eq (by assumption) | exact get_ne2 (by assumption) (by omega) | exact get_ne2 (get_eq (by assumption)) (by omega) | exact get_ne2 (get_ne2 (by assumption) (by omega)) (by omega) | exact get_ne2 (get_ne2 (get_eq (by assumption)) (by omega)) (by omega) | exact get_ne2 (get_ne2 (get_ne2 (by assumption) (by omega)) (by omega)) (by omega) | exact get_ne2 (get_ne2 (get_ne2 (get_eq (by assumption)) (by omega)) (by omega)) (by omega)) (by omega) (c_copyR (n := 6) (by decide) (by first | assumption | exact get_eq (by assumption) | exact get_ne2 (by assumption) (by omega) | exact get_ne2 (get_eq (by assumption)) (by omega) | exact get_ne2 (get_ne2 (by assumption) (by omega)) (by omega) | exact get_ne2 (get_ne2 (get_eq (by assumption)) (by omega)) (by omega) | exact get_ne2 (get_ne2 (get_ne2 (by assumption) (by omega)) (by omega)) (by omega) | exact get_ne2 (get_ne2 (get_ne2 (get_eq (by assumption)) (by omega)) (by omega)) (by omega)) (by first | assumption | exact get_eq (by assumption) | exact get_ne2 (by assumption) (by omega) | exact get_ne2 (get_eq (by assumption)) (by omega) | exact get_ne2 (get_ne2 (by assumption) (by omega)) (by omega) | exact get_ne2 (get_ne2 (get_eq (by assumption)) (by omega)) (by omega) | exact get_ne2 (get_ne2 (get_ne2 (by assumption) (by omega)) (by omega)) (by omega) | exact get_ne2 (get_ne2 (get_ne2 (get_eq (by assumption)) (by omega)) (by omega)) (by omega)) (by first | assumption | exact get_eq (by assumption) | exact get_ne2 (by assumption) (by omega) | exact get_ne2 (get_eq (by assumption)) (by omega) | exact get_ne2 (get_ne2 (by assumption) (by omega)) (by omega) | exact get_ne2 (get_ne2 (get_eq (by assumption)) (by omega)) (by omega) | exact get_ne2 (get_ne2 (get_ne2 (by assumption) (by omega)) (by omega)) (by omega) | exact get_ne2 (get_ne2 (get_ne2 (get_eq (by assumption)) (by omega)) (by omega)) (by omega)) (by first | assumption | exact get_eq (by assumption) | exact get_ne2 (by assumption) (by omega) | exact get_ne2 (get_eq (by assumption)) (by omega) | exact get_ne2 (get_ne2 (by assumption) (by omega)) (by omega) | exact get_ne2 (get_ne2 (get_eq (by assumption)) (by omega)) (by omega) | exact get_ne2 (get_ne2 (get_ne2 (by assumption) (by omega)) (by omega)) (by omega) | exact get_ne2 (get_ne2 (get_ne2 (get_eq (by assumption)) (by omega)) (by omega)) (by omega)) (by omega)) (Nat.le_of_ble_eq_true rfl) ?_
  refine j_aload_n (pc := 29) dX4_begin_29 rfl ?_
  refine j_getf (pc := 30) dX4_begin_30 fl_X4_20 (by first | assumption | exact get_eq (by assumption) | exact get_ne2 (by assumption) (by omega) | exact get_ne2 (get_eq (by assumption)) (by omega) | exact get_ne2 (get_ne2 (by assumption) (by omega)) (by omega) | exact get_ne2 (get_ne2 (get_eq (by assumption)) (by omega)) (by omega) | exact get_ne2 (get_ne2 (get_ne2 (by assumption) (by omega)) (by omega)) (by omega) | exact get_ne2 (get_ne2 (get_ne2 (get_eq (by assumption)) (by omega)) (by omega)) (by omega)) rfl ?_
  refine j_aload_n (pc := 33) dX4_begin_33 rfl ?_
  refine j_getf (pc := 34) dX4_begin_34 fl_X4_44 (by first | assumption | exact get_eq (by assumption) | exact get_ne2 (by assumption) (by omega) | exact get_ne2 (get_eq (by assumption)) (by omega) | exact get_ne2 (get_ne2 (by assumption) (by omega)) (by omega) | exact get_ne2 (get_ne2 (get_eq (by assumption)) (by omega)) (by omega) | exact get_ne2 (get_ne2 (get_ne2 (by assumption) (by omega)) (by omega)) (by omega) | exact get_ne2 (get_ne2 (get_ne2 (get_eq (by assumption)) (by omega)) (by omega)) (by omega)) rfl ?_
  refine j_v1n (pc := 37) (ci := 3) dX4_begin_37 mc_X3_copyFrom ml_X4_40 im_X3_copyFrom se_X3_copyFrom rfl rfl (by first | assumption | exact get_eq (by assumption) | exact get_ne2 (by assumption) (by omega) | exact get_ne2 (get_eq (by assumption)) (by omega) | exact get_ne2 (get_ne2 (by assumption) (by omega)) (by omega) | exact get_ne2 (get_ne2 (get_eq (by assumption)) (by omega)) (by omega) | exact get_ne2 (get_ne2 (get_ne2 (by assumption) (by omega)) (by omega)) (by omega) | exact get_ne2 (get_ne2 (get_ne2 (get_eq (by assumption)) (by omega)) (by omega)) (by omega)) (by omega) (c_copyR (n := 6) (by decide) (by first | assumption | exact get_eq (by assumption) | exact get_ne2 (by assumption) (by omega) | exact get_ne2 (get_eq (by assumption)) (by omega) | exact get_ne2 (get_ne2 (by assumption) (by omega)) (by omega) | exact get_ne2 (get_ne2 (get_eq (by assumption)) (by omega)) (by omega) | exact get_ne2 (get_ne2 (get_ne2 (by assumption) (by omega)) (by omega)) (by omega) | exact get_ne2 (get_ne2 (get_ne2 (get_eq (by assumption)) (by omega)) (by omega)) (by omega)) (by first | assumption | exact get_eq (by assumption) | exact get_ne2 (by assumption) (by omega) | exact get_ne2 (get_eq (by assumption)) (by omega) | exact get_ne2 (get_ne2 (by assumption) (by omega)) (by omega) | exact get_ne2 (get_ne2 (get_eq (by assumption)) (by omega)) (by omega) | exact get_ne2 (get_ne2 (get_ne2 (by assumption) (by omega)) (by omega)) (by omega) | exact get_ne2 (get_ne2 (get_ne2 (get_eq (by assumption)) (by omega)) (by omega)) (by omega)) (by first | assumption | exact get_eq (by assumption) | exact get_ne2 (by assumption) (by omega) | exact get_ne2 (get_eq (by assumption)) (by omega) | exact get_ne2 (get_ne2 (by assumption) (by omega)) (by omega) | exact get_ne2 (get_ne2 (get_eq (by assumption)) (by omega)) (by omega) | exact get_ne2 (get_ne2 (get_ne2 (by assumption) (by omega)) (by omega)) (by omega) | exact get_ne2 (get_ne2 (get_ne2 (get_eq (by assumption)) (by omega)) (by omega)) (by omega)) (by first | assumption | exact get_eq (by assumption) | exact get_ne2 (by assumption) (by omega) | exact get_ne2 (get_eq (by assumption)) (by omega) | exact get_ne2 (get_ne2 (by assumption) (by omega)) (by omega) | exact get_ne2 (get_ne2 (get_eq (by assumption)) (by omega)) (by omega) | exact get_ne2 (get_ne2 (get_ne2 (by assumption) (by omega)) (by omega)) (by omega) | exact get_ne2 (get_ne2 (get_ne2 (get_eq (by assumption)) (by omega)) (by omega)) (by omega)) (by omega)) (Nat.le_of_ble_eq_true rfl) ?_
  refine j_aload_n (pc := 40) dX4_begin_40 rfl ?_
  refine j_getf (pc := 41) dX4_begin_41 fl_X4_23 (by first | assumption | exact get_eq (by assumption) | exact get_ne2 (by assumption) (by omega) | exact get_ne2 (get_eq (by assumption)) (by omega) | exact get_ne2 (get_ne2 (by assumption) (by omega)) (by omega) | exact get_ne2 (get_ne2 (get_eq (by assumption)) (by omega)) (by omega) | exact get_ne2 (get_ne2 (get_ne2 (by assumption) (by omega)) (by omega)) (by omega) | exact get_ne2 (get_ne2 (get_ne2 (get_eq (by assumption)) (by omega)) (by omega)) (by omega)) rfl ?_
  refine j_bipush (pc := 44) dX4_begin_44 kb_m9 ?_
  refine j_v1n (pc := 46) (ci := 3) dX4_begin_46 mc_X3_fill ml_X4_45 im_X3_fill se_X3_fill rfl rfl (by first | assumption | exact get_eq (by assumption) | exact get_ne2 (by assumption) (by omega) | exact get_ne2 (get_eq (by assumption)) (by omega) | exact get_ne2 (get_ne2 (by assumption) (by omega)) (by omega) | exact get_ne2 (get_ne2 (get_eq (by assumption)) (by omega)) (by omega) | exact get_ne2 (get_ne2 (get_ne2 (by assumption) (by omega)) (by omega)) (by omega) | exact get_ne2 (get_ne2 (get_ne2 (get_eq (by assumption)) (by omega)) (by omega)) (by omega)) (by omega) (c_fill (n := 6) (by decide) (by first | assumption | exact get_eq (by assumption) | exact get_ne2 (by assumption) (by omega) | exact get_ne2 (get_eq (by assumption)) (by omega) | exact get_ne2 (get_ne2 (by assumption) (by omega)) (by omega) | exact get_ne2 (get_ne2 (get_eq (by assumption)) (by omega)) (by omega) | exact get_ne2 (get_ne2 (get_ne2 (by assumption) (by omega)) (by omega)) (by omega) | exact get_ne2 (get_ne2 (get_ne2 (get_eq (by assumption)) (by omega)) (by omega)) (by omega)) (by first | assumption | exact get_eq (by assumption) | exact get_ne2 (by assumption) (by omega) | exact get_ne2 (get_eq (by assumption)) (by omega) | exact get_ne2 (get_ne2 (by assumption) (by omega)) (by omega) | exact get_ne2 (get_ne2 (get_eq (by assumption)) (by omega)) (by omega) | exact get_ne2 (get_ne2 (get_ne2 (by assumption) (by omega)) (by omega)) (by omega) | exact get_ne2 (get_ne2 (get_ne2 (get_eq (by assumption)) (by omega)) (by omega)) (by omega))) (Nat.le_of_ble_eq_true rfl) ?_
  refine j_return (pc := 49) dX4_begin_49 rfl ?_
  exact ⟨rfl, rfl⟩

set_option maxRecDepth 20000 in
set_option maxHeartbeats 1000000 in
theorem c_has {k r n j a : Nat} {vs : List Value} (hk : h[k]? = some (5, [.ref r])) (hr : h[r]? = some (10, vs)) (hn : vs.length = n) (hn2 : n < 1000) (hj : j < n) (hv : vs[j]? = some (.ref a)) : CD g 0 mX5_has [.ref k, .int (nI j)] h (some (.int (b2i true))) h := by
  refine C.of (by decide +kernel) (by simp [Value.category]) (Nat.le_of_ble_eq_true rfl) ?_
  change J g mX5_has 0 0 0 _ h 0 [some (.ref k), some (.int (nI j))] []
  refine j_iload_n (pc := 0) dX5_has_0 rfl ?_
  refine j_if_lt (pc := 1) (tgt := 26) dX5_has_1 rfl (fun zc1 => absurd zc1 (nI_pos (by omega))) (fun _ => ?_)
  refine j_iload_n (pc := 4) dX5_has_4 rfl ?_
  refine j_aload_n (pc := 5) dX5_has_5 rfl ?_
  refine j_getf (pc := 6) dX5_has_6 fl_X5_15 (by assumption) rfl ?_
  refine j_alen (pc := 9) dX5_has_9 (by assumption) rfl (by rw [hn]) ?_
  refine j_icmp_ge (pc := 10) (tgt := 26) dX5_has_10 rfl (fun zc10 => absurd zc10 (nI_ge (a := j) (b := n) (by omega) (by omega))) (fun _ => ?_)
  refine j_aload_n (pc := 13) dX5_has_13 rfl ?_
  refine j_getf (pc := 14) dX5_has_14 fl_X5_15 (by assumption) rfl ?_
  refine j_iload_n (pc := 17) dX5_has_17 rfl ?_
  refine j_aaldE (pc := 18) dX5_has_18 (by assumption) rfl (by assumption) (by assumption) (by omega) (by assumption) ?_
  refine j_ifnull (pc := 19) dX5_has_19 ?_
  refine j_iconst (pc := 22) dX5_has_22 kc_1 ?_
  refine j_goto (pc := 23) (tgt := 27) dX5_has_23 rfl ?_
  refine j_zret (pc := 27) (b := true) dX5_has_27 rfl rfl ?_
  exact ⟨rfl, rfl⟩

set_option maxRecDepth 20000 in
set_option maxHeartbeats 1000000 in
theorem c_shPut {k r n j a : Nat} {vs : List Value} {b : Nat} {v w : ScV} (hk : h[k]? = some (5, [.ref r])) (hr : h[r]? = some (10, vs)) (hn : vs.length = n) (hn2 : n < 1000) (hj : j < n) (hv : vs[j]? = some (.ref a)) (hs : atSc h a v) (hw : atSc h b w) (hab : a + 7 ≤ b ∨ b + 7 ≤ a) : CD g 3 mX5_put [.ref k, .int (nI j), .ref b] h none (setSc h a w) := by
  refine C.of (by decide +kernel) (by simp [Value.category]) (Nat.le_of_ble_eq_true rfl) ?_
  change J g mX5_put 3 0 0 _ h 0 [some (.ref k), some (.int (nI j)), some (.ref b)] []
  refine j_aload_n (pc := 0) dX5_put_0 rfl ?_
  refine j_iload_n (pc := 1) dX5_put_1 rfl ?_
  refine j_v1 (pc := 2) (ci := 5) dX5_put_2 mc_X5_has ml_X5_22 im_X5_has se_X5_has rfl rfl (by assumption) (by omega) (c_has hk hr hn hn2 hj hv) (Nat.le_of_ble_eq_true rfl) ?_
  refine j_beq (pc := 5) (tgt := 18) dX5_put_5 rfl (fun zc5 => by cases ((rfl : true = true)).symm.trans zc5) (fun _ => ?_)
  refine j_aload_n (pc := 8) dX5_put_8 rfl ?_
  refine j_getf (pc := 9) dX5_put_9 fl_X5_15 (by assumption) rfl ?_
  refine j_iload_n (pc := 12) dX5_put_12 rfl ?_
  refine j_aaldE (pc := 13) dX5_put_13 (by assumption) rfl (by assumption) (by assumption) (by omega) (by assumption) ?_
  refine j_aload_n (pc := 14) dX5_put_14 rfl ?_
  refine j_v1n (pc := 15) (ci := 4) dX5_put_15 mc_X4_copyFrom ml_X5_26 im_X4_copyFrom se_X4_copyFrom rfl rfl hs.1 (by omega) (c_scCopy hs hw hab) (Nat.le_of_ble_eq_true rfl) ?_
  refine j_return (pc := 18) dX5_put_18 rfl ?_
  exact ⟨rfl, rfl⟩

set_option maxRecDepth 20000 in
set_option maxHeartbeats 1000000 in
theorem c_shGet {k r n j a : Nat} {vs : List Value} {b : Nat} {v w : ScV} (hk : h[k]? = some (5, [.ref r])) (hr : h[r]? = some (10, vs)) (hn : vs.length = n) (hn2 : n < 1000) (hj : j < n) (hv : vs[j]? = some (.ref a)) (hs : atSc h a v) (hw : atSc h b w) (hab : b + 7 ≤ a ∨ a + 7 ≤ b) : CD g 3 mX5_copyTo [.ref k, .int (nI j), .ref b] h none (setSc h b v) := by
  refine C.of (by decide +kernel) (by simp [Value.category]) (Nat.le_of_ble_eq_true rfl) ?_
  change J g mX5_copyTo 3 0 0 _ h 0 [some (.ref k), some (.int (nI j)), some (.ref b)] []
  refine j_aload_n (pc := 0) dX5_copyTo_0 rfl ?_
  refine j_iload_n (pc := 1) dX5_copyTo_1 rfl ?_
  refine j_v1 (pc := 2) (ci := 5) dX5_copyTo_2 mc_X5_has ml_X5_22 im_X5_has se_X5_has rfl rfl (by assumption) (by omega) (c_has hk hr hn hn2 hj hv) (Nat.le_of_ble_eq_true rfl) ?_
  refine j_beq (pc := 5) (tgt := 18) dX5_copyTo_5 rfl (fun zc5 => by cases ((rfl : true = true)).symm.trans zc5) (fun _ => ?_)
  refine j_aload_n (pc := 8) dX5_copyTo_8 rfl ?_
  refine j_aload_n (pc := 9) dX5_copyTo_9 rfl ?_
  refine j_getf (pc := 10) dX5_copyTo_10 fl_X5_15 (by assumption) rfl ?_
  refine j_iload_n (pc := 13) dX5_copyTo_13 rfl ?_
  refine j_aaldE (pc := 14) dX5_copyTo_14 (by assumption) rfl (by assumption) (by assumption) (by omega) (by assumption) ?_
  refine j_v1n (pc := 15) (ci := 4) dX5_copyTo_15 mc_X4_copyFrom ml_X5_26 im_X4_copyFrom se_X4_copyFrom rfl rfl hw.1 (by omega) (c_scCopy hw hs hab) (Nat.le_of_ble_eq_true rfl) ?_
  refine j_return (pc := 18) dX5_copyTo_18 rfl ?_
  exact ⟨rfl, rfl⟩

set_option maxRecDepth 20000 in
set_option maxHeartbeats 1000000 in
theorem c_paBegin {a : Nat} {v : ParV} (hp : h[a]? = some (paC a v)) : CD g 0 mX1_begin [.ref a] h none (h.set a (paC a (0, 0, 0, 0, 80, 2, v.2.2.2.2.2.2))) := by
  refine C.of (by decide +kernel) (by simp [Value.category]) (Nat.le_of_ble_eq_true rfl) ?_
  change J g mX1_begin 0 0 0 _ h 0 [some (.ref a)] []
  refine j_aload_n (pc := 0) dX1_begin_0 rfl ?_
  refine j_iconst (pc := 1) dX1_begin_1 kc_0 ?_
  refine j_putf (pc := 2) dX1_begin_2 fl_X1_35 (jfit_i _) (by first | assumption | exact get_eq (by assumption) | exact get_ne2 (by assumption) (by omega) | exact get_ne2 (get_eq (by assumption)) (by omega) | exact get_ne2 (get_ne2 (by assumption) (by omega)) (by omega) | exact get_ne2 (get_ne2 (get_eq (by assumption)) (by omega)) (by omega) | exact get_ne2 (get_ne2 (get_ne2 (by assumption) (by omega)) (by omega)) (by omega) | exact get_ne2 (get_ne2 (get_ne2 (get_eq (by assumption)) (by omega)) (by omega)) (by omega)) rfl ?_
  refine j_aload_n (pc := 5) dX1_begin_5 rfl ?_
  refine j_iconst (pc := 6) dX1_begin_6 kc_0 ?_
  refine j_putf (pc := 7) dX1_begin_7 fl_X1_39 (jfit_i _) (by first | assumption | exact get_eq (by assumption) | exact get_ne2 (by assumption) (by omega) | exact get_ne2 (get_eq (by assumption)) (by omega) | exact get_ne2 (get_ne2 (by assumption) (by omega)) (by omega) | exact get_ne2 (get_ne2 (get_eq (by assumption)) (by omega)) (by omega) | exact get_ne2 (get_ne2 (get_ne2 (by assumption) (by omega)) (by omega)) (by omega) | exact get_ne2 (get_ne2 (get_ne2 (get_eq (by assumption)) (by omega)) (by omega)) (by omega)) (List.set_set _) ?_
  refine j_aload_n (pc := 10) dX1_begin_10 rfl ?_
  refine j_iconst (pc := 11) dX1_begin_11 kc_0 ?_
  refine j_putf (pc := 12) dX1_begin_12 fl_X1_42 (jfit_i _) (by first | assumption | exact get_eq (by assumption) | exact get_ne2 (by assumption) (by omega) | exact get_ne2 (get_eq (by assumption)) (by omega) | exact get_ne2 (get_ne2 (by assumption) (by omega)) (by omega) | exact get_ne2 (get_ne2 (get_eq (by assumption)) (by omega)) (by omega) | exact get_ne2 (get_ne2 (get_ne2 (by assumption) (by omega)) (by omega)) (by omega) | exact get_ne2 (get_ne2 (get_ne2 (get_eq (by assumption)) (by omega)) (by omega)) (by omega)) (List.set_set _) ?_
  refine j_aload_n (pc := 15) dX1_begin_15 rfl ?_
  refine j_iconst (pc := 16) dX1_begin_16 kc_0 ?_
  refine j_putf (pc := 17) dX1_begin_17 fl_X1_45 (jfit_i _) (by first | assumption | exact get_eq (by assumption) | exact get_ne2 (by assumption) (by omega) | exact get_ne2 (get_eq (by assumption)) (by omega) | exact get_ne2 (get_ne2 (by assumption) (by omega)) (by omega) | exact get_ne2 (get_ne2 (get_eq (by assumption)) (by omega)) (by omega) | exact get_ne2 (get_ne2 (get_ne2 (by assumption) (by omega)) (by omega)) (by omega) | exact get_ne2 (get_ne2 (get_ne2 (get_eq (by assumption)) (by omega)) (by omega)) (by omega)) (List.set_set _) ?_
  refine j_aload_n (pc := 20) dX1_begin_20 rfl ?_
  refine j_bipush (pc := 21) dX1_begin_21 kb_80 ?_
  refine j_putf (pc := 23) dX1_begin_23 fl_X1_48 (jfit_i _) (by first | assumption | exact get_eq (by assumption) | exact get_ne2 (by assumption) (by omega) | exact get_ne2 (get_eq (by assumption)) (by omega) | exact get_ne2 (get_ne2 (by assumption) (by omega)) (by omega) | exact get_ne2 (get_ne2 (get_eq (by assumption)) (by omega)) (by omega) | exact get_ne2 (get_ne2 (get_ne2 (by assumption) (by omega)) (by omega)) (by omega) | exact get_ne2 (get_ne2 (get_ne2 (get_eq (by assumption)) (by omega)) (by omega)) (by omega)) (List.set_set _) ?_
  refine j_aload_n (pc := 26) dX1_begin_26 rfl ?_
  refine j_iconst (pc := 27) dX1_begin_27 kc_2 ?_
  refine j_putf (pc := 28) dX1_begin_28 fl_X1_51 (jfit_i _) (by first | assumption | exact get_eq (by assumption) | exact get_ne2 (by assumption) (by omega) | exact get_ne2 (get_eq (by assumption)) (by omega) | exact get_ne2 (get_ne2 (by assumption) (by omega)) (by omega) | exact get_ne2 (get_ne2 (get_eq (by assumption)) (by omega)) (by omega) | exact get_ne2 (get_ne2 (get_ne2 (by assumption) (by omega)) (by omega)) (by omega) | exact get_ne2 (get_ne2 (get_ne2 (get_eq (by assumption)) (by omega)) (by omega)) (by omega)) (List.set_set _) ?_
  refine j_return (pc := 31) dX1_begin_31 rfl ?_
  exact ⟨rfl, rfl⟩

def jlt (v n : Int32) : Bool := decide (¬ v < 0) && decide (¬ n ≤ v)
set_option maxRecDepth 20000 in
set_option maxHeartbeats 1000000 in
theorem c_hasDeed {a : Nat} {v : ParV} {i : Int32} (hp : h[a]? = some (paC a v)) : CD g 0 mX1_hasDeed [.ref a, .int i] h (some (.int (b2i (jlt i v.2.1)))) h := by
  refine C.of (by decide +kernel) (by simp [Value.category]) (Nat.le_of_ble_eq_true rfl) ?_
  change J g mX1_hasDeed 0 0 0 _ h 0 [some (.ref a), some (.int i)] []
  refine j_iload_n (pc := 0) dX1_hasDeed_0 rfl ?_
  refine j_if_lt (pc := 1) (tgt := 16) dX1_hasDeed_1 rfl (fun zc1 => ?_) (fun zc1 => ?_)
  · refine j_iconst (pc := 16) dX1_hasDeed_16 kc_0 ?_
    refine j_zret (pc := 17) (b := jlt i v.2.1) dX1_hasDeed_17 rfl (by simp [jlt, b2i, *]) ?_
    exact ⟨rfl, rfl⟩
  · refine j_iload_n (pc := 4) dX1_hasDeed_4 rfl ?_
    refine j_aload_n (pc := 5) dX1_hasDeed_5 rfl ?_
    refine j_getf (pc := 6) dX1_hasDeed_6 fl_X1_39 (by assumption) rfl ?_
    refine j_icmp_ge (pc := 9) (tgt := 16) dX1_hasDeed_9 rfl (fun zc9 => ?_) (fun zc9 => ?_)
    · refine j_iconst (pc := 16) dX1_hasDeed_16 kc_0 ?_
      refine j_zret (pc := 17) (b := jlt i v.2.1) dX1_hasDeed_17 rfl (by simp [jlt, b2i, *]) ?_
      exact ⟨rfl, rfl⟩
    · refine j_iconst (pc := 12) dX1_hasDeed_12 kc_1 ?_
      refine j_goto (pc := 13) (tgt := 17) dX1_hasDeed_13 rfl ?_
      refine j_zret (pc := 17) (b := jlt i v.2.1) dX1_hasDeed_17 rfl (by simp [jlt, b2i, *]) ?_
      exact ⟨rfl, rfl⟩

set_option maxRecDepth 20000 in
set_option maxHeartbeats 1000000 in
theorem c_hasDead {a : Nat} {v : ParV} {i : Int32} (hp : h[a]? = some (paC a v)) : CD g 0 mX1_hasDead [.ref a, .int i] h (some (.int (b2i (jlt i v.2.2.1)))) h := by
  refine C.of (by decide +kernel) (by simp [Value.category]) (Nat.le_of_ble_eq_true rfl) ?_
  change J g mX1_hasDead 0 0 0 _ h 0 [some (.ref a), some (.int i)] []
  refine j_iload_n (pc := 0) dX1_hasDead_0 rfl ?_
  refine j_if_lt (pc := 1) (tgt := 16) dX1_hasDead_1 rfl (fun zc1 => ?_) (fun zc1 => ?_)
  · refine j_iconst (pc := 16) dX1_hasDead_16 kc_0 ?_
    refine j_zret (pc := 17) (b := jlt i v.2.2.1) dX1_hasDead_17 rfl (by simp [jlt, b2i, *]) ?_
    exact ⟨rfl, rfl⟩
  · refine j_iload_n (pc := 4) dX1_hasDead_4 rfl ?_
    refine j_aload_n (pc := 5) dX1_hasDead_5 rfl ?_
    refine j_getf (pc := 6) dX1_hasDead_6 fl_X1_42 (by assumption) rfl ?_
    refine j_icmp_ge (pc := 9) (tgt := 16) dX1_hasDead_9 rfl (fun zc9 => ?_) (fun zc9 => ?_)
    · refine j_iconst (pc := 16) dX1_hasDead_16 kc_0 ?_
      refine j_zret (pc := 17) (b := jlt i v.2.2.1) dX1_hasDead_17 rfl (by simp [jlt, b2i, *]) ?_
      exact ⟨rfl, rfl⟩
    · refine j_iconst (pc := 12) dX1_hasDead_12 kc_1 ?_
      refine j_goto (pc := 13) (tgt := 17) dX1_hasDead_13 rfl ?_
      refine j_zret (pc := 17) (b := jlt i v.2.2.1) dX1_hasDead_17 rfl (by simp [jlt, b2i, *]) ?_
      exact ⟨rfl, rfl⟩

set_option maxRecDepth 20000 in
set_option maxHeartbeats 1000000 in
theorem c_hasBearer {a : Nat} {v : ParV} {i : Int32} (hp : h[a]? = some (paC a v)) : CD g 0 mX1_hasBearer [.ref a, .int i] h (some (.int (b2i (jlt i v.2.2.2.1)))) h := by
  refine C.of (by decide +kernel) (by simp [Value.category]) (Nat.le_of_ble_eq_true rfl) ?_
  change J g mX1_hasBearer 0 0 0 _ h 0 [some (.ref a), some (.int i)] []
  refine j_iload_n (pc := 0) dX1_hasBearer_0 rfl ?_
  refine j_if_lt (pc := 1) (tgt := 16) dX1_hasBearer_1 rfl (fun zc1 => ?_) (fun zc1 => ?_)
  · refine j_iconst (pc := 16) dX1_hasBearer_16 kc_0 ?_
    refine j_zret (pc := 17) (b := jlt i v.2.2.2.1) dX1_hasBearer_17 rfl (by simp [jlt, b2i, *]) ?_
    exact ⟨rfl, rfl⟩
  · refine j_iload_n (pc := 4) dX1_hasBearer_4 rfl ?_
    refine j_aload_n (pc := 5) dX1_hasBearer_5 rfl ?_
    refine j_getf (pc := 6) dX1_hasBearer_6 fl_X1_45 (by assumption) rfl ?_
    refine j_icmp_ge (pc := 9) (tgt := 16) dX1_hasBearer_9 rfl (fun zc9 => ?_) (fun zc9 => ?_)
    · refine j_iconst (pc := 16) dX1_hasBearer_16 kc_0 ?_
      refine j_zret (pc := 17) (b := jlt i v.2.2.2.1) dX1_hasBearer_17 rfl (by simp [jlt, b2i, *]) ?_
      exact ⟨rfl, rfl⟩
    · refine j_iconst (pc := 12) dX1_hasBearer_12 kc_1 ?_
      refine j_goto (pc := 13) (tgt := 17) dX1_hasBearer_13 rfl ?_
      refine j_zret (pc := 17) (b := jlt i v.2.2.2.1) dX1_hasBearer_17 rfl (by simp [jlt, b2i, *]) ?_
      exact ⟨rfl, rfl⟩

set_option maxRecDepth 20000 in
set_option maxHeartbeats 1000000 in
theorem c_loseAll {a : Nat} {k n : Int32} {r : Nat} (hp : h[a]? = some (0, [.int k, .int n, .ref r])) : CD g 0 mX0_loseAll [.ref a] h none (h.set a (0, [.int 0, .int n, .ref r])) := by
  refine C.of (by decide +kernel) (by simp [Value.category]) (Nat.le_of_ble_eq_true rfl) ?_
  change J g mX0_loseAll 0 0 0 _ h 0 [some (.ref a)] []
  refine j_aload_n (pc := 0) dX0_loseAll_0 rfl ?_
  refine j_iconst (pc := 1) dX0_loseAll_1 kc_0 ?_
  refine j_putf (pc := 2) dX0_loseAll_2 fl_X0_28 (jfit_i _) (by assumption) rfl ?_
  refine j_return (pc := 5) dX0_loseAll_5 rfl ?_
  exact ⟨rfl, rfl⟩

end
end
section
/-! what the class tells -/
section
variable {g : GG} {h : List AC} {Q : Option Value → List AC → Prop} {scr : AC} {tl : List AC} {lt : Fn} {lc : Int32} {rd : RdV} {sw : Bool} {P : ParV} {D : ParV} {S : ScV} {kk : Int32} {nx : Int32} {ring : Nat → ScV} {bu : Fn} {im : Nat → ScV} {kept : Int32} {tb : Fn} {tr : Fn} {tc : Int32} {ts : Int64}
def nbI (ru pin nd ld : Int32) : Int32 := imin (if nd < ld - ru then ld - ru else if ld + ru < nd then ld + ru else nd) pin
def nbS (P : ParV) (S : ScV) (nd ld : Int32) : Int32 := nbI S.2.2.1 P.2.2.2.2.1 nd ld
def bdI (P : ParV) (S : ScV) (l : Int32) : Int32 := rAt 6 P.2.2.2.2.2.2.2.1 l + rAt 6 S.2.2.2.1 l + sumI P.2.2.2.2.2.2.1 (rAt 6 S.2.2.2.2.1 l) 6 0 0
def ldI (P : ParV) (S : ScV) (l : Int32) : Int32 := imax 0 (bdI P S l + S.2.1)
def rdI (P : ParV) (S : ScV) (l : Int32) : Int32 := nbS P S S.1 (ldI P S l)
def erI (P : ParV) (S : ScV) (l : Int32) : Int32 := if isCh S l then rAt 6 S.2.2.2.2.2 l - bdI P S l else -1000000
def chStep (S : ScV) (k : Nat) (a : Int32) : Int32 := if isCh S (nI k) then a ||| bitI (nI k) else a
def wdStep (S : ScV) (d : Int32) (k : Nat) (a : Int32) : Int32 := if tbit (rAt 6 S.2.2.2.2.1 (nI k)) d then a ||| bitI (nI k) else a
set_option maxRecDepth 20000 in
set_option maxHeartbeats 1000000 in
theorem x_needleBy {nd ld : Int32} : CD g 1 mX6_needleBy [.ref 1, .int nd, .int ld] (W1 scr tl lt lc rd sw P D S kk nx ring bu im kept tb tr tc ts) (some (.int (nbS P S nd ld))) (W1 scr tl lt lc rd sw P D S kk nx ring bu im kept tb tr tc ts) := by
  refine C.of (by decide +kernel) (by simp [Value.category]) (Nat.le_of_ble_eq_true rfl) ?_
  change J g mX6_needleBy 1 0 0 _ (W1 scr tl lt lc rd sw P D S kk nx ring bu im kept tb tr tc ts) 0 [some (.ref 1), some (.int nd), some (.int ld), none] []
  refine j_iload_n (pc := 0) dX6_needleBy_0 rfl ?_
  refine j_istore_n (pc := 1) dX6_needleBy_1 rfl (Nat.le_of_ble_eq_true rfl) rfl ?_
  refine j_iload_n (pc := 2) dX6_needleBy_2 rfl ?_
  refine j_iload_n (pc := 3) dX6_needleBy_3 rfl ?_
  refine j_aload_n (pc := 4) dX6_needleBy_4 rfl ?_
  refine j_getf (pc := 5) dX6_needleBy_5 fl_X6_40 (by apply lkE; (with_reducible first | exact lkX_1 | exact lkX_27 | exact lkX_p | exact lkX_34 | exact lkX_35 | exact lkX_107 | exact lkX_125 | exact lkX_127 | exact lkX_28 | exact lkX_30 | exact lkX_32 | exact lkX_p1 | exact lkX_p3 | exact lkX_p5 | exact lkX_p7 | exact lkX_p9 | exact lkX_2 | exact lkX_109 | exact lkX_4 | exact lkX_d); rfl) rfl ?_
  refine j_getf (pc := 8) dX6_needleBy_8 fl_X6_153 (by apply lkE; (with_reducible first | exact lkX_1 | exact lkX_27 | exact lkX_p | exact lkX_34 | exact lkX_35 | exact lkX_107 | exact lkX_125 | exact lkX_127 | exact lkX_28 | exact lkX_30 | exact lkX_32 | exact lkX_p1 | exact lkX_p3 | exact lkX_p5 | exact lkX_p7 | exact lkX_p9 | exact lkX_2 | exact lkX_109 | exact lkX_4 | exact lkX_d); rfl) rfl ?_
  refine j_isub (pc := 11) dX6_needleBy_11 ?_
  refine j_icmp_ge (pc := 12) (tgt := 28) dX6_needleBy_12 rfl (fun zc12 => ?_) (fun zc12 => ?_)
  · refine j_iload_n (pc := 28) dX6_needleBy_28 rfl ?_
    refine j_iload_n (pc := 29) dX6_needleBy_29 rfl ?_
    refine j_aload_n (pc := 30) dX6_needleBy_30 rfl ?_
    refine j_getf (pc := 31) dX6_needleBy_31 fl_X6_40 (by apply lkE; (with_reducible first | exact lkX_1 | exact lkX_27 | exact lkX_p | exact lkX_34 | exact lkX_35 | exact lkX_107 | exact lkX_125 | exact lkX_127 | exact lkX_28 | exact lkX_30 | exact lkX_32 | exact lkX_p1 | exact lkX_p3 | exact lkX_p5 | exact lkX_p7 | exact lkX_p9 | exact lkX_2 | exact lkX_109 | exact lkX_4 | exact lkX_d); rfl) rfl ?_
    refine j_getf (pc := 34) dX6_needleBy_34 fl_X6_153 (by apply lkE; (with_reducible first | exact lkX_1 | exact lkX_27 | exact lkX_p | exact lkX_34 | exact lkX_35 | exact lkX_107 | exact lkX_125 | exact lkX_127 | exact lkX_28 | exact lkX_30 | exact lkX_32 | exact lkX_p1 | exact lkX_p3 | exact lkX_p5 | exact lkX_p7 | exact lkX_p9 | exact lkX_2 | exact lkX_109 | exact lkX_4 | exact lkX_d); rfl) rfl ?_
    refine j_iadd (pc := 37) dX6_needleBy_37 ?_
    refine j_icmp_le (pc := 38) (tgt := 51) dX6_needleBy_38 rfl (fun zc38 => ?_) (fun zc38 => ?_)
    · refine j_iload_n (pc := 51) dX6_needleBy_51 rfl ?_
      refine j_aload_n (pc := 52) dX6_needleBy_52 rfl ?_
      refine j_getf (pc := 53) dX6_needleBy_53 fl_X6_30 (by apply lkE; (with_reducible first | exact lkX_1 | exact lkX_27 | exact lkX_p | exact lkX_34 | exact lkX_35 | exact lkX_107 | exact lkX_125 | exact lkX_127 | exact lkX_28 | exact lkX_30 | exact lkX_32 | exact lkX_p1 | exact lkX_p3 | exact lkX_p5 | exact lkX_p7 | exact lkX_p9 | exact lkX_2 | exact lkX_109 | exact lkX_4 | exact lkX_d); rfl) rfl ?_
      refine j_getf (pc := 56) dX6_needleBy_56 fl_X6_270 (by apply lkE; (with_reducible first | exact lkX_1 | exact lkX_27 | exact lkX_p | exact lkX_34 | exact lkX_35 | exact lkX_107 | exact lkX_125 | exact lkX_127 | exact lkX_28 | exact lkX_30 | exact lkX_32 | exact lkX_p1 | exact lkX_p3 | exact lkX_p5 | exact lkX_p7 | exact lkX_p9 | exact lkX_2 | exact lkX_109 | exact lkX_4 | exact lkX_d); rfl) rfl ?_
      refine j_min (pc := 59) dX6_needleBy_59 ml_X6_278 (by omega) (Nat.le_of_ble_eq_true rfl) ?_
      refine j_ireturn (pc := 62) dX6_needleBy_62 rfl ?_
      refine ⟨?_, rfl⟩
      simp only [nbS, nbI]
      first
        | (rw [if_pos (Int32.not_le.mp zc12)]; done)
        | (rw [if_neg (Int32.not_lt.mpr zc12), if_neg (Int32.not_lt.mpr zc38)]; done)
        | (rw [if_neg (Int32.not_lt.mpr zc12), if_pos (Int32.not_le.mp zc38)]; done)
    · refine j_iload_n (pc := 41) dX6_needleBy_41 rfl ?_
      refine j_aload_n (pc := 42) dX6_needleBy_42 rfl ?_
      refine j_getf (pc := 43) dX6_needleBy_43 fl_X6_40 (by apply lkE; (with_reducible first | exact lkX_1 | exact lkX_27 | exact lkX_p | exact lkX_34 | exact lkX_35 | exact lkX_107 | exact lkX_125 | exact lkX_127 | exact lkX_28 | exact lkX_30 | exact lkX_32 | exact lkX_p1 | exact lkX_p3 | exact lkX_p5 | exact lkX_p7 | exact lkX_p9 | exact lkX_2 | exact lkX_109 | exact lkX_4 | exact lkX_d); rfl) rfl ?_
      refine j_getf (pc := 46) dX6_needleBy_46 fl_X6_153 (by apply lkE; (with_reducible first | exact lkX_1 | exact lkX_27 | exact lkX_p | exact lkX_34 | exact lkX_35 | exact lkX_107 | exact lkX_125 | exact lkX_127 | exact lkX_28 | exact lkX_30 | exact lkX_32 | exact lkX_p1 | exact lkX_p3 | exact lkX_p5 | exact lkX_p7 | exact lkX_p9 | exact lkX_2 | exact lkX_109 | exact lkX_4 | exact lkX_d); rfl) rfl ?_
      refine j_iadd (pc := 49) dX6_needleBy_49 ?_
      refine j_istore_n (pc := 50) dX6_needleBy_50 rfl (Nat.le_of_ble_eq_true rfl) rfl ?_
      refine j_iload_n (pc := 51) dX6_needleBy_51 rfl ?_
      refine j_aload_n (pc := 52) dX6_needleBy_52 rfl ?_
      refine j_getf (pc := 53) dX6_needleBy_53 fl_X6_30 (by apply lkE; (with_reducible first | exact lkX_1 | exact lkX_27 | exact lkX_p | exact lkX_34 | exact lkX_35 | exact lkX_107 | exact lkX_125 | exact lkX_127 | exact lkX_28 | exact lkX_30 | exact lkX_32 | exact lkX_p1 | exact lkX_p3 | exact lkX_p5 | exact lkX_p7 | exact lkX_p9 | exact lkX_2 | exact lkX_109 | exact lkX_4 | exact lkX_d); rfl) rfl ?_
      refine j_getf (pc := 56) dX6_needleBy_56 fl_X6_270 (by apply lkE; (with_reducible first | exact lkX_1 | exact lkX_27 | exact lkX_p | exact lkX_34 | exact lkX_35 | exact lkX_107 | exact lkX_125 | exact lkX_127 | exact lkX_28 | exact lkX_30 | exact lkX_32 | exact lkX_p1 | exact lkX_p3 | exact lkX_p5 | exact lkX_p7 | exact lkX_p9 | exact lkX_2 | exact lkX_109 | exact lkX_4 | exact lkX_d); rfl) rfl ?_
      refine j_min (pc := 59) dX6_needleBy_59 ml_X6_278 (by omega) (Nat.le_of_ble_eq_true rfl) ?_
      refine j_ireturn (pc := 62) dX6_needleBy_62 rfl ?_
      refine ⟨?_, rfl⟩
      simp only [nbS, nbI]
      first
        | (rw [if_pos (Int32.not_le.mp zc12)]; done)
        | (rw [if_neg (Int32.not_lt.mpr zc12), if_neg (Int32.not_lt.mpr zc38)]; done)
        | (rw [if_neg (Int32.not_lt.mpr zc12), if_pos (Int32.not_le.mp zc38)]; done)
  · refine j_iload_n (pc := 15) dX6_needleBy_15 rfl ?_
    refine j_aload_n (pc := 16) dX6_needleBy_16 rfl ?_
    refine j_getf (pc := 17) dX6_needleBy_17 fl_X6_40 (by apply lkE; (with_reducible first | exact lkX_1 | exact lkX_27 | exact lkX_p | exact lkX_34 | exact lkX_35 | exact lkX_107 | exact lkX_125 | exact lkX_127 | exact lkX_28 | exact lkX_30 | exact lkX_32 | exact lkX_p1 | exact lkX_p3 | exact lkX_p5 | exact lkX_p7 | exact lkX_p9 | exact lkX_2 | exact lkX_109 | exact lkX_4 | exact lkX_d); rfl) rfl ?_
    refine j_getf (pc := 20) dX6_needleBy_20 fl_X6_153 (by apply lkE; (with_reducible first | exact lkX_1 | exact lkX_27 | exact lkX_p | exact lkX_34 | exact lkX_35 | exact lkX_107 | exact lkX_125 | exact lkX_127 | exact lkX_28 | exact lkX_30 | exact lkX_32 | exact lkX_p1 | exact lkX_p3 | exact lkX_p5 | exact lkX_p7 | exact lkX_p9 | exact lkX_2 | exact lkX_109 | exact lkX_4 | exact lkX_d); rfl) rfl ?_
    refine j_isub (pc := 23) dX6_needleBy_23 ?_
    refine j_istore_n (pc := 24) dX6_needleBy_24 rfl (Nat.le_of_ble_eq_true rfl) rfl ?_
    refine j_goto (pc := 25) (tgt := 51) dX6_needleBy_25 rfl ?_
    refine j_iload_n (pc := 51) dX6_needleBy_51 rfl ?_
    refine j_aload_n (pc := 52) dX6_needleBy_52 rfl ?_
    refine j_getf (pc := 53) dX6_needleBy_53 fl_X6_30 (by apply lkE; (with_reducible first | exact lkX_1 | exact lkX_27 | exact lkX_p | exact lkX_34 | exact lkX_35 | exact lkX_107 | exact lkX_125 | exact lkX_127 | exact lkX_28 | exact lkX_30 | exact lkX_32 | exact lkX_p1 | exact lkX_p3 | exact lkX_p5 | exact lkX_p7 | exact lkX_p9 | exact lkX_2 | exact lkX_109 | exact lkX_4 | exact lkX_d); rfl) rfl ?_
    refine j_getf (pc := 56) dX6_needleBy_56 fl_X6_270 (by apply lkE; (with_reducible first | exact lkX_1 | exact lkX_27 | exact lkX_p | exact lkX_34 | exact lkX_35 | exact lkX_107 | exact lkX_125 | exact lkX_127 | exact lkX_28 | exact lkX_30 | exact lkX_32 | exact lkX_p1 | exact lkX_p3 | exact lkX_p5 | exact lkX_p7 | exact lkX_p9 | exact lkX_2 | exact lkX_109 | exact lkX_4 | exact lkX_d); rfl) rfl ?_
    refine j_min (pc := 59) dX6_needleBy_59 ml_X6_278 (by omega) (Nat.le_of_ble_eq_true rfl) ?_
    refine j_ireturn (pc := 62) dX6_needleBy_62 rfl ?_
    refine ⟨?_, rfl⟩
    simp only [nbS, nbI]
    first
      | (rw [if_pos (Int32.not_le.mp zc12)]; done)
      | (rw [if_neg (Int32.not_lt.mpr zc12), if_neg (Int32.not_lt.mpr zc38)]; done)
      | (rw [if_neg (Int32.not_lt.mpr zc12), if_pos (Int32.not_le.mp zc38)]; done)

set_option maxRecDepth 20000 in
set_option maxHeartbeats 1000000 in
theorem x_burdenOf {l : Int32} : CD g 2 mX6_burdenOf [.ref 1, .int l] (W1 scr tl lt lc rd sw P D S kk nx ring bu im kept tb tr tc ts) (some (.int (bdI P S l))) (W1 scr tl lt lc rd sw P D S kk nx ring bu im kept tb tr tc ts) := by
  refine C.of (by decide +kernel) (by simp [Value.category]) (Nat.le_of_ble_eq_true rfl) ?_
  change J g mX6_burdenOf 2 0 0 _ (W1 scr tl lt lc rd sw P D S kk nx ring bu im kept tb tr tc ts) 0 [some (.ref 1), some (.int l)] []
  refine j_aload_n (pc := 0) dX6_burdenOf_0 rfl ?_
  refine j_getf (pc := 1) dX6_burdenOf_1 fl_X6_30 (by apply lkE; (with_reducible first | exact lkX_1 | exact lkX_27 | exact lkX_p | exact lkX_34 | exact lkX_35 | exact lkX_107 | exact lkX_125 | exact lkX_127 | exact lkX_28 | exact lkX_30 | exact lkX_32 | exact lkX_p1 | exact lkX_p3 | exact lkX_p5 | exact lkX_p7 | exact lkX_p9 | exact lkX_2 | exact lkX_109 | exact lkX_4 | exact lkX_d); rfl) rfl ?_
  refine j_getf (pc := 4) dX6_burdenOf_4 fl_X6_117 (by apply lkE; (with_reducible first | exact lkX_1 | exact lkX_27 | exact lkX_p | exact lkX_34 | exact lkX_35 | exact lkX_107 | exact lkX_125 | exact lkX_127 | exact lkX_28 | exact lkX_30 | exact lkX_32 | exact lkX_p1 | exact lkX_p3 | exact lkX_p5 | exact lkX_p7 | exact lkX_p9 | exact lkX_2 | exact lkX_109 | exact lkX_4 | exact lkX_d); rfl) rfl ?_
  refine j_iload_n (pc := 7) dX6_burdenOf_7 rfl ?_
  refine j_v1 (pc := 8) (ci := 3) dX6_burdenOf_8 mc_X3_at ml_X6_107 im_X3_at se_X3_at rfl rfl (by apply lkE; (with_reducible first | exact lkX_1 | exact lkX_27 | exact lkX_p | exact lkX_34 | exact lkX_35 | exact lkX_107 | exact lkX_125 | exact lkX_127 | exact lkX_28 | exact lkX_30 | exact lkX_32 | exact lkX_p1 | exact lkX_p3 | exact lkX_p5 | exact lkX_p7 | exact lkX_p9 | exact lkX_2 | exact lkX_109 | exact lkX_4 | exact lkX_d); rfl) (by omega) (c_at (n := 6) (by decide) (by apply lkE; (with_reducible first | exact lkX_p3 | exact lkX_28 | exact lkX_30 | exact lkX_32 | exact lkX_107 | exact lkX_125 | exact lkX_127); rfl) (by apply lkE; (with_reducible first | exact lkX_p4 | exact lkX_29 | exact lkX_31 | exact lkX_33 | exact lkX_108 | exact lkX_126 | exact lkX_128); rfl)) (Nat.le_of_ble_eq_true rfl) ?_
  refine j_aload_n (pc := 11) dX6_burdenOf_11 rfl ?_
  refine j_getf (pc := 12) dX6_burdenOf_12 fl_X6_40 (by apply lkE; (with_reducible first | exact lkX_1 | exact lkX_27 | exact lkX_p | exact lkX_34 | exact lkX_35 | exact lkX_107 | exact lkX_125 | exact lkX_127 | exact lkX_28 | exact lkX_30 | exact lkX_32 | exact lkX_p1 | exact lkX_p3 | exact lkX_p5 | exact lkX_p7 | exact lkX_p9 | exact lkX_2 | exact lkX_109 | exact lkX_4 | exact lkX_d); rfl) rfl ?_
  refine j_getf (pc := 15) dX6_burdenOf_15 fl_X6_120 (by apply lkE; (with_reducible first | exact lkX_1 | exact lkX_27 | exact lkX_p | exact lkX_34 | exact lkX_35 | exact lkX_107 | exact lkX_125 | exact lkX_127 | exact lkX_28 | exact lkX_30 | exact lkX_32 | exact lkX_p1 | exact lkX_p3 | exact lkX_p5 | exact lkX_p7 | exact lkX_p9 | exact lkX_2 | exact lkX_109 | exact lkX_4 | exact lkX_d); rfl) rfl ?_
  refine j_iload_n (pc := 18) dX6_burdenOf_18 rfl ?_
  refine j_v1 (pc := 19) (ci := 3) dX6_burdenOf_19 mc_X3_at ml_X6_107 im_X3_at se_X3_at rfl rfl (by apply lkE; (with_reducible first | exact lkX_1 | exact lkX_27 | exact lkX_p | exact lkX_34 | exact lkX_35 | exact lkX_107 | exact lkX_125 | exact lkX_127 | exact lkX_28 | exact lkX_30 | exact lkX_32 | exact lkX_p1 | exact lkX_p3 | exact lkX_p5 | exact lkX_p7 | exact lkX_p9 | exact lkX_2 | exact lkX_109 | exact lkX_4 | exact lkX_d); rfl) (by omega) (c_at (n := 6) (by decide) (by apply lkE; (with_reducible first | exact lkX_p3 | exact lkX_28 | exact lkX_30 | exact lkX_32 | exact lkX_107 | exact lkX_125 | exact lkX_127); rfl) (by apply lkE; (with_reducible first | exact lkX_p4 | exact lkX_29 | exact lkX_31 | exact lkX_33 | exact lkX_108 | exact lkX_126 | exact lkX_128); rfl)) (Nat.le_of_ble_eq_true rfl) ?_
  refine j_iadd (pc := 22) dX6_burdenOf_22 ?_
  refine j_aload_n (pc := 23) dX6_burdenOf_23 rfl ?_
  refine j_getf (pc := 24) dX6_burdenOf_24 fl_X6_30 (by apply lkE; (with_reducible first | exact lkX_1 | exact lkX_27 | exact lkX_p | exact lkX_34 | exact lkX_35 | exact lkX_107 | exact lkX_125 | exact lkX_127 | exact lkX_28 | exact lkX_30 | exact lkX_32 | exact lkX_p1 | exact lkX_p3 | exact lkX_p5 | exact lkX_p7 | exact lkX_p9 | exact lkX_2 | exact lkX_109 | exact lkX_4 | exact lkX_d); rfl) rfl ?_
  refine j_getf (pc := 27) dX6_burdenOf_27 fl_X6_104 (by apply lkE; (with_reducible first | exact lkX_1 | exact lkX_27 | exact lkX_p | exact lkX_34 | exact lkX_35 | exact lkX_107 | exact lkX_125 | exact lkX_127 | exact lkX_28 | exact lkX_30 | exact lkX_32 | exact lkX_p1 | exact lkX_p3 | exact lkX_p5 | exact lkX_p7 | exact lkX_p9 | exact lkX_2 | exact lkX_109 | exact lkX_4 | exact lkX_d); rfl) rfl ?_
  refine j_aload_n (pc := 30) dX6_burdenOf_30 rfl ?_
  refine j_getf (pc := 31) dX6_burdenOf_31 fl_X6_40 (by apply lkE; (with_reducible first | exact lkX_1 | exact lkX_27 | exact lkX_p | exact lkX_34 | exact lkX_35 | exact lkX_107 | exact lkX_125 | exact lkX_127 | exact lkX_28 | exact lkX_30 | exact lkX_32 | exact lkX_p1 | exact lkX_p3 | exact lkX_p5 | exact lkX_p7 | exact lkX_p9 | exact lkX_2 | exact lkX_109 | exact lkX_4 | exact lkX_d); rfl) rfl ?_
  refine j_getf (pc := 34) dX6_burdenOf_34 fl_X6_123 (by apply lkE; (with_reducible first | exact lkX_1 | exact lkX_27 | exact lkX_p | exact lkX_34 | exact lkX_35 | exact lkX_107 | exact lkX_125 | exact lkX_127 | exact lkX_28 | exact lkX_30 | exact lkX_32 | exact lkX_p1 | exact lkX_p3 | exact lkX_p5 | exact lkX_p7 | exact lkX_p9 | exact lkX_2 | exact lkX_109 | exact lkX_4 | exact lkX_d); rfl) rfl ?_
  refine j_iload_n (pc := 37) dX6_burdenOf_37 rfl ?_
  refine j_v1 (pc := 38) (ci := 3) dX6_burdenOf_38 mc_X3_at ml_X6_107 im_X3_at se_X3_at rfl rfl (by apply lkE; (with_reducible first | exact lkX_1 | exact lkX_27 | exact lkX_p | exact lkX_34 | exact lkX_35 | exact lkX_107 | exact lkX_125 | exact lkX_127 | exact lkX_28 | exact lkX_30 | exact lkX_32 | exact lkX_p1 | exact lkX_p3 | exact lkX_p5 | exact lkX_p7 | exact lkX_p9 | exact lkX_2 | exact lkX_109 | exact lkX_4 | exact lkX_d); rfl) (by omega) (c_at (n := 6) (by decide) (by apply lkE; (with_reducible first | exact lkX_p3 | exact lkX_28 | exact lkX_30 | exact lkX_32 | exact lkX_107 | exact lkX_125 | exact lkX_127); rfl) (by apply lkE; (with_reducible first | exact lkX_p4 | exact lkX_29 | exact lkX_31 | exact lkX_33 | exact lkX_108 | exact lkX_126 | exact lkX_128); rfl)) (Nat.le_of_ble_eq_true rfl) ?_
  refine j_v1 (pc := 41) (ci := 3) dX6_burdenOf_41 mc_X3_sumOf ml_X6_126 im_X3_sumOf se_X3_sumOf rfl rfl (by apply lkE; (with_reducible first | exact lkX_1 | exact lkX_27 | exact lkX_p | exact lkX_34 | exact lkX_35 | exact lkX_107 | exact lkX_125 | exact lkX_127 | exact lkX_28 | exact lkX_30 | exact lkX_32 | exact lkX_p1 | exact lkX_p3 | exact lkX_p5 | exact lkX_p7 | exact lkX_p9 | exact lkX_2 | exact lkX_109 | exact lkX_4 | exact lkX_d); rfl) (by omega) (c_sumOf (by apply lkE; (with_reducible first | exact lkX_p1 | exact lkX_p9); rfl) (by apply lkE; (with_reducible first | exact lkX_p2 | exact lkX_p10); rfl)) (Nat.le_of_ble_eq_true rfl) ?_
  refine j_iadd (pc := 44) dX6_burdenOf_44 ?_
  refine j_ireturn (pc := 45) dX6_burdenOf_45 rfl ?_
  exact ⟨rfl, rfl⟩

set_option maxRecDepth 20000 in
set_option maxHeartbeats 1000000 in
theorem x_loadOf {l : Int32} : CD g 3 mX6_loadOf [.ref 1, .int l] (W1 scr tl lt lc rd sw P D S kk nx ring bu im kept tb tr tc ts) (some (.int (ldI P S l))) (W1 scr tl lt lc rd sw P D S kk nx ring bu im kept tb tr tc ts) := by
  refine C.of (by decide +kernel) (by simp [Value.category]) (Nat.le_of_ble_eq_true rfl) ?_
  change J g mX6_loadOf 3 0 0 _ (W1 scr tl lt lc rd sw P D S kk nx ring bu im kept tb tr tc ts) 0 [some (.ref 1), some (.int l)] []
  refine j_aload_n (pc := 0) dX6_loadOf_0 rfl ?_
  refine j_iload_n (pc := 1) dX6_loadOf_1 rfl ?_
  refine j_v1 (pc := 2) (ci := 6) dX6_loadOf_2 mc_X6_burdenOf ml_X6_192 im_X6_burdenOf se_X6_burdenOf rfl rfl (by apply lkE; (with_reducible first | exact lkX_1 | exact lkX_27 | exact lkX_p | exact lkX_34 | exact lkX_35 | exact lkX_107 | exact lkX_125 | exact lkX_127 | exact lkX_28 | exact lkX_30 | exact lkX_32 | exact lkX_p1 | exact lkX_p3 | exact lkX_p5 | exact lkX_p7 | exact lkX_p9 | exact lkX_2 | exact lkX_109 | exact lkX_4 | exact lkX_d); rfl) (by omega) (x_burdenOf) (Nat.le_of_ble_eq_true rfl) ?_
  refine j_aload_n (pc := 5) dX6_loadOf_5 rfl ?_
  refine j_getf (pc := 6) dX6_loadOf_6 fl_X6_40 (by apply lkE; (with_reducible first | exact lkX_1 | exact lkX_27 | exact lkX_p | exact lkX_34 | exact lkX_35 | exact lkX_107 | exact lkX_125 | exact lkX_127 | exact lkX_28 | exact lkX_30 | exact lkX_32 | exact lkX_p1 | exact lkX_p3 | exact lkX_p5 | exact lkX_p7 | exact lkX_p9 | exact lkX_2 | exact lkX_109 | exact lkX_4 | exact lkX_d); rfl) rfl ?_
  refine j_getf (pc := 9) dX6_loadOf_9 fl_X6_150 (by apply lkE; (with_reducible first | exact lkX_1 | exact lkX_27 | exact lkX_p | exact lkX_34 | exact lkX_35 | exact lkX_107 | exact lkX_125 | exact lkX_127 | exact lkX_28 | exact lkX_30 | exact lkX_32 | exact lkX_p1 | exact lkX_p3 | exact lkX_p5 | exact lkX_p7 | exact lkX_p9 | exact lkX_2 | exact lkX_109 | exact lkX_4 | exact lkX_d); rfl) rfl ?_
  refine j_s2 (pc := 12) dX6_loadOf_12 mc_X6_loadBy ml_X6_281 sm_X6_loadBy (by omega) (c_loadBy) (Nat.le_of_ble_eq_true rfl) ?_
  refine j_ireturn (pc := 15) dX6_loadOf_15 rfl ?_
  exact ⟨rfl, rfl⟩

set_option maxRecDepth 20000 in
set_option maxHeartbeats 1000000 in
theorem x_readingOf {l : Int32} : CD g 4 mX6_readingOf [.ref 1, .int l] (W1 scr tl lt lc rd sw P D S kk nx ring bu im kept tb tr tc ts) (some (.int (rdI P S l))) (W1 scr tl lt lc rd sw P D S kk nx ring bu im kept tb tr tc ts) := by
  refine C.of (by decide +kernel) (by simp [Value.category]) (Nat.le_of_ble_eq_true rfl) ?_
  change J g mX6_readingOf 4 0 0 _ (W1 scr tl lt lc rd sw P D S kk nx ring bu im kept tb tr tc ts) 0 [some (.ref 1), some (.int l)] []
  refine j_aload_n (pc := 0) dX6_readingOf_0 rfl ?_
  refine j_aload_n (pc := 1) dX6_readingOf_1 rfl ?_
  refine j_getf (pc := 2) dX6_readingOf_2 fl_X6_40 (by apply lkE; (with_reducible first | exact lkX_1 | exact lkX_27 | exact lkX_p | exact lkX_34 | exact lkX_35 | exact lkX_107 | exact lkX_125 | exact lkX_127 | exact lkX_28 | exact lkX_30 | exact lkX_32 | exact lkX_p1 | exact lkX_p3 | exact lkX_p5 | exact lkX_p7 | exact lkX_p9 | exact lkX_2 | exact lkX_109 | exact lkX_4 | exact lkX_d); rfl) rfl ?_
  refine j_getf (pc := 5) dX6_readingOf_5 fl_X6_147 (by apply lkE; (with_reducible first | exact lkX_1 | exact lkX_27 | exact lkX_p | exact lkX_34 | exact lkX_35 | exact lkX_107 | exact lkX_125 | exact lkX_127 | exact lkX_28 | exact lkX_30 | exact lkX_32 | exact lkX_p1 | exact lkX_p3 | exact lkX_p5 | exact lkX_p7 | exact lkX_p9 | exact lkX_2 | exact lkX_109 | exact lkX_4 | exact lkX_d); rfl) rfl ?_
  refine j_aload_n (pc := 8) dX6_readingOf_8 rfl ?_
  refine j_iload_n (pc := 9) dX6_readingOf_9 rfl ?_
  refine j_v1 (pc := 10) (ci := 6) dX6_readingOf_10 mc_X6_loadOf ml_X6_129 im_X6_loadOf se_X6_loadOf rfl rfl (by apply lkE; (with_reducible first | exact lkX_1 | exact lkX_27 | exact lkX_p | exact lkX_34 | exact lkX_35 | exact lkX_107 | exact lkX_125 | exact lkX_127 | exact lkX_28 | exact lkX_30 | exact lkX_32 | exact lkX_p1 | exact lkX_p3 | exact lkX_p5 | exact lkX_p7 | exact lkX_p9 | exact lkX_2 | exact lkX_109 | exact lkX_4 | exact lkX_d); rfl) (by omega) (x_loadOf) (Nat.le_of_ble_eq_true rfl) ?_
  refine j_v2 (pc := 13) (ci := 6) dX6_readingOf_13 mc_X6_needleBy ml_X6_170 im_X6_needleBy se_X6_needleBy rfl rfl (by apply lkE; (with_reducible first | exact lkX_1 | exact lkX_27 | exact lkX_p | exact lkX_34 | exact lkX_35 | exact lkX_107 | exact lkX_125 | exact lkX_127 | exact lkX_28 | exact lkX_30 | exact lkX_32 | exact lkX_p1 | exact lkX_p3 | exact lkX_p5 | exact lkX_p7 | exact lkX_p9 | exact lkX_2 | exact lkX_109 | exact lkX_4 | exact lkX_d); rfl) (by omega) (x_needleBy) (Nat.le_of_ble_eq_true rfl) ?_
  refine j_ireturn (pc := 16) dX6_readingOf_16 rfl ?_
  exact ⟨rfl, rfl⟩

set_option maxRecDepth 20000 in
set_option maxHeartbeats 1000000 in
theorem x_errorOf {l : Int32} : CD g 3 mX6_errorOf [.ref 1, .int l] (W1 scr tl lt lc rd sw P D S kk nx ring bu im kept tb tr tc ts) (some (.int (erI P S l))) (W1 scr tl lt lc rd sw P D S kk nx ring bu im kept tb tr tc ts) := by
  refine C.of (by decide +kernel) (by simp [Value.category]) (Nat.le_of_ble_eq_true rfl) ?_
  change J g mX6_errorOf 3 0 0 _ (W1 scr tl lt lc rd sw P D S kk nx ring bu im kept tb tr tc ts) 0 [some (.ref 1), some (.int l)] []
  refine j_aload_n (pc := 0) dX6_errorOf_0 rfl ?_
  refine j_getf (pc := 1) dX6_errorOf_1 fl_X6_40 (by apply lkE; (with_reducible first | exact lkX_1 | exact lkX_27 | exact lkX_p | exact lkX_34 | exact lkX_35 | exact lkX_107 | exact lkX_125 | exact lkX_127 | exact lkX_28 | exact lkX_30 | exact lkX_32 | exact lkX_p1 | exact lkX_p3 | exact lkX_p5 | exact lkX_p7 | exact lkX_p9 | exact lkX_2 | exact lkX_109 | exact lkX_4 | exact lkX_d); rfl) rfl ?_
  refine j_iload_n (pc := 4) dX6_errorOf_4 rfl ?_
  refine j_v1 (pc := 5) (ci := 4) dX6_errorOf_5 mc_X4_isChalked ml_X6_163 im_X4_isChalked se_X4_isChalked rfl rfl (by apply lkE; (with_reducible first | exact lkX_1 | exact lkX_27 | exact lkX_p | exact lkX_34 | exact lkX_35 | exact lkX_107 | exact lkX_125 | exact lkX_127 | exact lkX_28 | exact lkX_30 | exact lkX_32 | exact lkX_p1 | exact lkX_p3 | exact lkX_p5 | exact lkX_p7 | exact lkX_p9 | exact lkX_2 | exact lkX_109 | exact lkX_4 | exact lkX_d); rfl) (by omega) (c_isChalked ⟨lkX_27, lkX_28, lkX_29, lkX_30, lkX_31, lkX_32, lkX_33⟩) (Nat.le_of_ble_eq_true rfl) ?_
  refine j_beq (pc := 8) (tgt := 31) dX6_errorOf_8 rfl (fun zc8 => ?_) (fun zc8 => ?_)
  · refine j_ldc (pc := 31) dX6_errorOf_31 ck_X6_103 ?_
    refine j_ireturn (pc := 33) dX6_errorOf_33 rfl ?_
    exact ⟨by simp [erI, *], rfl⟩
  · refine j_aload_n (pc := 11) dX6_errorOf_11 rfl ?_
    refine j_getf (pc := 12) dX6_errorOf_12 fl_X6_40 (by apply lkE; (with_reducible first | exact lkX_1 | exact lkX_27 | exact lkX_p | exact lkX_34 | exact lkX_35 | exact lkX_107 | exact lkX_125 | exact lkX_127 | exact lkX_28 | exact lkX_30 | exact lkX_32 | exact lkX_p1 | exact lkX_p3 | exact lkX_p5 | exact lkX_p7 | exact lkX_p9 | exact lkX_2 | exact lkX_109 | exact lkX_4 | exact lkX_d); rfl) rfl ?_
    refine j_getf (pc := 15) dX6_errorOf_15 fl_X6_132 (by apply lkE; (with_reducible first | exact lkX_1 | exact lkX_27 | exact lkX_p | exact lkX_34 | exact lkX_35 | exact lkX_107 | exact lkX_125 | exact lkX_127 | exact lkX_28 | exact lkX_30 | exact lkX_32 | exact lkX_p1 | exact lkX_p3 | exact lkX_p5 | exact lkX_p7 | exact lkX_p9 | exact lkX_2 | exact lkX_109 | exact lkX_4 | exact lkX_d); rfl) rfl ?_
    refine j_iload_n (pc := 18) dX6_errorOf_18 rfl ?_
    refine j_v1 (pc := 19) (ci := 3) dX6_errorOf_19 mc_X3_at ml_X6_107 im_X3_at se_X3_at rfl rfl (by apply lkE; (with_reducible first | exact lkX_1 | exact lkX_27 | exact lkX_p | exact lkX_34 | exact lkX_35 | exact lkX_107 | exact lkX_125 | exact lkX_127 | exact lkX_28 | exact lkX_30 | exact lkX_32 | exact lkX_p1 | exact lkX_p3 | exact lkX_p5 | exact lkX_p7 | exact lkX_p9 | exact lkX_2 | exact lkX_109 | exact lkX_4 | exact lkX_d); rfl) (by omega) (c_at (n := 6) (by decide) (by apply lkE; (with_reducible first | exact lkX_p3 | exact lkX_28 | exact lkX_30 | exact lkX_32 | exact lkX_107 | exact lkX_125 | exact lkX_127); rfl) (by apply lkE; (with_reducible first | exact lkX_p4 | exact lkX_29 | exact lkX_31 | exact lkX_33 | exact lkX_108 | exact lkX_126 | exact lkX_128); rfl)) (Nat.le_of_ble_eq_true rfl) ?_
    refine j_aload_n (pc := 22) dX6_errorOf_22 rfl ?_
    refine j_iload_n (pc := 23) dX6_errorOf_23 rfl ?_
    refine j_v1 (pc := 24) (ci := 6) dX6_errorOf_24 mc_X6_burdenOf ml_X6_192 im_X6_burdenOf se_X6_burdenOf rfl rfl (by apply lkE; (with_reducible first | exact lkX_1 | exact lkX_27 | exact lkX_p | exact lkX_34 | exact lkX_35 | exact lkX_107 | exact lkX_125 | exact lkX_127 | exact lkX_28 | exact lkX_30 | exact lkX_32 | exact lkX_p1 | exact lkX_p3 | exact lkX_p5 | exact lkX_p7 | exact lkX_p9 | exact lkX_2 | exact lkX_109 | exact lkX_4 | exact lkX_d); rfl) (by omega) (x_burdenOf) (Nat.le_of_ble_eq_true rfl) ?_
    refine j_isub (pc := 27) dX6_errorOf_27 ?_
    refine j_goto (pc := 28) (tgt := 33) dX6_errorOf_28 rfl ?_
    refine j_ireturn (pc := 33) dX6_errorOf_33 rfl ?_
    exact ⟨by simp [erI, *], rfl⟩

set_option maxRecDepth 20000 in
set_option maxHeartbeats 1000000 in
theorem xl_whoIsChalked {n : Nat} (hdd : P.2.2.1 = nI n) (hn : n ≤ 6) : ∀ (m k : Nat) (a : Int32), k + m = n → Q (some (.int (iter (chStep S) m k a))) (W1 scr tl lt lc rd sw P D S kk nx ring bu im kept tb tr tc ts) → J g mX6_whoIsChalked 3 0 0 Q (W1 scr tl lt lc rd sw P D S kk nx ring bu im kept tb tr tc ts) 4 [some (.ref 1), some (.int a), some (.int (nI k))] [] := by
  intro m
  induction m with
  | zero =>
    intro k a hk hq
    refine j_iload_n (pc := 4) dX6_whoIsChalked_4 rfl ?_
    refine j_aload_n (pc := 5) dX6_whoIsChalked_5 rfl ?_
    refine j_getf (pc := 6) dX6_whoIsChalked_6 fl_X6_30 (by apply lkE; (with_reducible first | exact lkX_1 | exact lkX_27 | exact lkX_p | exact lkX_34 | exact lkX_35 | exact lkX_107 | exact lkX_125 | exact lkX_127 | exact lkX_28 | exact lkX_30 | exact lkX_32 | exact lkX_p1 | exact lkX_p3 | exact lkX_p5 | exact lkX_p7 | exact lkX_p9 | exact lkX_2 | exact lkX_109 | exact lkX_4 | exact lkX_d); rfl) rfl ?_
    refine j_getf (pc := 9) dX6_whoIsChalked_9 fl_X6_189 (by apply lkE; (with_reducible first | exact lkX_1 | exact lkX_27 | exact lkX_p | exact lkX_34 | exact lkX_35 | exact lkX_107 | exact lkX_125 | exact lkX_127 | exact lkX_28 | exact lkX_30 | exact lkX_32 | exact lkX_p1 | exact lkX_p3 | exact lkX_p5 | exact lkX_p7 | exact lkX_p9 | exact lkX_2 | exact lkX_109 | exact lkX_4 | exact lkX_d); rfl) rfl ?_
    refine j_icmp_ge (pc := 12) (tgt := 39) dX6_whoIsChalked_12 rfl (fun _ => ?_) (fun zc12 => absurd (by rw [hdd]; exact nI_le (by omega) (by omega)) zc12)
    refine j_iload_n (pc := 39) dX6_whoIsChalked_39 rfl ?_
    refine j_ireturn (pc := 40) dX6_whoIsChalked_40 rfl ?_
    exact hq
  | succ m ih =>
    intro k a hk hq
    refine j_iload_n (pc := 4) dX6_whoIsChalked_4 rfl ?_
    refine j_aload_n (pc := 5) dX6_whoIsChalked_5 rfl ?_
    refine j_getf (pc := 6) dX6_whoIsChalked_6 fl_X6_30 (by apply lkE; (with_reducible first | exact lkX_1 | exact lkX_27 | exact lkX_p | exact lkX_34 | exact lkX_35 | exact lkX_107 | exact lkX_125 | exact lkX_127 | exact lkX_28 | exact lkX_30 | exact lkX_32 | exact lkX_p1 | exact lkX_p3 | exact lkX_p5 | exact lkX_p7 | exact lkX_p9 | exact lkX_2 | exact lkX_109 | exact lkX_4 | exact lkX_d); rfl) rfl ?_
    refine j_getf (pc := 9) dX6_whoIsChalked_9 fl_X6_189 (by apply lkE; (with_reducible first | exact lkX_1 | exact lkX_27 | exact lkX_p | exact lkX_34 | exact lkX_35 | exact lkX_107 | exact lkX_125 | exact lkX_127 | exact lkX_28 | exact lkX_30 | exact lkX_32 | exact lkX_p1 | exact lkX_p3 | exact lkX_p5 | exact lkX_p7 | exact lkX_p9 | exact lkX_2 | exact lkX_109 | exact lkX_4 | exact lkX_d); rfl) rfl ?_
    refine j_icmp_ge (pc := 12) (tgt := 39) dX6_whoIsChalked_12 rfl (fun zc12 => absurd zc12 (by rw [hdd]; exact nI_ge (by omega) (by omega))) (fun _ => ?_)
    refine j_aload_n (pc := 15) dX6_whoIsChalked_15 rfl ?_
    refine j_getf (pc := 16) dX6_whoIsChalked_16 fl_X6_40 (by apply lkE; (with_reducible first | exact lkX_1 | exact lkX_27 | exact lkX_p | exact lkX_34 | exact lkX_35 | exact lkX_107 | exact lkX_125 | exact lkX_127 | exact lkX_28 | exact lkX_30 | exact lkX_32 | exact lkX_p1 | exact lkX_p3 | exact lkX_p5 | exact lkX_p7 | exact lkX_p9 | exact lkX_2 | exact lkX_109 | exact lkX_4 | exact lkX_d); rfl) rfl ?_
    refine j_iload_n (pc := 19) dX6_whoIsChalked_19 rfl ?_
    refine j_v1 (pc := 20) (ci := 4) dX6_whoIsChalked_20 mc_X4_isChalked ml_X6_163 im_X4_isChalked se_X4_isChalked rfl rfl (by apply lkE; (with_reducible first | exact lkX_1 | exact lkX_27 | exact lkX_p | exact lkX_34 | exact lkX_35 | exact lkX_107 | exact lkX_125 | exact lkX_127 | exact lkX_28 | exact lkX_30 | exact lkX_32 | exact lkX_p1 | exact lkX_p3 | exact lkX_p5 | exact lkX_p7 | exact lkX_p9 | exact lkX_2 | exact lkX_109 | exact lkX_4 | exact lkX_d); rfl) (by omega) (c_isChalked ⟨lkX_27, lkX_28, lkX_29, lkX_30, lkX_31, lkX_32, lkX_33⟩) (Nat.le_of_ble_eq_true rfl) ?_
    refine j_beq (pc := 23) (tgt := 33) dX6_whoIsChalked_23 rfl (fun zc23 => ?_) (fun zc23 => ?_)
    · refine j_iinc (pc := 33) dX6_whoIsChalked_33 rfl rfl (Nat.le_of_ble_eq_true rfl) rfl ?_
      refine j_goto (pc := 36) (tgt := 4) dX6_whoIsChalked_36 rfl ?_
      rw [nI_s]
      refine ih (k + 1) _ (by omega) ?_
      simpa [iter, chStep, *] using hq
    · refine j_iload_n (pc := 26) dX6_whoIsChalked_26 rfl ?_
      refine j_iload_n (pc := 27) dX6_whoIsChalked_27 rfl ?_
      refine j_s1 (pc := 28) dX6_whoIsChalked_28 mc_X6_bit ml_X6_178 sm_X6_bit (by omega) (c_bit) (Nat.le_of_ble_eq_true rfl) ?_
      refine j_ior (pc := 31) dX6_whoIsChalked_31 ?_
      refine j_istore_n (pc := 32) dX6_whoIsChalked_32 rfl (Nat.le_of_ble_eq_true rfl) rfl ?_
      refine j_iinc (pc := 33) dX6_whoIsChalked_33 rfl rfl (Nat.le_of_ble_eq_true rfl) rfl ?_
      refine j_goto (pc := 36) (tgt := 4) dX6_whoIsChalked_36 rfl ?_
      rw [nI_s]
      refine ih (k + 1) _ (by omega) ?_
      simpa [iter, chStep, *] using hq

set_option maxRecDepth 20000 in
set_option maxHeartbeats 1000000 in
theorem x_whoIsChalked {n : Nat} (hdd : P.2.2.1 = nI n) (hn : n ≤ 6) : CD g 3 mX6_whoIsChalked [.ref 1] (W1 scr tl lt lc rd sw P D S kk nx ring bu im kept tb tr tc ts) (some (.int (iter (chStep S) n 0 0))) (W1 scr tl lt lc rd sw P D S kk nx ring bu im kept tb tr tc ts) := by
  refine C.of (by decide +kernel) (by simp [Value.category]) (Nat.le_of_ble_eq_true rfl) ?_
  change J g mX6_whoIsChalked 3 0 0 _ (W1 scr tl lt lc rd sw P D S kk nx ring bu im kept tb tr tc ts) 0 [some (.ref 1), none, none] []
  refine j_iconst (pc := 0) dX6_whoIsChalked_0 kc_0 ?_
  refine j_istore_n (pc := 1) dX6_whoIsChalked_1 rfl (Nat.le_of_ble_eq_true rfl) rfl ?_
  refine j_iconst (pc := 2) dX6_whoIsChalked_2 kc_0 ?_
  refine j_istore_n (pc := 3) dX6_whoIsChalked_3 rfl (Nat.le_of_ble_eq_true rfl) rfl ?_
  exact xl_whoIsChalked hdd hn n 0 0 (by omega) ⟨rfl, rfl⟩

set_option maxRecDepth 20000 in
set_option maxHeartbeats 1000000 in
theorem xl_whoDid {d : Int32} {n : Nat} (hdd : P.2.2.1 = nI n) (hn : n ≤ 6) : ∀ (m k : Nat) (a : Int32), k + m = n → Q (some (.int (iter (wdStep S d) m k a))) (W1 scr tl lt lc rd sw P D S kk nx ring bu im kept tb tr tc ts) → J g mX6_whoDid 3 0 0 Q (W1 scr tl lt lc rd sw P D S kk nx ring bu im kept tb tr tc ts) 4 [some (.ref 1), some (.int d), some (.int a), some (.int (nI k))] [] := by
  intro m
  induction m with
  | zero =>
    intro k a hk hq
    refine j_iload_n (pc := 4) dX6_whoDid_4 rfl ?_
    refine j_aload_n (pc := 5) dX6_whoDid_5 rfl ?_
    refine j_getf (pc := 6) dX6_whoDid_6 fl_X6_30 (by apply lkE; (with_reducible first | exact lkX_1 | exact lkX_27 | exact lkX_p | exact lkX_34 | exact lkX_35 | exact lkX_107 | exact lkX_125 | exact lkX_127 | exact lkX_28 | exact lkX_30 | exact lkX_32 | exact lkX_p1 | exact lkX_p3 | exact lkX_p5 | exact lkX_p7 | exact lkX_p9 | exact lkX_2 | exact lkX_109 | exact lkX_4 | exact lkX_d); rfl) rfl ?_
    refine j_getf (pc := 9) dX6_whoDid_9 fl_X6_189 (by apply lkE; (with_reducible first | exact lkX_1 | exact lkX_27 | exact lkX_p | exact lkX_34 | exact lkX_35 | exact lkX_107 | exact lkX_125 | exact lkX_127 | exact lkX_28 | exact lkX_30 | exact lkX_32 | exact lkX_p1 | exact lkX_p3 | exact lkX_p5 | exact lkX_p7 | exact lkX_p9 | exact lkX_2 | exact lkX_109 | exact lkX_4 | exact lkX_d); rfl) rfl ?_
    refine j_icmp_ge (pc := 12) (tgt := 46) dX6_whoDid_12 rfl (fun _ => ?_) (fun zc12 => absurd (by rw [hdd]; exact nI_le (by omega) (by omega)) zc12)
    refine j_iload_n (pc := 46) dX6_whoDid_46 rfl ?_
    refine j_ireturn (pc := 47) dX6_whoDid_47 rfl ?_
    exact hq
  | succ m ih =>
    intro k a hk hq
    refine j_iload_n (pc := 4) dX6_whoDid_4 rfl ?_
    refine j_aload_n (pc := 5) dX6_whoDid_5 rfl ?_
    refine j_getf (pc := 6) dX6_whoDid_6 fl_X6_30 (by apply lkE; (with_reducible first | exact lkX_1 | exact lkX_27 | exact lkX_p | exact lkX_34 | exact lkX_35 | exact lkX_107 | exact lkX_125 | exact lkX_127 | exact lkX_28 | exact lkX_30 | exact lkX_32 | exact lkX_p1 | exact lkX_p3 | exact lkX_p5 | exact lkX_p7 | exact lkX_p9 | exact lkX_2 | exact lkX_109 | exact lkX_4 | exact lkX_d); rfl) rfl ?_
    refine j_getf (pc := 9) dX6_whoDid_9 fl_X6_189 (by apply lkE; (with_reducible first | exact lkX_1 | exact lkX_27 | exact lkX_p | exact lkX_34 | exact lkX_35 | exact lkX_107 | exact lkX_125 | exact lkX_127 | exact lkX_28 | exact lkX_30 | exact lkX_32 | exact lkX_p1 | exact lkX_p3 | exact lkX_p5 | exact lkX_p7 | exact lkX_p9 | exact lkX_2 | exact lkX_109 | exact lkX_4 | exact lkX_d); rfl) rfl ?_
    refine j_icmp_ge (pc := 12) (tgt := 46) dX6_whoDid_12 rfl (fun zc12 => absurd zc12 (by rw [hdd]; exact nI_ge (by omega) (by omega))) (fun _ => ?_)
    refine j_aload_n (pc := 15) dX6_whoDid_15 rfl ?_
    refine j_getf (pc := 16) dX6_whoDid_16 fl_X6_40 (by apply lkE; (with_reducible first | exact lkX_1 | exact lkX_27 | exact lkX_p | exact lkX_34 | exact lkX_35 | exact lkX_107 | exact lkX_125 | exact lkX_127 | exact lkX_28 | exact lkX_30 | exact lkX_32 | exact lkX_p1 | exact lkX_p3 | exact lkX_p5 | exact lkX_p7 | exact lkX_p9 | exact lkX_2 | exact lkX_109 | exact lkX_4 | exact lkX_d); rfl) rfl ?_
    refine j_getf (pc := 19) dX6_whoDid_19 fl_X6_123 (by apply lkE; (with_reducible first | exact lkX_1 | exact lkX_27 | exact lkX_p | exact lkX_34 | exact lkX_35 | exact lkX_107 | exact lkX_125 | exact lkX_127 | exact lkX_28 | exact lkX_30 | exact lkX_32 | exact lkX_p1 | exact lkX_p3 | exact lkX_p5 | exact lkX_p7 | exact lkX_p9 | exact lkX_2 | exact lkX_109 | exact lkX_4 | exact lkX_d); rfl) rfl ?_
    refine j_iload_n (pc := 22) dX6_whoDid_22 rfl ?_
    refine j_v1 (pc := 23) (ci := 3) dX6_whoDid_23 mc_X3_at ml_X6_107 im_X3_at se_X3_at rfl rfl (by apply lkE; (with_reducible first | exact lkX_1 | exact lkX_27 | exact lkX_p | exact lkX_34 | exact lkX_35 | exact lkX_107 | exact lkX_125 | exact lkX_127 | exact lkX_28 | exact lkX_30 | exact lkX_32 | exact lkX_p1 | exact lkX_p3 | exact lkX_p5 | exact lkX_p7 | exact lkX_p9 | exact lkX_2 | exact lkX_109 | exact lkX_4 | exact lkX_d); rfl) (by omega) (c_at (n := 6) (by decide) (by apply lkE; (with_reducible first | exact lkX_p3 | exact lkX_28 | exact lkX_30 | exact lkX_32 | exact lkX_107 | exact lkX_125 | exact lkX_127); rfl) (by apply lkE; (with_reducible first | exact lkX_p4 | exact lkX_29 | exact lkX_31 | exact lkX_33 | exact lkX_108 | exact lkX_126 | exact lkX_128); rfl)) (Nat.le_of_ble_eq_true rfl) ?_
    refine j_iload_n (pc := 26) dX6_whoDid_26 rfl ?_
    refine j_s2 (pc := 27) dX6_whoDid_27 mc_X6_isIn ml_X6_174 sm_X6_isIn (by omega) (c_isIn) (Nat.le_of_ble_eq_true rfl) ?_
    refine j_beq (pc := 30) (tgt := 40) dX6_whoDid_30 rfl (fun zc30 => ?_) (fun zc30 => ?_)
    · refine j_iinc (pc := 40) dX6_whoDid_40 rfl rfl (Nat.le_of_ble_eq_true rfl) rfl ?_
      refine j_goto (pc := 43) (tgt := 4) dX6_whoDid_43 rfl ?_
      rw [nI_s]
      refine ih (k + 1) _ (by omega) ?_
      simpa [iter, wdStep, *] using hq
    · refine j_iload_n (pc := 33) dX6_whoDid_33 rfl ?_
      refine j_iload_n (pc := 34) dX6_whoDid_34 rfl ?_
      refine j_s1 (pc := 35) dX6_whoDid_35 mc_X6_bit ml_X6_178 sm_X6_bit (by omega) (c_bit) (Nat.le_of_ble_eq_true rfl) ?_
      refine j_ior (pc := 38) dX6_whoDid_38 ?_
      refine j_istore_n (pc := 39) dX6_whoDid_39 rfl (Nat.le_of_ble_eq_true rfl) rfl ?_
      refine j_iinc (pc := 40) dX6_whoDid_40 rfl rfl (Nat.le_of_ble_eq_true rfl) rfl ?_
      refine j_goto (pc := 43) (tgt := 4) dX6_whoDid_43 rfl ?_
      rw [nI_s]
      refine ih (k + 1) _ (by omega) ?_
      simpa [iter, wdStep, *] using hq

set_option maxRecDepth 20000 in
set_option maxHeartbeats 1000000 in
theorem x_whoDid {d : Int32} {n : Nat} (hdd : P.2.2.1 = nI n) (hn : n ≤ 6) : CD g 3 mX6_whoDid [.ref 1, .int d] (W1 scr tl lt lc rd sw P D S kk nx ring bu im kept tb tr tc ts) (some (.int (iter (wdStep S d) n 0 0))) (W1 scr tl lt lc rd sw P D S kk nx ring bu im kept tb tr tc ts) := by
  refine C.of (by decide +kernel) (by simp [Value.category]) (Nat.le_of_ble_eq_true rfl) ?_
  change J g mX6_whoDid 3 0 0 _ (W1 scr tl lt lc rd sw P D S kk nx ring bu im kept tb tr tc ts) 0 [some (.ref 1), some (.int d), none, none] []
  refine j_iconst (pc := 0) dX6_whoDid_0 kc_0 ?_
  refine j_istore_n (pc := 1) dX6_whoDid_1 rfl (Nat.le_of_ble_eq_true rfl) rfl ?_
  refine j_iconst (pc := 2) dX6_whoDid_2 kc_0 ?_
  refine j_istore_n (pc := 3) dX6_whoDid_3 rfl (Nat.le_of_ble_eq_true rfl) rfl ?_
  exact xl_whoDid hdd hn n 0 0 (by omega) ⟨rfl, rfl⟩

def exL (P : ParV) (S : ScV) (tb tr : Fn) (soul : Int32) : Nat → Nat → Bool
  | 0, _ => true
  | m + 1, k => if nbS P S 0 (imax 0 (tb k + soul)) = tr k then exL P S tb tr soul m (k + 1) else false
def exA (P : ParV) (S : ScV) (tb tr : Fn) (nt : Nat) (s : Int32) : Bool := exL P S tb tr (sumI P.2.2.2.2.2.2.1 s 6 0 0) nt 0
def swStep (P : ParV) (S : ScV) (tb tr : Fn) (nt : Nat) (w : Int32) (k : Nat) (a : Int32) : Int32 := if nI k &&& w = w then (if exA P S tb tr nt (nI k) then a + 1 else a) else a
def swI (P : ParV) (S : ScV) (tb tr : Fn) (nt ne : Nat) (w : Int32) : Int32 := iter (swStep P S tb tr nt w) (2 ^ ne) 0 0
theorem allI_nI {n : Nat} (h : n ≤ 6) : allI (nI n) = nI (2 ^ n - 1) := by
  have : n = 0 ∨ n = 1 ∨ n = 2 ∨ n = 3 ∨ n = 4 ∨ n = 5 ∨ n = 6 := by omega
  rcases this with rfl | rfl | rfl | rfl | rfl | rfl | rfl <;> decide
theorem two_le {n : Nat} (h : n ≤ 6) : 1 ≤ 2 ^ n ∧ 2 ^ n ≤ 64 := by
  have : n = 0 ∨ n = 1 ∨ n = 2 ∨ n = 3 ∨ n = 4 ∨ n = 5 ∨ n = 6 := by omega
  rcases this with rfl | rfl | rfl | rfl | rfl | rfl | rfl <;> decide
set_option maxRecDepth 20000 in
set_option maxHeartbeats 1000000 in
theorem xl_explainsAll {s soul : Int32} {nt : Nat} (htc : tc = nI nt) (hnt : nt ≤ 6) : ∀ (m k : Nat), k + m = nt → Q (some (.int (b2i (exL P S tb tr soul m k)))) (W1 scr tl lt lc rd sw P D S kk nx ring bu im kept tb tr tc ts) → J g mX6_explainsAll 2 0 0 Q (W1 scr tl lt lc rd sw P D S kk nx ring bu im kept tb tr tc ts) 14 [some (.ref 1), some (.int s), some (.int soul), some (.int (nI k))] [] := by
  intro m
  induction m with
  | zero =>
    intro k hk hq
    refine j_iload_n (pc := 14) dX6_explainsAll_14 rfl ?_
    refine j_aload_n (pc := 15) dX6_explainsAll_15 rfl ?_
    refine j_getf (pc := 16) dX6_explainsAll_16 fl_X6_93 (by apply lkE; (with_reducible first | exact lkX_1 | exact lkX_27 | exact lkX_p | exact lkX_34 | exact lkX_35 | exact lkX_107 | exact lkX_125 | exact lkX_127 | exact lkX_28 | exact lkX_30 | exact lkX_32 | exact lkX_p1 | exact lkX_p3 | exact lkX_p5 | exact lkX_p7 | exact lkX_p9 | exact lkX_2 | exact lkX_109 | exact lkX_4 | exact lkX_d); rfl) rfl ?_
    refine j_icmp_ge (pc := 19) (tgt := 58) dX6_explainsAll_19 rfl (fun _ => ?_) (fun zc19 => absurd (by rw [htc]; exact nI_le (by omega) (by omega)) zc19)
    refine j_iconst (pc := 58) dX6_explainsAll_58 kc_1 ?_
    refine j_zret (pc := 59) (b := true) dX6_explainsAll_59 rfl rfl ?_
    exact hq
  | succ m ih =>
    intro k hk hq
    refine j_iload_n (pc := 14) dX6_explainsAll_14 rfl ?_
    refine j_aload_n (pc := 15) dX6_explainsAll_15 rfl ?_
    refine j_getf (pc := 16) dX6_explainsAll_16 fl_X6_93 (by apply lkE; (with_reducible first | exact lkX_1 | exact lkX_27 | exact lkX_p | exact lkX_34 | exact lkX_35 | exact lkX_107 | exact lkX_125 | exact lkX_127 | exact lkX_28 | exact lkX_30 | exact lkX_32 | exact lkX_p1 | exact lkX_p3 | exact lkX_p5 | exact lkX_p7 | exact lkX_p9 | exact lkX_2 | exact lkX_109 | exact lkX_4 | exact lkX_d); rfl) rfl ?_
    refine j_icmp_ge (pc := 19) (tgt := 58) dX6_explainsAll_19 rfl (fun zc19 => absurd zc19 (by rw [htc]; exact nI_ge (by omega) (by omega))) (fun _ => ?_)
    refine j_aload_n (pc := 22) dX6_explainsAll_22 rfl ?_
    refine j_iconst (pc := 23) dX6_explainsAll_23 kc_0 ?_
    refine j_aload_n (pc := 24) dX6_explainsAll_24 rfl ?_
    refine j_getf (pc := 25) dX6_explainsAll_25 fl_X6_65 (by apply lkE; (with_reducible first | exact lkX_1 | exact lkX_27 | exact lkX_p | exact lkX_34 | exact lkX_35 | exact lkX_107 | exact lkX_125 | exact lkX_127 | exact lkX_28 | exact lkX_30 | exact lkX_32 | exact lkX_p1 | exact lkX_p3 | exact lkX_p5 | exact lkX_p7 | exact lkX_p9 | exact lkX_2 | exact lkX_109 | exact lkX_4 | exact lkX_d); rfl) rfl ?_
    refine j_iload_n (pc := 28) dX6_explainsAll_28 rfl ?_
    refine j_v1 (pc := 29) (ci := 3) dX6_explainsAll_29 mc_X3_at ml_X6_107 im_X3_at se_X3_at rfl rfl (by apply lkE; (with_reducible first | exact lkX_1 | exact lkX_27 | exact lkX_p | exact lkX_34 | exact lkX_35 | exact lkX_107 | exact lkX_125 | exact lkX_127 | exact lkX_28 | exact lkX_30 | exact lkX_32 | exact lkX_p1 | exact lkX_p3 | exact lkX_p5 | exact lkX_p7 | exact lkX_p9 | exact lkX_2 | exact lkX_109 | exact lkX_4 | exact lkX_d); rfl) (by omega) (c_at (n := 6) (by decide) (by apply lkE; (with_reducible first | exact lkX_p3 | exact lkX_28 | exact lkX_30 | exact lkX_32 | exact lkX_107 | exact lkX_125 | exact lkX_127); rfl) (by apply lkE; (with_reducible first | exact lkX_p4 | exact lkX_29 | exact lkX_31 | exact lkX_33 | exact lkX_108 | exact lkX_126 | exact lkX_128); rfl)) (Nat.le_of_ble_eq_true rfl) ?_
    rw [rAt_in (show k < 6 by omega) (by decide)]
    refine j_iload_n (pc := 32) dX6_explainsAll_32 rfl ?_
    refine j_s2 (pc := 33) dX6_explainsAll_33 mc_X6_loadBy ml_X6_281 sm_X6_loadBy (by omega) (c_loadBy) (Nat.le_of_ble_eq_true rfl) ?_
    refine j_v2 (pc := 36) (ci := 6) dX6_explainsAll_36 mc_X6_needleBy ml_X6_170 im_X6_needleBy se_X6_needleBy rfl rfl (by apply lkE; (with_reducible first | exact lkX_1 | exact lkX_27 | exact lkX_p | exact lkX_34 | exact lkX_35 | exact lkX_107 | exact lkX_125 | exact lkX_127 | exact lkX_28 | exact lkX_30 | exact lkX_32 | exact lkX_p1 | exact lkX_p3 | exact lkX_p5 | exact lkX_p7 | exact lkX_p9 | exact lkX_2 | exact lkX_109 | exact lkX_4 | exact lkX_d); rfl) (by omega) (x_needleBy) (Nat.le_of_ble_eq_true rfl) ?_
    refine j_aload_n (pc := 39) dX6_explainsAll_39 rfl ?_
    refine j_getf (pc := 40) dX6_explainsAll_40 fl_X6_68 (by apply lkE; (with_reducible first | exact lkX_1 | exact lkX_27 | exact lkX_p | exact lkX_34 | exact lkX_35 | exact lkX_107 | exact lkX_125 | exact lkX_127 | exact lkX_28 | exact lkX_30 | exact lkX_32 | exact lkX_p1 | exact lkX_p3 | exact lkX_p5 | exact lkX_p7 | exact lkX_p9 | exact lkX_2 | exact lkX_109 | exact lkX_4 | exact lkX_d); rfl) rfl ?_
    refine j_iload_n (pc := 43) dX6_explainsAll_43 rfl ?_
    refine j_v1 (pc := 44) (ci := 3) dX6_explainsAll_44 mc_X3_at ml_X6_107 im_X3_at se_X3_at rfl rfl (by apply lkE; (with_reducible first | exact lkX_1 | exact lkX_27 | exact lkX_p | exact lkX_34 | exact lkX_35 | exact lkX_107 | exact lkX_125 | exact lkX_127 | exact lkX_28 | exact lkX_30 | exact lkX_32 | exact lkX_p1 | exact lkX_p3 | exact lkX_p5 | exact lkX_p7 | exact lkX_p9 | exact lkX_2 | exact lkX_109 | exact lkX_4 | exact lkX_d); rfl) (by omega) (c_at (n := 6) (by decide) (by apply lkE; (with_reducible first | exact lkX_p3 | exact lkX_28 | exact lkX_30 | exact lkX_32 | exact lkX_107 | exact lkX_125 | exact lkX_127); rfl) (by apply lkE; (with_reducible first | exact lkX_p4 | exact lkX_29 | exact lkX_31 | exact lkX_33 | exact lkX_108 | exact lkX_126 | exact lkX_128); rfl)) (Nat.le_of_ble_eq_true rfl) ?_
    rw [rAt_in (show k < 6 by omega) (by decide)]
    refine j_icmp_eq (pc := 47) (tgt := 52) dX6_explainsAll_47 rfl (fun zc47 => ?_) (fun zc47 => ?_)
    · refine j_iinc (pc := 52) dX6_explainsAll_52 rfl rfl (Nat.le_of_ble_eq_true rfl) rfl ?_
      refine j_goto (pc := 55) (tgt := 14) dX6_explainsAll_55 rfl ?_
      rw [nI_s]
      refine ih (k + 1) (by omega) ?_
      simpa [exL, *] using hq
    · refine j_iconst (pc := 50) dX6_explainsAll_50 kc_0 ?_
      refine j_zret (pc := 51) (b := false) dX6_explainsAll_51 rfl rfl ?_
      simpa [exL, *] using hq

set_option maxRecDepth 20000 in
set_option maxHeartbeats 1000000 in
theorem x_explainsAll {s : Int32} {nt : Nat} (htc : tc = nI nt) (hnt : nt ≤ 6) : CD g 2 mX6_explainsAll [.ref 1, .int s] (W1 scr tl lt lc rd sw P D S kk nx ring bu im kept tb tr tc ts) (some (.int (b2i (exA P S tb tr nt s)))) (W1 scr tl lt lc rd sw P D S kk nx ring bu im kept tb tr tc ts) := by
  refine C.of (by decide +kernel) (by simp [Value.category]) (Nat.le_of_ble_eq_true rfl) ?_
  change J g mX6_explainsAll 2 0 0 _ (W1 scr tl lt lc rd sw P D S kk nx ring bu im kept tb tr tc ts) 0 [some (.ref 1), some (.int s), none, none] []
  refine j_aload_n (pc := 0) dX6_explainsAll_0 rfl ?_
  refine j_getf (pc := 1) dX6_explainsAll_1 fl_X6_30 (by apply lkE; (with_reducible first | exact lkX_1 | exact lkX_27 | exact lkX_p | exact lkX_34 | exact lkX_35 | exact lkX_107 | exact lkX_125 | exact lkX_127 | exact lkX_28 | exact lkX_30 | exact lkX_32 | exact lkX_p1 | exact lkX_p3 | exact lkX_p5 | exact lkX_p7 | exact lkX_p9 | exact lkX_2 | exact lkX_109 | exact lkX_4 | exact lkX_d); rfl) rfl ?_
  refine j_getf (pc := 4) dX6_explainsAll_4 fl_X6_104 (by apply lkE; (with_reducible first | exact lkX_1 | exact lkX_27 | exact lkX_p | exact lkX_34 | exact lkX_35 | exact lkX_107 | exact lkX_125 | exact lkX_127 | exact lkX_28 | exact lkX_30 | exact lkX_32 | exact lkX_p1 | exact lkX_p3 | exact lkX_p5 | exact lkX_p7 | exact lkX_p9 | exact lkX_2 | exact lkX_109 | exact lkX_4 | exact lkX_d); rfl) rfl ?_
  refine j_iload_n (pc := 7) dX6_explainsAll_7 rfl ?_
  refine j_v1 (pc := 8) (ci := 3) dX6_explainsAll_8 mc_X3_sumOf ml_X6_126 im_X3_sumOf se_X3_sumOf rfl rfl (by apply lkE; (with_reducible first | exact lkX_1 | exact lkX_27 | exact lkX_p | exact lkX_34 | exact lkX_35 | exact lkX_107 | exact lkX_125 | exact lkX_127 | exact lkX_28 | exact lkX_30 | exact lkX_32 | exact lkX_p1 | exact lkX_p3 | exact lkX_p5 | exact lkX_p7 | exact lkX_p9 | exact lkX_2 | exact lkX_109 | exact lkX_4 | exact lkX_d); rfl) (by omega) (c_sumOf (by apply lkE; (with_reducible first | exact lkX_p1 | exact lkX_p9); rfl) (by apply lkE; (with_reducible first | exact lkX_p2 | exact lkX_p10); rfl)) (Nat.le_of_ble_eq_true rfl) ?_
  refine j_istore_n (pc := 11) dX6_explainsAll_11 rfl (Nat.le_of_ble_eq_true rfl) rfl ?_
  refine j_iconst (pc := 12) dX6_explainsAll_12 kc_0 ?_
  refine j_istore_n (pc := 13) dX6_explainsAll_13 rfl (Nat.le_of_ble_eq_true rfl) rfl ?_
  exact xl_explainsAll htc hnt nt 0 (by omega) ⟨rfl, rfl⟩

set_option maxRecDepth 20000 in
set_option maxHeartbeats 1000000 in
theorem xl_setsWith {w : Int32} {nt : Nat} (htc : tc = nI nt) (hnt : nt ≤ 6) {ne : Nat} (hde : P.2.1 = nI ne) (hne : ne ≤ 6) : ∀ (m k : Nat) (a : Int32), k + m = 2 ^ ne → Q (some (.int (iter (swStep P S tb tr nt w) m k a))) (W1 scr tl lt lc rd sw P D S kk nx ring bu im kept tb tr tc ts) → J g mX6_setsWith 3 0 0 Q (W1 scr tl lt lc rd sw P D S kk nx ring bu im kept tb tr tc ts) 4 [some (.ref 1), some (.int w), some (.int a), some (.int (nI k))] [] := by
  have two := two_le hne
  intro m
  induction m with
  | zero =>
    intro k a hk hq
    refine j_iload_n (pc := 4) dX6_setsWith_4 rfl ?_
    refine j_aload_n (pc := 5) dX6_setsWith_5 rfl ?_
    refine j_getf (pc := 6) dX6_setsWith_6 fl_X6_30 (by apply lkE; (with_reducible first | exact lkX_1 | exact lkX_27 | exact lkX_p | exact lkX_34 | exact lkX_35 | exact lkX_107 | exact lkX_125 | exact lkX_127 | exact lkX_28 | exact lkX_30 | exact lkX_32 | exact lkX_p1 | exact lkX_p3 | exact lkX_p5 | exact lkX_p7 | exact lkX_p9 | exact lkX_2 | exact lkX_109 | exact lkX_4 | exact lkX_d); rfl) rfl ?_
    refine j_getf (pc := 9) dX6_setsWith_9 fl_X6_214 (by apply lkE; (with_reducible first | exact lkX_1 | exact lkX_27 | exact lkX_p | exact lkX_34 | exact lkX_35 | exact lkX_107 | exact lkX_125 | exact lkX_127 | exact lkX_28 | exact lkX_30 | exact lkX_32 | exact lkX_p1 | exact lkX_p3 | exact lkX_p5 | exact lkX_p7 | exact lkX_p9 | exact lkX_2 | exact lkX_109 | exact lkX_4 | exact lkX_d); rfl) rfl ?_
    refine j_s1 (pc := 12) dX6_setsWith_12 mc_X6_allOf ml_X6_195 sm_X6_allOf (by omega) (c_allOf) (Nat.le_of_ble_eq_true rfl) ?_
    refine j_icmp_gt (pc := 15) (tgt := 42) dX6_setsWith_15 rfl (fun _ => ?_) (fun zc15 => absurd (by rw [hde, allI_nI hne]; exact nI_lt (by omega) (by omega)) zc15)
    refine j_iload_n (pc := 42) dX6_setsWith_42 rfl ?_
    refine j_ireturn (pc := 43) dX6_setsWith_43 rfl ?_
    exact hq
  | succ m ih =>
    intro k a hk hq
    refine j_iload_n (pc := 4) dX6_setsWith_4 rfl ?_
    refine j_aload_n (pc := 5) dX6_setsWith_5 rfl ?_
    refine j_getf (pc := 6) dX6_setsWith_6 fl_X6_30 (by apply lkE; (with_reducible first | exact lkX_1 | exact lkX_27 | exact lkX_p | exact lkX_34 | exact lkX_35 | exact lkX_107 | exact lkX_125 | exact lkX_127 | exact lkX_28 | exact lkX_30 | exact lkX_32 | exact lkX_p1 | exact lkX_p3 | exact lkX_p5 | exact lkX_p7 | exact lkX_p9 | exact lkX_2 | exact lkX_109 | exact lkX_4 | exact lkX_d); rfl) rfl ?_
    refine j_getf (pc := 9) dX6_setsWith_9 fl_X6_214 (by apply lkE; (with_reducible first | exact lkX_1 | exact lkX_27 | exact lkX_p | exact lkX_34 | exact lkX_35 | exact lkX_107 | exact lkX_125 | exact lkX_127 | exact lkX_28 | exact lkX_30 | exact lkX_32 | exact lkX_p1 | exact lkX_p3 | exact lkX_p5 | exact lkX_p7 | exact lkX_p9 | exact lkX_2 | exact lkX_109 | exact lkX_4 | exact lkX_d); rfl) rfl ?_
    refine j_s1 (pc := 12) dX6_setsWith_12 mc_X6_allOf ml_X6_195 sm_X6_allOf (by omega) (c_allOf) (Nat.le_of_ble_eq_true rfl) ?_
    refine j_icmp_gt (pc := 15) (tgt := 42) dX6_setsWith_15 rfl (fun zc15 => absurd zc15 (by rw [hde, allI_nI hne]; exact nI_nlt (by omega) (by omega))) (fun _ => ?_)
    refine j_iload_n (pc := 18) dX6_setsWith_18 rfl ?_
    refine j_iload_n (pc := 19) dX6_setsWith_19 rfl ?_
    refine j_iand (pc := 20) dX6_setsWith_20 ?_
    refine j_iload_n (pc := 21) dX6_setsWith_21 rfl ?_
    refine j_icmp_ne (pc := 22) (tgt := 36) dX6_setsWith_22 rfl (fun zc22 => ?_) (fun zc22 => ?_)
    · refine j_iinc (pc := 36) dX6_setsWith_36 rfl rfl (Nat.le_of_ble_eq_true rfl) rfl ?_
      refine j_goto (pc := 39) (tgt := 4) dX6_setsWith_39 rfl ?_
      rw [nI_s]
      refine ih (k + 1) _ (by omega) ?_
      simpa [iter, swStep, *, nI_s] using hq
    · refine j_aload_n (pc := 25) dX6_setsWith_25 rfl ?_
      refine j_iload_n (pc := 26) dX6_setsWith_26 rfl ?_
      refine j_v1 (pc := 27) (ci := 6) dX6_setsWith_27 mc_X6_explainsAll ml_X6_295 im_X6_explainsAll se_X6_explainsAll rfl rfl (by apply lkE; (with_reducible first | exact lkX_1 | exact lkX_27 | exact lkX_p | exact lkX_34 | exact lkX_35 | exact lkX_107 | exact lkX_125 | exact lkX_127 | exact lkX_28 | exact lkX_30 | exact lkX_32 | exact lkX_p1 | exact lkX_p3 | exact lkX_p5 | exact lkX_p7 | exact lkX_p9 | exact lkX_2 | exact lkX_109 | exact lkX_4 | exact lkX_d); rfl) (by omega) (x_explainsAll htc hnt) (Nat.le_of_ble_eq_true rfl) ?_
      refine j_beq (pc := 30) (tgt := 36) dX6_setsWith_30 rfl (fun zc30 => ?_) (fun zc30 => ?_)
      · refine j_iinc (pc := 36) dX6_setsWith_36 rfl rfl (Nat.le_of_ble_eq_true rfl) rfl ?_
        refine j_goto (pc := 39) (tgt := 4) dX6_setsWith_39 rfl ?_
        rw [nI_s]
        refine ih (k + 1) _ (by omega) ?_
        simpa [iter, swStep, *, nI_s] using hq
      · refine j_iinc (pc := 33) dX6_setsWith_33 rfl rfl (Nat.le_of_ble_eq_true rfl) rfl ?_
        refine j_iinc (pc := 36) dX6_setsWith_36 rfl rfl (Nat.le_of_ble_eq_true rfl) rfl ?_
        refine j_goto (pc := 39) (tgt := 4) dX6_setsWith_39 rfl ?_
        rw [nI_s]
        refine ih (k + 1) _ (by omega) ?_
        simpa [iter, swStep, *, nI_s] using hq

set_option maxRecDepth 20000 in
set_option maxHeartbeats 1000000 in
theorem x_setsWith {w : Int32} {nt : Nat} (htc : tc = nI nt) (hnt : nt ≤ 6) {ne : Nat} (hde : P.2.1 = nI ne) (hne : ne ≤ 6) : CD g 3 mX6_setsWith [.ref 1, .int w] (W1 scr tl lt lc rd sw P D S kk nx ring bu im kept tb tr tc ts) (some (.int (swI P S tb tr nt ne w))) (W1 scr tl lt lc rd sw P D S kk nx ring bu im kept tb tr tc ts) := by
  refine C.of (by decide +kernel) (by simp [Value.category]) (Nat.le_of_ble_eq_true rfl) ?_
  change J g mX6_setsWith 3 0 0 _ (W1 scr tl lt lc rd sw P D S kk nx ring bu im kept tb tr tc ts) 0 [some (.ref 1), some (.int w), none, none] []
  refine j_iconst (pc := 0) dX6_setsWith_0 kc_0 ?_
  refine j_istore_n (pc := 1) dX6_setsWith_1 rfl (Nat.le_of_ble_eq_true rfl) rfl ?_
  refine j_iconst (pc := 2) dX6_setsWith_2 kc_0 ?_
  refine j_istore_n (pc := 3) dX6_setsWith_3 rfl (Nat.le_of_ble_eq_true rfl) rfl ?_
  exact xl_setsWith htc hnt hde hne (2 ^ ne) 0 0 (by omega) ⟨rfl, rfl⟩

def daStep (P : ParV) (S : ScV) (tb tr : Fn) (nt ne : Nat) (all : Int32) (k : Nat) (a : Int32) : Int32 := if swI P S tb tr nt ne (bitI (nI k)) = all then a ||| bitI (nI k) else a
def daI (P : ParV) (S : ScV) (tb tr : Fn) (nt ne : Nat) : Int32 := if swI P S tb tr nt ne 0 = 0 then -9 else iter (daStep P S tb tr nt ne (swI P S tb tr nt ne 0)) ne 0 0
def dsStep (P : ParV) (S : ScV) (tb tr : Fn) (nt ne : Nat) (k : Nat) (a : Int32) : Int32 := if swI P S tb tr nt ne (bitI (nI k)) ≤ 0 then a else a ||| bitI (nI k)
/-- the best so far, and how much it is -/
def akStep (P : ParV) (S : ScV) (tb tr : Fn) (nt ne : Nat) (all : Int32) (k : Nat) (a : Int32 × Int32) : Int32 × Int32 :=
  if a.2 ≤ imax (swI P S tb tr nt ne (bitI (nI k))) (all - swI P S tb tr nt ne (bitI (nI k))) then a else (nI k, imax (swI P S tb tr nt ne (bitI (nI k))) (all - swI P S tb tr nt ne (bitI (nI k))))
def akI (P : ParV) (S : ScV) (tb tr : Fn) (nt ne : Nat) : Int32 := if 1 < swI P S tb tr nt ne 0 then (iter (akStep P S tb tr nt ne (swI P S tb tr nt ne 0)) ne 0 (-9, swI P S tb tr nt ne 0 + 1)).1 else -9
set_option maxRecDepth 20000 in
set_option maxHeartbeats 1000000 in
theorem xl_deedsInAll {al : Int32} {nt : Nat} (htc : tc = nI nt) (hnt : nt ≤ 6) {ne : Nat} (hde : P.2.1 = nI ne) (hne : ne ≤ 6) : ∀ (m k : Nat) (a : Int32), k + m = ne → Q (some (.int (iter (daStep P S tb tr nt ne al) m k a))) (W1 scr tl lt lc rd sw P D S kk nx ring bu im kept tb tr tc ts) → J g mX6_deedsInAllSets 4 0 0 Q (W1 scr tl lt lc rd sw P D S kk nx ring bu im kept tb tr tc ts) 17 [some (.ref 1), some (.int al), some (.int a), some (.int (nI k))] [] := by
  intro m
  induction m with
  | zero =>
    intro k a hk hq
    refine j_iload_n (pc := 17) dX6_deedsInAllSets_17 rfl ?_
    refine j_aload_n (pc := 18) dX6_deedsInAllSets_18 rfl ?_
    refine j_getf (pc := 19) dX6_deedsInAllSets_19 fl_X6_30 (by apply lkE; (with_reducible first | exact lkX_1 | exact lkX_27 | exact lkX_p | exact lkX_34 | exact lkX_35 | exact lkX_107 | exact lkX_125 | exact lkX_127 | exact lkX_28 | exact lkX_30 | exact lkX_32 | exact lkX_p1 | exact lkX_p3 | exact lkX_p5 | exact lkX_p7 | exact lkX_p9 | exact lkX_2 | exact lkX_109 | exact lkX_4 | exact lkX_d); rfl) rfl ?_
    refine j_getf (pc := 22) dX6_deedsInAllSets_22 fl_X6_214 (by apply lkE; (with_reducible first | exact lkX_1 | exact lkX_27 | exact lkX_p | exact lkX_34 | exact lkX_35 | exact lkX_107 | exact lkX_125 | exact lkX_127 | exact lkX_28 | exact lkX_30 | exact lkX_32 | exact lkX_p1 | exact lkX_p3 | exact lkX_p5 | exact lkX_p7 | exact lkX_p9 | exact lkX_2 | exact lkX_109 | exact lkX_4 | exact lkX_d); rfl) rfl ?_
    refine j_icmp_ge (pc := 25) (tgt := 53) dX6_deedsInAllSets_25 rfl (fun _ => ?_) (fun zc25 => absurd (by rw [hde]; exact nI_le (by omega) (by omega)) zc25)
    refine j_iload_n (pc := 53) dX6_deedsInAllSets_53 rfl ?_
    refine j_ireturn (pc := 54) dX6_deedsInAllSets_54 rfl ?_
    exact hq
  | succ m ih =>
    intro k a hk hq
    refine j_iload_n (pc := 17) dX6_deedsInAllSets_17 rfl ?_
    refine j_aload_n (pc := 18) dX6_deedsInAllSets_18 rfl ?_
    refine j_getf (pc := 19) dX6_deedsInAllSets_19 fl_X6_30 (by apply lkE; (with_reducible first | exact lkX_1 | exact lkX_27 | exact lkX_p | exact lkX_34 | exact lkX_35 | exact lkX_107 | exact lkX_125 | exact lkX_127 | exact lkX_28 | exact lkX_30 | exact lkX_32 | exact lkX_p1 | exact lkX_p3 | exact lkX_p5 | exact lkX_p7 | exact lkX_p9 | exact lkX_2 | exact lkX_109 | exact lkX_4 | exact lkX_d); rfl) rfl ?_
    refine j_getf (pc := 22) dX6_deedsInAllSets_22 fl_X6_214 (by apply lkE; (with_reducible first | exact lkX_1 | exact lkX_27 | exact lkX_p | exact lkX_34 | exact lkX_35 | exact lkX_107 | exact lkX_125 | exact lkX_127 | exact lkX_28 | exact lkX_30 | exact lkX_32 | exact lkX_p1 | exact lkX_p3 | exact lkX_p5 | exact lkX_p7 | exact lkX_p9 | exact lkX_2 | exact lkX_109 | exact lkX_4 | exact lkX_d); rfl) rfl ?_
    refine j_icmp_ge (pc := 25) (tgt := 53) dX6_deedsInAllSets_25 rfl (fun zc25 => absurd zc25 (by rw [hde]; exact nI_ge (by omega) (by omega))) (fun _ => ?_)
    refine j_aload_n (pc := 28) dX6_deedsInAllSets_28 rfl ?_
    refine j_iload_n (pc := 29) dX6_deedsInAllSets_29 rfl ?_
    refine j_s1 (pc := 30) dX6_deedsInAllSets_30 mc_X6_bit ml_X6_178 sm_X6_bit (by omega) (c_bit) (Nat.le_of_ble_eq_true rfl) ?_
    refine j_v1 (pc := 33) (ci := 6) dX6_deedsInAllSets_33 mc_X6_setsWith ml_X6_205 im_X6_setsWith se_X6_setsWith rfl rfl (by apply lkE; (with_reducible first | exact lkX_1 | exact lkX_27 | exact lkX_p | exact lkX_34 | exact lkX_35 | exact lkX_107 | exact lkX_125 | exact lkX_127 | exact lkX_28 | exact lkX_30 | exact lkX_32 | exact lkX_p1 | exact lkX_p3 | exact lkX_p5 | exact lkX_p7 | exact lkX_p9 | exact lkX_2 | exact lkX_109 | exact lkX_4 | exact lkX_d); rfl) (by omega) (x_setsWith htc hnt hde hne) (Nat.le_of_ble_eq_true rfl) ?_
    refine j_iload_n (pc := 36) dX6_deedsInAllSets_36 rfl ?_
    refine j_icmp_ne (pc := 37) (tgt := 47) dX6_deedsInAllSets_37 rfl (fun zc37 => ?_) (fun zc37 => ?_)
    · refine j_iinc (pc := 47) dX6_deedsInAllSets_47 rfl rfl (Nat.le_of_ble_eq_true rfl) rfl ?_
      refine j_goto (pc := 50) (tgt := 17) dX6_deedsInAllSets_50 rfl ?_
      rw [nI_s]
      refine ih (k + 1) _ (by omega) ?_
      simpa [iter, daStep, *] using hq
    · refine j_iload_n (pc := 40) dX6_deedsInAllSets_40 rfl ?_
      refine j_iload_n (pc := 41) dX6_deedsInAllSets_41 rfl ?_
      refine j_s1 (pc := 42) dX6_deedsInAllSets_42 mc_X6_bit ml_X6_178 sm_X6_bit (by omega) (c_bit) (Nat.le_of_ble_eq_true rfl) ?_
      refine j_ior (pc := 45) dX6_deedsInAllSets_45 ?_
      refine j_istore_n (pc := 46) dX6_deedsInAllSets_46 rfl (Nat.le_of_ble_eq_true rfl) rfl ?_
      refine j_iinc (pc := 47) dX6_deedsInAllSets_47 rfl rfl (Nat.le_of_ble_eq_true rfl) rfl ?_
      refine j_goto (pc := 50) (tgt := 17) dX6_deedsInAllSets_50 rfl ?_
      rw [nI_s]
      refine ih (k + 1) _ (by omega) ?_
      simpa [iter, daStep, *] using hq

set_option maxRecDepth 20000 in
set_option maxHeartbeats 1000000 in
theorem x_deedsInAll {nt : Nat} (htc : tc = nI nt) (hnt : nt ≤ 6) {ne : Nat} (hde : P.2.1 = nI ne) (hne : ne ≤ 6) : CD g 4 mX6_deedsInAllSets [.ref 1] (W1 scr tl lt lc rd sw P D S kk nx ring bu im kept tb tr tc ts) (some (.int (daI P S tb tr nt ne))) (W1 scr tl lt lc rd sw P D S kk nx ring bu im kept tb tr tc ts) := by
  refine C.of (by decide +kernel) (by simp [Value.category]) (Nat.le_of_ble_eq_true rfl) ?_
  change J g mX6_deedsInAllSets 4 0 0 _ (W1 scr tl lt lc rd sw P D S kk nx ring bu im kept tb tr tc ts) 0 [some (.ref 1), none, none, none] []
  refine j_aload_n (pc := 0) dX6_deedsInAllSets_0 rfl ?_
  refine j_iconst (pc := 1) dX6_deedsInAllSets_1 kc_0 ?_
  refine j_v1 (pc := 2) (ci := 6) dX6_deedsInAllSets_2 mc_X6_setsWith ml_X6_205 im_X6_setsWith se_X6_setsWith rfl rfl (by apply lkE; (with_reducible first | exact lkX_1 | exact lkX_27 | exact lkX_p | exact lkX_34 | exact lkX_35 | exact lkX_107 | exact lkX_125 | exact lkX_127 | exact lkX_28 | exact lkX_30 | exact lkX_32 | exact lkX_p1 | exact lkX_p3 | exact lkX_p5 | exact lkX_p7 | exact lkX_p9 | exact lkX_2 | exact lkX_109 | exact lkX_4 | exact lkX_d); rfl) (by omega) (x_setsWith htc hnt hde hne) (Nat.le_of_ble_eq_true rfl) ?_
  refine j_istore_n (pc := 5) dX6_deedsInAllSets_5 rfl (Nat.le_of_ble_eq_true rfl) rfl ?_
  refine j_iload_n (pc := 6) dX6_deedsInAllSets_6 rfl ?_
  refine j_if_ne (pc := 7) (tgt := 13) dX6_deedsInAllSets_7 rfl (fun zc7 => ?_) (fun zc7 => ?_)
  · refine j_iconst (pc := 13) dX6_deedsInAllSets_13 kc_0 ?_
    refine j_istore_n (pc := 14) dX6_deedsInAllSets_14 rfl (Nat.le_of_ble_eq_true rfl) rfl ?_
    refine j_iconst (pc := 15) dX6_deedsInAllSets_15 kc_0 ?_
    refine j_istore_n (pc := 16) dX6_deedsInAllSets_16 rfl (Nat.le_of_ble_eq_true rfl) rfl ?_
    exact xl_deedsInAll htc hnt hde hne ne 0 0 (by omega) ⟨by simp [daI, *], rfl⟩
  · refine j_bipush (pc := 10) dX6_deedsInAllSets_10 kb_m9 ?_
    refine j_ireturn (pc := 12) dX6_deedsInAllSets_12 rfl ?_
    exact ⟨by simp [daI, *], rfl⟩

set_option maxRecDepth 20000 in
set_option maxHeartbeats 1000000 in
theorem xl_deedsInSome {nt : Nat} (htc : tc = nI nt) (hnt : nt ≤ 6) {ne : Nat} (hde : P.2.1 = nI ne) (hne : ne ≤ 6) : ∀ (m k : Nat) (a : Int32), k + m = ne → Q (some (.int (iter (dsStep P S tb tr nt ne) m k a))) (W1 scr tl lt lc rd sw P D S kk nx ring bu im kept tb tr tc ts) → J g mX6_deedsInSomeSets 4 0 0 Q (W1 scr tl lt lc rd sw P D S kk nx ring bu im kept tb tr tc ts) 4 [some (.ref 1), some (.int a), some (.int (nI k))] [] := by
  intro m
  induction m with
  | zero =>
    intro k a hk hq
    refine j_iload_n (pc := 4) dX6_deedsInSomeSets_4 rfl ?_
    refine j_aload_n (pc := 5) dX6_deedsInSomeSets_5 rfl ?_
    refine j_getf (pc := 6) dX6_deedsInSomeSets_6 fl_X6_30 (by apply lkE; (with_reducible first | exact lkX_1 | exact lkX_27 | exact lkX_p | exact lkX_34 | exact lkX_35 | exact lkX_107 | exact lkX_125 | exact lkX_127 | exact lkX_28 | exact lkX_30 | exact lkX_32 | exact lkX_p1 | exact lkX_p3 | exact lkX_p5 | exact lkX_p7 | exact lkX_p9 | exact lkX_2 | exact lkX_109 | exact lkX_4 | exact lkX_d); rfl) rfl ?_
    refine j_getf (pc := 9) dX6_deedsInSomeSets_9 fl_X6_214 (by apply lkE; (with_reducible first | exact lkX_1 | exact lkX_27 | exact lkX_p | exact lkX_34 | exact lkX_35 | exact lkX_107 | exact lkX_125 | exact lkX_127 | exact lkX_28 | exact lkX_30 | exact lkX_32 | exact lkX_p1 | exact lkX_p3 | exact lkX_p5 | exact lkX_p7 | exact lkX_p9 | exact lkX_2 | exact lkX_109 | exact lkX_4 | exact lkX_d); rfl) rfl ?_
    refine j_icmp_ge (pc := 12) (tgt := 39) dX6_deedsInSomeSets_12 rfl (fun _ => ?_) (fun zc12 => absurd (by rw [hde]; exact nI_le (by omega) (by omega)) zc12)
    refine j_iload_n (pc := 39) dX6_deedsInSomeSets_39 rfl ?_
    refine j_ireturn (pc := 40) dX6_deedsInSomeSets_40 rfl ?_
    exact hq
  | succ m ih =>
    intro k a hk hq
    refine j_iload_n (pc := 4) dX6_deedsInSomeSets_4 rfl ?_
    refine j_aload_n (pc := 5) dX6_deedsInSomeSets_5 rfl ?_
    refine j_getf (pc := 6) dX6_deedsInSomeSets_6 fl_X6_30 (by apply lkE; (with_reducible first | exact lkX_1 | exact lkX_27 | exact lkX_p | exact lkX_34 | exact lkX_35 | exact lkX_107 | exact lkX_125 | exact lkX_127 | exact lkX_28 | exact lkX_30 | exact lkX_32 | exact lkX_p1 | exact lkX_p3 | exact lkX_p5 | exact lkX_p7 | exact lkX_p9 | exact lkX_2 | exact lkX_109 | exact lkX_4 | exact lkX_d); rfl) rfl ?_
    refine j_getf (pc := 9) dX6_deedsInSomeSets_9 fl_X6_214 (by apply lkE; (with_reducible first | exact lkX_1 | exact lkX_27 | exact lkX_p | exact lkX_34 | exact lkX_35 | exact lkX_107 | exact lkX_125 | exact lkX_127 | exact lkX_28 | exact lkX_30 | exact lkX_32 | exact lkX_p1 | exact lkX_p3 | exact lkX_p5 | exact lkX_p7 | exact lkX_p9 | exact lkX_2 | exact lkX_109 | exact lkX_4 | exact lkX_d); rfl) rfl ?_
    refine j_icmp_ge (pc := 12) (tgt := 39) dX6_deedsInSomeSets_12 rfl (fun zc12 => absurd zc12 (by rw [hde]; exact nI_ge (by omega) (by omega))) (fun _ => ?_)
    refine j_aload_n (pc := 15) dX6_deedsInSomeSets_15 rfl ?_
    refine j_iload_n (pc := 16) dX6_deedsInSomeSets_16 rfl ?_
    refine j_s1 (pc := 17) dX6_deedsInSomeSets_17 mc_X6_bit ml_X6_178 sm_X6_bit (by omega) (c_bit) (Nat.le_of_ble_eq_true rfl) ?_
    refine j_v1 (pc := 20) (ci := 6) dX6_deedsInSomeSets_20 mc_X6_setsWith ml_X6_205 im_X6_setsWith se_X6_setsWith rfl rfl (by apply lkE; (with_reducible first | exact lkX_1 | exact lkX_27 | exact lkX_p | exact lkX_34 | exact lkX_35 | exact lkX_107 | exact lkX_125 | exact lkX_127 | exact lkX_28 | exact lkX_30 | exact lkX_32 | exact lkX_p1 | exact lkX_p3 | exact lkX_p5 | exact lkX_p7 | exact lkX_p9 | exact lkX_2 | exact lkX_109 | exact lkX_4 | exact lkX_d); rfl) (by omega) (x_setsWith htc hnt hde hne) (Nat.le_of_ble_eq_true rfl) ?_
    refine j_if_le (pc := 23) (tgt := 33) dX6_deedsInSomeSets_23 rfl (fun zc23 => ?_) (fun zc23 => ?_)
    · refine j_iinc (pc := 33) dX6_deedsInSomeSets_33 rfl rfl (Nat.le_of_ble_eq_true rfl) rfl ?_
      refine j_goto (pc := 36) (tgt := 4) dX6_deedsInSomeSets_36 rfl ?_
      rw [nI_s]
      refine ih (k + 1) _ (by omega) ?_
      simpa [iter, dsStep, *] using hq
    · refine j_iload_n (pc := 26) dX6_deedsInSomeSets_26 rfl ?_
      refine j_iload_n (pc := 27) dX6_deedsInSomeSets_27 rfl ?_
      refine j_s1 (pc := 28) dX6_deedsInSomeSets_28 mc_X6_bit ml_X6_178 sm_X6_bit (by omega) (c_bit) (Nat.le_of_ble_eq_true rfl) ?_
      refine j_ior (pc := 31) dX6_deedsInSomeSets_31 ?_
      refine j_istore_n (pc := 32) dX6_deedsInSomeSets_32 rfl (Nat.le_of_ble_eq_true rfl) rfl ?_
      refine j_iinc (pc := 33) dX6_deedsInSomeSets_33 rfl rfl (Nat.le_of_ble_eq_true rfl) rfl ?_
      refine j_goto (pc := 36) (tgt := 4) dX6_deedsInSomeSets_36 rfl ?_
      rw [nI_s]
      refine ih (k + 1) _ (by omega) ?_
      simpa [iter, dsStep, *] using hq

set_option maxRecDepth 20000 in
set_option maxHeartbeats 1000000 in
theorem x_deedsInSome {nt : Nat} (htc : tc = nI nt) (hnt : nt ≤ 6) {ne : Nat} (hde : P.2.1 = nI ne) (hne : ne ≤ 6) : CD g 4 mX6_deedsInSomeSets [.ref 1] (W1 scr tl lt lc rd sw P D S kk nx ring bu im kept tb tr tc ts) (some (.int (iter (dsStep P S tb tr nt ne) ne 0 0))) (W1 scr tl lt lc rd sw P D S kk nx ring bu im kept tb tr tc ts) := by
  refine C.of (by decide +kernel) (by simp [Value.category]) (Nat.le_of_ble_eq_true rfl) ?_
  change J g mX6_deedsInSomeSets 4 0 0 _ (W1 scr tl lt lc rd sw P D S kk nx ring bu im kept tb tr tc ts) 0 [some (.ref 1), none, none] []
  refine j_iconst (pc := 0) dX6_deedsInSomeSets_0 kc_0 ?_
  refine j_istore_n (pc := 1) dX6_deedsInSomeSets_1 rfl (Nat.le_of_ble_eq_true rfl) rfl ?_
  refine j_iconst (pc := 2) dX6_deedsInSomeSets_2 kc_0 ?_
  refine j_istore_n (pc := 3) dX6_deedsInSomeSets_3 rfl (Nat.le_of_ble_eq_true rfl) rfl ?_
  exact xl_deedsInSome htc hnt hde hne ne 0 0 (by omega) ⟨rfl, rfl⟩

set_option maxRecDepth 20000 in
set_option maxHeartbeats 1000000 in
theorem xl_ask {al : Int32} {nt : Nat} (htc : tc = nI nt) (hnt : nt ≤ 6) {ne : Nat} (hde : P.2.1 = nI ne) (hne : ne ≤ 6) : ∀ (m k : Nat) (a : Int32) (b : Int32), k + m = ne → Q (some (.int (iter (akStep P S tb tr nt ne al) m k (a, b)).1)) (W1 scr tl lt lc rd sw P D S kk nx ring bu im kept tb tr tc ts) → J g mX6_ask 4 0 0 Q (W1 scr tl lt lc rd sw P D S kk nx ring bu im kept tb tr tc ts) 24 [some (.ref 1), some (.int al), some (.int a), some (.int b), some (.int (nI k)), none, none] [] := by
  intro m
  induction m with
  | zero =>
    intro k a b hk hq
    refine j_iload (pc := 24) dX6_ask_24 rfl ?_
    refine j_aload_n (pc := 26) dX6_ask_26 rfl ?_
    refine j_getf (pc := 27) dX6_ask_27 fl_X6_30 (by apply lkE; (with_reducible first | exact lkX_1 | exact lkX_27 | exact lkX_p | exact lkX_34 | exact lkX_35 | exact lkX_107 | exact lkX_125 | exact lkX_127 | exact lkX_28 | exact lkX_30 | exact lkX_32 | exact lkX_p1 | exact lkX_p3 | exact lkX_p5 | exact lkX_p7 | exact lkX_p9 | exact lkX_2 | exact lkX_109 | exact lkX_4 | exact lkX_d); rfl) rfl ?_
    refine j_getf (pc := 30) dX6_ask_30 fl_X6_214 (by apply lkE; (with_reducible first | exact lkX_1 | exact lkX_27 | exact lkX_p | exact lkX_34 | exact lkX_35 | exact lkX_107 | exact lkX_125 | exact lkX_127 | exact lkX_28 | exact lkX_30 | exact lkX_32 | exact lkX_p1 | exact lkX_p3 | exact lkX_p5 | exact lkX_p7 | exact lkX_p9 | exact lkX_2 | exact lkX_109 | exact lkX_4 | exact lkX_d); rfl) rfl ?_
    refine j_icmp_ge (pc := 33) (tgt := 76) dX6_ask_33 rfl (fun _ => ?_) (fun zc33 => absurd (by rw [hde]; exact nI_le (by omega) (by omega)) zc33)
    refine j_iload_n (pc := 76) dX6_ask_76 rfl ?_
    refine j_ireturn (pc := 77) dX6_ask_77 rfl ?_
    exact hq
  | succ m ih =>
    intro k a b hk hq
    refine j_iload (pc := 24) dX6_ask_24 rfl ?_
    refine j_aload_n (pc := 26) dX6_ask_26 rfl ?_
    refine j_getf (pc := 27) dX6_ask_27 fl_X6_30 (by apply lkE; (with_reducible first | exact lkX_1 | exact lkX_27 | exact lkX_p | exact lkX_34 | exact lkX_35 | exact lkX_107 | exact lkX_125 | exact lkX_127 | exact lkX_28 | exact lkX_30 | exact lkX_32 | exact lkX_p1 | exact lkX_p3 | exact lkX_p5 | exact lkX_p7 | exact lkX_p9 | exact lkX_2 | exact lkX_109 | exact lkX_4 | exact lkX_d); rfl) rfl ?_
    refine j_getf (pc := 30) dX6_ask_30 fl_X6_214 (by apply lkE; (with_reducible first | exact lkX_1 | exact lkX_27 | exact lkX_p | exact lkX_34 | exact lkX_35 | exact lkX_107 | exact lkX_125 | exact lkX_127 | exact lkX_28 | exact lkX_30 | exact lkX_32 | exact lkX_p1 | exact lkX_p3 | exact lkX_p5 | exact lkX_p7 | exact lkX_p9 | exact lkX_2 | exact lkX_109 | exact lkX_4 | exact lkX_d); rfl) rfl ?_
    refine j_icmp_ge (pc := 33) (tgt := 76) dX6_ask_33 rfl (fun zc33 => absurd zc33 (by rw [hde]; exact nI_ge (by omega) (by omega))) (fun _ => ?_)
    refine j_aload_n (pc := 36) dX6_ask_36 rfl ?_
    refine j_iload (pc := 37) dX6_ask_37 rfl ?_
    refine j_s1 (pc := 39) dX6_ask_39 mc_X6_bit ml_X6_178 sm_X6_bit (by omega) (c_bit) (Nat.le_of_ble_eq_true rfl) ?_
    refine j_v1 (pc := 42) (ci := 6) dX6_ask_42 mc_X6_setsWith ml_X6_205 im_X6_setsWith se_X6_setsWith rfl rfl (by apply lkE; (with_reducible first | exact lkX_1 | exact lkX_27 | exact lkX_p | exact lkX_34 | exact lkX_35 | exact lkX_107 | exact lkX_125 | exact lkX_127 | exact lkX_28 | exact lkX_30 | exact lkX_32 | exact lkX_p1 | exact lkX_p3 | exact lkX_p5 | exact lkX_p7 | exact lkX_p9 | exact lkX_2 | exact lkX_109 | exact lkX_4 | exact lkX_d); rfl) (by omega) (x_setsWith htc hnt hde hne) (Nat.le_of_ble_eq_true rfl) ?_
    refine j_istore (pc := 45) dX6_ask_45 (Nat.le_of_ble_eq_true rfl) rfl ?_
    refine j_iload (pc := 47) dX6_ask_47 rfl ?_
    refine j_iload_n (pc := 49) dX6_ask_49 rfl ?_
    refine j_iload (pc := 50) dX6_ask_50 rfl ?_
    refine j_isub (pc := 52) dX6_ask_52 ?_
    refine j_max (pc := 53) dX6_ask_53 ml_X6_217 (by omega) (Nat.le_of_ble_eq_true rfl) ?_
    refine j_istore (pc := 56) dX6_ask_56 (Nat.le_of_ble_eq_true rfl) rfl ?_
    refine j_iload (pc := 58) dX6_ask_58 rfl ?_
    refine j_iload_n (pc := 60) dX6_ask_60 rfl ?_
    refine j_icmp_ge (pc := 61) (tgt := 70) dX6_ask_61 rfl (fun zc61 => ?_) (fun zc61 => ?_)
    · refine j_iinc (pc := 70) dX6_ask_70 rfl rfl (Nat.le_of_ble_eq_true rfl) rfl ?_
      refine j_goto (pc := 73) (tgt := 24) dX6_ask_73 rfl ?_
      rw [nI_s]
      refine j_weak (ls' := [some _, some _, some _, some _, some _, none, none]) ⟨rfl, rfl, rfl, rfl, rfl, trivial⟩ ?_
      refine ih (k + 1) _ _ (by omega) ?_
      simpa [iter, akStep, *] using hq
    · refine j_iload (pc := 64) dX6_ask_64 rfl ?_
      refine j_istore_n (pc := 66) dX6_ask_66 rfl (Nat.le_of_ble_eq_true rfl) rfl ?_
      refine j_iload (pc := 67) dX6_ask_67 rfl ?_
      refine j_istore_n (pc := 69) dX6_ask_69 rfl (Nat.le_of_ble_eq_true rfl) rfl ?_
      refine j_iinc (pc := 70) dX6_ask_70 rfl rfl (Nat.le_of_ble_eq_true rfl) rfl ?_
      refine j_goto (pc := 73) (tgt := 24) dX6_ask_73 rfl ?_
      rw [nI_s]
      refine j_weak (ls' := [some _, some _, some _, some _, some _, none, none]) ⟨rfl, rfl, rfl, rfl, rfl, trivial⟩ ?_
      refine ih (k + 1) _ _ (by omega) ?_
      simpa [iter, akStep, *] using hq

set_option maxRecDepth 20000 in
set_option maxHeartbeats 1000000 in
theorem x_ask {nt : Nat} (htc : tc = nI nt) (hnt : nt ≤ 6) {ne : Nat} (hde : P.2.1 = nI ne) (hne : ne ≤ 6) : CD g 4 mX6_ask [.ref 1] (W1 scr tl lt lc rd sw P D S kk nx ring bu im kept tb tr tc ts) (some (.int (akI P S tb tr nt ne))) (W1 scr tl lt lc rd sw P D S kk nx ring bu im kept tb tr tc ts) := by
  refine C.of (by decide +kernel) (by simp [Value.category]) (Nat.le_of_ble_eq_true rfl) ?_
  change J g mX6_ask 4 0 0 _ (W1 scr tl lt lc rd sw P D S kk nx ring bu im kept tb tr tc ts) 0 [some (.ref 1), none, none, none, none, none, none] []
  refine j_aload_n (pc := 0) dX6_ask_0 rfl ?_
  refine j_iconst (pc := 1) dX6_ask_1 kc_0 ?_
  refine j_v1 (pc := 2) (ci := 6) dX6_ask_2 mc_X6_setsWith ml_X6_205 im_X6_setsWith se_X6_setsWith rfl rfl (by apply lkE; (with_reducible first | exact lkX_1 | exact lkX_27 | exact lkX_p | exact lkX_34 | exact lkX_35 | exact lkX_107 | exact lkX_125 | exact lkX_127 | exact lkX_28 | exact lkX_30 | exact lkX_32 | exact lkX_p1 | exact lkX_p3 | exact lkX_p5 | exact lkX_p7 | exact lkX_p9 | exact lkX_2 | exact lkX_109 | exact lkX_4 | exact lkX_d); rfl) (by omega) (x_setsWith htc hnt hde hne) (Nat.le_of_ble_eq_true rfl) ?_
  refine j_istore_n (pc := 5) dX6_ask_5 rfl (Nat.le_of_ble_eq_true rfl) rfl ?_
  refine j_iload_n (pc := 6) dX6_ask_6 rfl ?_
  refine j_iconst (pc := 7) dX6_ask_7 kc_1 ?_
  refine j_icmp_gt (pc := 8) (tgt := 14) dX6_ask_8 rfl (fun zc8 => ?_) (fun zc8 => ?_)
  · refine j_bipush (pc := 14) dX6_ask_14 kb_m9 ?_
    refine j_istore_n (pc := 16) dX6_ask_16 rfl (Nat.le_of_ble_eq_true rfl) rfl ?_
    refine j_iload_n (pc := 17) dX6_ask_17 rfl ?_
    refine j_iconst (pc := 18) dX6_ask_18 kc_1 ?_
    refine j_iadd (pc := 19) dX6_ask_19 ?_
    refine j_istore_n (pc := 20) dX6_ask_20 rfl (Nat.le_of_ble_eq_true rfl) rfl ?_
    refine j_iconst (pc := 21) dX6_ask_21 kc_0 ?_
    refine j_istore (pc := 22) dX6_ask_22 (Nat.le_of_ble_eq_true rfl) rfl ?_
    exact xl_ask htc hnt hde hne ne 0 (-9) _ (by omega) ⟨by simp [akI, *], rfl⟩
  · refine j_bipush (pc := 11) dX6_ask_11 kb_m9 ?_
    refine j_ireturn (pc := 13) dX6_ask_13 rfl ?_
    exact ⟨by simp [akI, *], rfl⟩

end
end
