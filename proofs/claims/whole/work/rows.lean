section
-- ===== PART A: goes FIRST, ahead of the names: the tables' words, and 'selects' of the private methods out of them =====
/-- a private method of a class that the tables say can be made, by its rows of tables_1 -/
def lw_okq (q : MethodName × Nat) : Prop := (q.1.cls ≠ "java/lang/invoke/MethodHandle" ∧ q.1.cls ≠ "java/lang/invoke/VarHandle") ∧ Cond.instantiable q.1.cls q.2 ∈ tables_1 ∧ Cond.privateMethod q.1 ∈ tables_1 ∧ Cond.instanceMethod q.1 ∈ tables_1
theorem lw_p0 : lw_okq (⟨"LychWeights$Reader", "step", "()V"⟩, 9) := ⟨⟨by decide +kernel, by decide +kernel⟩, List.mem_of_getElem? (i := 34) (by decide +kernel), List.mem_of_getElem? (i := 281) (by decide +kernel), List.mem_of_getElem? (i := 282) (by decide +kernel)⟩
theorem lw_p1 : lw_okq (⟨"LychWeights$Reader", "stepNumber", "()V"⟩, 9) := ⟨⟨by decide +kernel, by decide +kernel⟩, List.mem_of_getElem? (i := 34) (by decide +kernel), List.mem_of_getElem? (i := 289) (by decide +kernel), List.mem_of_getElem? (i := 290) (by decide +kernel)⟩
theorem lw_p2 : lw_okq (⟨"LychWeights$Reader", "readDeed", "(LLychWeights$Parish;)V"⟩, 9) := ⟨⟨by decide +kernel, by decide +kernel⟩, List.mem_of_getElem? (i := 34) (by decide +kernel), List.mem_of_getElem? (i := 296) (by decide +kernel), List.mem_of_getElem? (i := 297) (by decide +kernel)⟩
theorem lw_p3 : lw_okq (⟨"LychWeights$Reader", "open", "(Z)V"⟩, 9) := ⟨⟨by decide +kernel, by decide +kernel⟩, List.mem_of_getElem? (i := 34) (by decide +kernel), List.mem_of_getElem? (i := 300) (by decide +kernel), List.mem_of_getElem? (i := 301) (by decide +kernel)⟩
theorem lw_p4 : lw_okq (⟨"LychWeights$Reader", "number", "(II)I"⟩, 9) := ⟨⟨by decide +kernel, by decide +kernel⟩, List.mem_of_getElem? (i := 34) (by decide +kernel), List.mem_of_getElem? (i := 304) (by decide +kernel), List.mem_of_getElem? (i := 305) (by decide +kernel)⟩
theorem lw_p5 : lw_okq (⟨"LychWeights$Reader", "close", "(LLychWeights$Parish;)V"⟩, 9) := ⟨⟨by decide +kernel, by decide +kernel⟩, List.mem_of_getElem? (i := 34) (by decide +kernel), List.mem_of_getElem? (i := 309) (by decide +kernel), List.mem_of_getElem? (i := 310) (by decide +kernel)⟩
theorem lw_p6 : lw_okq (⟨"LychWeights$Reader", "readDead", "(LLychWeights$Parish;)V"⟩, 9) := ⟨⟨by decide +kernel, by decide +kernel⟩, List.mem_of_getElem? (i := 34) (by decide +kernel), List.mem_of_getElem? (i := 318) (by decide +kernel), List.mem_of_getElem? (i := 319) (by decide +kernel)⟩
theorem lw_p7 : lw_okq (⟨"LychWeights$Reader", "readDone", "(LLychWeights$Parish;)I"⟩, 9) := ⟨⟨by decide +kernel, by decide +kernel⟩, List.mem_of_getElem? (i := 34) (by decide +kernel), List.mem_of_getElem? (i := 322) (by decide +kernel), List.mem_of_getElem? (i := 323) (by decide +kernel)⟩
theorem lw_p8 : lw_okq (⟨"LychWeights$Reader", "mayBeDone", "(LLychWeights$Parish;I)Z"⟩, 9) := ⟨⟨by decide +kernel, by decide +kernel⟩, List.mem_of_getElem? (i := 34) (by decide +kernel), List.mem_of_getElem? (i := 326) (by decide +kernel), List.mem_of_getElem? (i := 327) (by decide +kernel)⟩
theorem lw_p9 : lw_okq (⟨"LychWeights$Reader", "readBearer", "(LLychWeights$Parish;)V"⟩, 9) := ⟨⟨by decide +kernel, by decide +kernel⟩, List.mem_of_getElem? (i := 34) (by decide +kernel), List.mem_of_getElem? (i := 344) (by decide +kernel), List.mem_of_getElem? (i := 345) (by decide +kernel)⟩
theorem lw_p10 : lw_okq (⟨"LychWeights$Reader", "readPin", "(LLychWeights$Parish;)V"⟩, 9) := ⟨⟨by decide +kernel, by decide +kernel⟩, List.mem_of_getElem? (i := 34) (by decide +kernel), List.mem_of_getElem? (i := 352) (by decide +kernel), List.mem_of_getElem? (i := 353) (by decide +kernel)⟩
theorem lw_p11 : lw_okq (⟨"LychWeights$Reader", "readRust", "(LLychWeights$Parish;)V"⟩, 9) := ⟨⟨by decide +kernel, by decide +kernel⟩, List.mem_of_getElem? (i := 34) (by decide +kernel), List.mem_of_getElem? (i := 356) (by decide +kernel), List.mem_of_getElem? (i := 357) (by decide +kernel)⟩
theorem lw_p12 : lw_okq (⟨"LychWeights", "whoDid", "(I)I"⟩, 14) := ⟨⟨by decide +kernel, by decide +kernel⟩, List.mem_of_getElem? (i := 12) (by decide +kernel), List.mem_of_getElem? (i := 371) (by decide +kernel), List.mem_of_getElem? (i := 372) (by decide +kernel)⟩
theorem lw_p13 : lw_okq (⟨"LychWeights", "loadOf", "(I)I"⟩, 14) := ⟨⟨by decide +kernel, by decide +kernel⟩, List.mem_of_getElem? (i := 12) (by decide +kernel), List.mem_of_getElem? (i := 390) (by decide +kernel), List.mem_of_getElem? (i := 391) (by decide +kernel)⟩
theorem lw_p14 : lw_okq (⟨"LychWeights", "burdenOf", "(I)I"⟩, 14) := ⟨⟨by decide +kernel, by decide +kernel⟩, List.mem_of_getElem? (i := 12) (by decide +kernel), List.mem_of_getElem? (i := 394) (by decide +kernel), List.mem_of_getElem? (i := 395) (by decide +kernel)⟩
theorem lw_p15 : lw_okq (⟨"LychWeights", "readingOf", "(I)I"⟩, 14) := ⟨⟨by decide +kernel, by decide +kernel⟩, List.mem_of_getElem? (i := 12) (by decide +kernel), List.mem_of_getElem? (i := 402) (by decide +kernel), List.mem_of_getElem? (i := 403) (by decide +kernel)⟩
def lw_privs_1 : List (MethodName × Nat) := [(⟨"LychWeights$Reader", "step", "()V"⟩, 9), (⟨"LychWeights$Reader", "stepNumber", "()V"⟩, 9), (⟨"LychWeights$Reader", "readDeed", "(LLychWeights$Parish;)V"⟩, 9), (⟨"LychWeights$Reader", "open", "(Z)V"⟩, 9), (⟨"LychWeights$Reader", "number", "(II)I"⟩, 9), (⟨"LychWeights$Reader", "close", "(LLychWeights$Parish;)V"⟩, 9), (⟨"LychWeights$Reader", "readDead", "(LLychWeights$Parish;)V"⟩, 9), (⟨"LychWeights$Reader", "readDone", "(LLychWeights$Parish;)I"⟩, 9), (⟨"LychWeights$Reader", "mayBeDone", "(LLychWeights$Parish;I)Z"⟩, 9), (⟨"LychWeights$Reader", "readBearer", "(LLychWeights$Parish;)V"⟩, 9), (⟨"LychWeights$Reader", "readPin", "(LLychWeights$Parish;)V"⟩, 9), (⟨"LychWeights$Reader", "readRust", "(LLychWeights$Parish;)V"⟩, 9), (⟨"LychWeights", "whoDid", "(I)I"⟩, 14), (⟨"LychWeights", "loadOf", "(I)I"⟩, 14), (⟨"LychWeights", "burdenOf", "(I)I"⟩, 14), (⟨"LychWeights", "readingOf", "(I)I"⟩, 14)]
theorem lw_r1 : ∀ q ∈ lw_privs_1, lw_okq q := List.forall_mem_cons.mpr ⟨lw_p0, List.forall_mem_cons.mpr ⟨lw_p1, List.forall_mem_cons.mpr ⟨lw_p2, List.forall_mem_cons.mpr ⟨lw_p3, List.forall_mem_cons.mpr ⟨lw_p4, List.forall_mem_cons.mpr ⟨lw_p5, List.forall_mem_cons.mpr ⟨lw_p6, List.forall_mem_cons.mpr ⟨lw_p7, List.forall_mem_cons.mpr ⟨lw_p8, List.forall_mem_cons.mpr ⟨lw_p9, List.forall_mem_cons.mpr ⟨lw_p10, List.forall_mem_cons.mpr ⟨lw_p11, List.forall_mem_cons.mpr ⟨lw_p12, List.forall_mem_cons.mpr ⟨lw_p13, List.forall_mem_cons.mpr ⟨lw_p14, List.forall_mem_cons.mpr ⟨lw_p15, fun _ h => absurd h List.not_mem_nil⟩⟩⟩⟩⟩⟩⟩⟩⟩⟩⟩⟩⟩⟩⟩⟩
theorem lw_p16 : lw_okq (⟨"LychWeights", "needleBy", "(II)I"⟩, 14) := ⟨⟨by decide +kernel, by decide +kernel⟩, List.mem_of_getElem? (i := 12) (by decide +kernel), List.mem_of_getElem? (i := 406) (by decide +kernel), List.mem_of_getElem? (i := 407) (by decide +kernel)⟩
theorem lw_p17 : lw_okq (⟨"LychWeights", "errorOf", "(I)I"⟩, 14) := ⟨⟨by decide +kernel, by decide +kernel⟩, List.mem_of_getElem? (i := 12) (by decide +kernel), List.mem_of_getElem? (i := 413) (by decide +kernel), List.mem_of_getElem? (i := 414) (by decide +kernel)⟩
theorem lw_p18 : lw_okq (⟨"LychWeights", "whoIsChalked", "()I"⟩, 14) := ⟨⟨by decide +kernel, by decide +kernel⟩, List.mem_of_getElem? (i := 12) (by decide +kernel), List.mem_of_getElem? (i := 434) (by decide +kernel), List.mem_of_getElem? (i := 435) (by decide +kernel)⟩
theorem lw_p19 : lw_okq (⟨"LychWeights$Shelf", "has", "(I)Z"⟩, 1) := ⟨⟨by decide +kernel, by decide +kernel⟩, List.mem_of_getElem? (i := 187) (by decide +kernel), List.mem_of_getElem? (i := 450) (by decide +kernel), List.mem_of_getElem? (i := 451) (by decide +kernel)⟩
theorem lw_p20 : lw_okq (⟨"LychWeights", "leastError", "(IIII)I"⟩, 14) := ⟨⟨by decide +kernel, by decide +kernel⟩, List.mem_of_getElem? (i := 12) (by decide +kernel), List.mem_of_getElem? (i := 504) (by decide +kernel), List.mem_of_getElem? (i := 505) (by decide +kernel)⟩
theorem lw_p21 : lw_okq (⟨"LychWeights", "leastErrorFrom", "(IIIII)I"⟩, 14) := ⟨⟨by decide +kernel, by decide +kernel⟩, List.mem_of_getElem? (i := 12) (by decide +kernel), List.mem_of_getElem? (i := 509) (by decide +kernel), List.mem_of_getElem? (i := 510) (by decide +kernel)⟩
theorem lw_p22 : lw_okq (⟨"LychWeights", "inOrder", "(II)I"⟩, 14) := ⟨⟨by decide +kernel, by decide +kernel⟩, List.mem_of_getElem? (i := 12) (by decide +kernel), List.mem_of_getElem? (i := 516) (by decide +kernel), List.mem_of_getElem? (i := 517) (by decide +kernel)⟩
theorem lw_p23 : lw_okq (⟨"LychWeights", "bestNext", "(IIII)I"⟩, 14) := ⟨⟨by decide +kernel, by decide +kernel⟩, List.mem_of_getElem? (i := 12) (by decide +kernel), List.mem_of_getElem? (i := 520) (by decide +kernel), List.mem_of_getElem? (i := 521) (by decide +kernel)⟩
theorem lw_p24 : lw_okq (⟨"LychWeights", "setsWith", "(I)I"⟩, 14) := ⟨⟨by decide +kernel, by decide +kernel⟩, List.mem_of_getElem? (i := 12) (by decide +kernel), List.mem_of_getElem? (i := 536) (by decide +kernel), List.mem_of_getElem? (i := 537) (by decide +kernel)⟩
theorem lw_p25 : lw_okq (⟨"LychWeights", "explainsAll", "(I)Z"⟩, 14) := ⟨⟨by decide +kernel, by decide +kernel⟩, List.mem_of_getElem? (i := 12) (by decide +kernel), List.mem_of_getElem? (i := 540) (by decide +kernel), List.mem_of_getElem? (i := 541) (by decide +kernel)⟩
theorem lw_p26 : lw_okq (⟨"LychWeights", "deedsInAllSets", "()I"⟩, 14) := ⟨⟨by decide +kernel, by decide +kernel⟩, List.mem_of_getElem? (i := 12) (by decide +kernel), List.mem_of_getElem? (i := 544) (by decide +kernel), List.mem_of_getElem? (i := 545) (by decide +kernel)⟩
theorem lw_p27 : lw_okq (⟨"LychWeights", "deedsInSomeSets", "()I"⟩, 14) := ⟨⟨by decide +kernel, by decide +kernel⟩, List.mem_of_getElem? (i := 12) (by decide +kernel), List.mem_of_getElem? (i := 548) (by decide +kernel), List.mem_of_getElem? (i := 549) (by decide +kernel)⟩
theorem lw_p28 : lw_okq (⟨"LychWeights", "bestWay", "(I)I"⟩, 14) := ⟨⟨by decide +kernel, by decide +kernel⟩, List.mem_of_getElem? (i := 12) (by decide +kernel), List.mem_of_getElem? (i := 564) (by decide +kernel), List.mem_of_getElem? (i := 565) (by decide +kernel)⟩
theorem lw_p29 : lw_okq (⟨"LychWeights", "betterWay", "(II)I"⟩, 14) := ⟨⟨by decide +kernel, by decide +kernel⟩, List.mem_of_getElem? (i := 12) (by decide +kernel), List.mem_of_getElem? (i := 568) (by decide +kernel), List.mem_of_getElem? (i := 569) (by decide +kernel)⟩
theorem lw_p30 : lw_okq (⟨"LychWeights", "isBetter", "(II)Z"⟩, 14) := ⟨⟨by decide +kernel, by decide +kernel⟩, List.mem_of_getElem? (i := 12) (by decide +kernel), List.mem_of_getElem? (i := 575) (by decide +kernel), List.mem_of_getElem? (i := 576) (by decide +kernel)⟩
theorem lw_p31 : lw_okq (⟨"LychWeights", "unevenness", "(I)I"⟩, 14) := ⟨⟨by decide +kernel, by decide +kernel⟩, List.mem_of_getElem? (i := 12) (by decide +kernel), List.mem_of_getElem? (i := 579) (by decide +kernel), List.mem_of_getElem? (i := 580) (by decide +kernel)⟩
def lw_privs_2 : List (MethodName × Nat) := [(⟨"LychWeights", "needleBy", "(II)I"⟩, 14), (⟨"LychWeights", "errorOf", "(I)I"⟩, 14), (⟨"LychWeights", "whoIsChalked", "()I"⟩, 14), (⟨"LychWeights$Shelf", "has", "(I)Z"⟩, 1), (⟨"LychWeights", "leastError", "(IIII)I"⟩, 14), (⟨"LychWeights", "leastErrorFrom", "(IIIII)I"⟩, 14), (⟨"LychWeights", "inOrder", "(II)I"⟩, 14), (⟨"LychWeights", "bestNext", "(IIII)I"⟩, 14), (⟨"LychWeights", "setsWith", "(I)I"⟩, 14), (⟨"LychWeights", "explainsAll", "(I)Z"⟩, 14), (⟨"LychWeights", "deedsInAllSets", "()I"⟩, 14), (⟨"LychWeights", "deedsInSomeSets", "()I"⟩, 14), (⟨"LychWeights", "bestWay", "(I)I"⟩, 14), (⟨"LychWeights", "betterWay", "(II)I"⟩, 14), (⟨"LychWeights", "isBetter", "(II)Z"⟩, 14), (⟨"LychWeights", "unevenness", "(I)I"⟩, 14)]
theorem lw_r2 : ∀ q ∈ lw_privs_2, lw_okq q := List.forall_mem_cons.mpr ⟨lw_p16, List.forall_mem_cons.mpr ⟨lw_p17, List.forall_mem_cons.mpr ⟨lw_p18, List.forall_mem_cons.mpr ⟨lw_p19, List.forall_mem_cons.mpr ⟨lw_p20, List.forall_mem_cons.mpr ⟨lw_p21, List.forall_mem_cons.mpr ⟨lw_p22, List.forall_mem_cons.mpr ⟨lw_p23, List.forall_mem_cons.mpr ⟨lw_p24, List.forall_mem_cons.mpr ⟨lw_p25, List.forall_mem_cons.mpr ⟨lw_p26, List.forall_mem_cons.mpr ⟨lw_p27, List.forall_mem_cons.mpr ⟨lw_p28, List.forall_mem_cons.mpr ⟨lw_p29, List.forall_mem_cons.mpr ⟨lw_p30, List.forall_mem_cons.mpr ⟨lw_p31, fun _ h => absurd h List.not_mem_nil⟩⟩⟩⟩⟩⟩⟩⟩⟩⟩⟩⟩⟩⟩⟩⟩
theorem lw_p32 : lw_okq (⟨"LychWeights", "partLeaning", "(II)I"⟩, 14) := ⟨⟨by decide +kernel, by decide +kernel⟩, List.mem_of_getElem? (i := 12) (by decide +kernel), List.mem_of_getElem? (i := 593) (by decide +kernel), List.mem_of_getElem? (i := 594) (by decide +kernel)⟩
theorem lw_p33 : lw_okq (⟨"LychWeights", "rateAsDeed", "(I)I"⟩, 14) := ⟨⟨by decide +kernel, by decide +kernel⟩, List.mem_of_getElem? (i := 12) (by decide +kernel), List.mem_of_getElem? (i := 607) (by decide +kernel), List.mem_of_getElem? (i := 608) (by decide +kernel)⟩
theorem lw_p34 : lw_okq (⟨"LychWeights", "rateAsDebt", "(I)I"⟩, 14) := ⟨⟨by decide +kernel, by decide +kernel⟩, List.mem_of_getElem? (i := 12) (by decide +kernel), List.mem_of_getElem? (i := 611) (by decide +kernel), List.mem_of_getElem? (i := 612) (by decide +kernel)⟩
theorem lw_p35 : lw_okq (⟨"LychWeights", "rateAsLie", "(I)I"⟩, 14) := ⟨⟨by decide +kernel, by decide +kernel⟩, List.mem_of_getElem? (i := 12) (by decide +kernel), List.mem_of_getElem? (i := 616) (by decide +kernel), List.mem_of_getElem? (i := 617) (by decide +kernel)⟩
theorem lw_p36 : lw_okq (⟨"LychWeights", "rateAsOath", "(I)I"⟩, 14) := ⟨⟨by decide +kernel, by decide +kernel⟩, List.mem_of_getElem? (i := 12) (by decide +kernel), List.mem_of_getElem? (i := 621) (by decide +kernel), List.mem_of_getElem? (i := 622) (by decide +kernel)⟩
theorem lw_p37 : lw_okq (⟨"LychWeights", "rateAsKiss", "(I)I"⟩, 14) := ⟨⟨by decide +kernel, by decide +kernel⟩, List.mem_of_getElem? (i := 12) (by decide +kernel), List.mem_of_getElem? (i := 626) (by decide +kernel), List.mem_of_getElem? (i := 627) (by decide +kernel)⟩
theorem lw_p38 : lw_okq (⟨"LychWeights", "rateAsTheft", "(I)I"⟩, 14) := ⟨⟨by decide +kernel, by decide +kernel⟩, List.mem_of_getElem? (i := 12) (by decide +kernel), List.mem_of_getElem? (i := 631) (by decide +kernel), List.mem_of_getElem? (i := 632) (by decide +kernel)⟩
theorem lw_p39 : lw_okq (⟨"LychWeightsModel", "next", "()V"⟩, 37) := ⟨⟨by decide +kernel, by decide +kernel⟩, List.mem_of_getElem? (i := 654) (by decide +kernel), List.mem_of_getElem? (i := 788) (by decide +kernel), List.mem_of_getElem? (i := 789) (by decide +kernel)⟩
theorem lw_p40 : lw_okq (⟨"LychWeightsModel", "letterAt", "(I)I"⟩, 37) := ⟨⟨by decide +kernel, by decide +kernel⟩, List.mem_of_getElem? (i := 654) (by decide +kernel), List.mem_of_getElem? (i := 792) (by decide +kernel), List.mem_of_getElem? (i := 793) (by decide +kernel)⟩
theorem lw_p41 : lw_okq (⟨"LychWeightsModel", "readItem", "()V"⟩, 37) := ⟨⟨by decide +kernel, by decide +kernel⟩, List.mem_of_getElem? (i := 654) (by decide +kernel), List.mem_of_getElem? (i := 799) (by decide +kernel), List.mem_of_getElem? (i := 800) (by decide +kernel)⟩
theorem lw_p42 : lw_okq (⟨"LychWeightsModel", "mayBegin", "(I)Z"⟩, 37) := ⟨⟨by decide +kernel, by decide +kernel⟩, List.mem_of_getElem? (i := 654) (by decide +kernel), List.mem_of_getElem? (i := 803) (by decide +kernel), List.mem_of_getElem? (i := 804) (by decide +kernel)⟩
theorem lw_p43 : lw_okq (⟨"LychWeightsModel", "readBody", "(I)V"⟩, 37) := ⟨⟨by decide +kernel, by decide +kernel⟩, List.mem_of_getElem? (i := 654) (by decide +kernel), List.mem_of_getElem? (i := 807) (by decide +kernel), List.mem_of_getElem? (i := 808) (by decide +kernel)⟩
theorem lw_p44 : lw_okq (⟨"LychWeightsModel", "takesNumber", "(II)I"⟩, 37) := ⟨⟨by decide +kernel, by decide +kernel⟩, List.mem_of_getElem? (i := 654) (by decide +kernel), List.mem_of_getElem? (i := 811) (by decide +kernel), List.mem_of_getElem? (i := 812) (by decide +kernel)⟩
theorem lw_p45 : lw_okq (⟨"LychWeightsModel", "readDead", "()V"⟩, 37) := ⟨⟨by decide +kernel, by decide +kernel⟩, List.mem_of_getElem? (i := 654) (by decide +kernel), List.mem_of_getElem? (i := 815) (by decide +kernel), List.mem_of_getElem? (i := 816) (by decide +kernel)⟩
theorem lw_p46 : lw_okq (⟨"LychWeightsModel", "settles", "()V"⟩, 37) := ⟨⟨by decide +kernel, by decide +kernel⟩, List.mem_of_getElem? (i := 654) (by decide +kernel), List.mem_of_getElem? (i := 822) (by decide +kernel), List.mem_of_getElem? (i := 823) (by decide +kernel)⟩
theorem lw_p47 : lw_okq (⟨"LychWeightsModel", "isDeed", "(I)Z"⟩, 37) := ⟨⟨by decide +kernel, by decide +kernel⟩, List.mem_of_getElem? (i := 654) (by decide +kernel), List.mem_of_getElem? (i := 830) (by decide +kernel), List.mem_of_getElem? (i := 831) (by decide +kernel)⟩
def lw_privs_3 : List (MethodName × Nat) := [(⟨"LychWeights", "partLeaning", "(II)I"⟩, 14), (⟨"LychWeights", "rateAsDeed", "(I)I"⟩, 14), (⟨"LychWeights", "rateAsDebt", "(I)I"⟩, 14), (⟨"LychWeights", "rateAsLie", "(I)I"⟩, 14), (⟨"LychWeights", "rateAsOath", "(I)I"⟩, 14), (⟨"LychWeights", "rateAsKiss", "(I)I"⟩, 14), (⟨"LychWeights", "rateAsTheft", "(I)I"⟩, 14), (⟨"LychWeightsModel", "next", "()V"⟩, 37), (⟨"LychWeightsModel", "letterAt", "(I)I"⟩, 37), (⟨"LychWeightsModel", "readItem", "()V"⟩, 37), (⟨"LychWeightsModel", "mayBegin", "(I)Z"⟩, 37), (⟨"LychWeightsModel", "readBody", "(I)V"⟩, 37), (⟨"LychWeightsModel", "takesNumber", "(II)I"⟩, 37), (⟨"LychWeightsModel", "readDead", "()V"⟩, 37), (⟨"LychWeightsModel", "settles", "()V"⟩, 37), (⟨"LychWeightsModel", "isDeed", "(I)Z"⟩, 37)]
theorem lw_r3 : ∀ q ∈ lw_privs_3, lw_okq q := List.forall_mem_cons.mpr ⟨lw_p32, List.forall_mem_cons.mpr ⟨lw_p33, List.forall_mem_cons.mpr ⟨lw_p34, List.forall_mem_cons.mpr ⟨lw_p35, List.forall_mem_cons.mpr ⟨lw_p36, List.forall_mem_cons.mpr ⟨lw_p37, List.forall_mem_cons.mpr ⟨lw_p38, List.forall_mem_cons.mpr ⟨lw_p39, List.forall_mem_cons.mpr ⟨lw_p40, List.forall_mem_cons.mpr ⟨lw_p41, List.forall_mem_cons.mpr ⟨lw_p42, List.forall_mem_cons.mpr ⟨lw_p43, List.forall_mem_cons.mpr ⟨lw_p44, List.forall_mem_cons.mpr ⟨lw_p45, List.forall_mem_cons.mpr ⟨lw_p46, List.forall_mem_cons.mpr ⟨lw_p47, fun _ h => absurd h List.not_mem_nil⟩⟩⟩⟩⟩⟩⟩⟩⟩⟩⟩⟩⟩⟩⟩⟩
theorem lw_p48 : lw_okq (⟨"LychWeightsModel", "whoDid", "(I)I"⟩, 37) := ⟨⟨by decide +kernel, by decide +kernel⟩, List.mem_of_getElem? (i := 654) (by decide +kernel), List.mem_of_getElem? (i := 835) (by decide +kernel), List.mem_of_getElem? (i := 836) (by decide +kernel)⟩
theorem lw_p49 : lw_okq (⟨"LychWeightsModel", "isDead", "(I)Z"⟩, 37) := ⟨⟨by decide +kernel, by decide +kernel⟩, List.mem_of_getElem? (i := 654) (by decide +kernel), List.mem_of_getElem? (i := 843) (by decide +kernel), List.mem_of_getElem? (i := 844) (by decide +kernel)⟩
theorem lw_p50 : lw_okq (⟨"LychWeightsModel", "asItIs", "()V"⟩, 37) := ⟨⟨by decide +kernel, by decide +kernel⟩, List.mem_of_getElem? (i := 654) (by decide +kernel), List.mem_of_getElem? (i := 847) (by decide +kernel), List.mem_of_getElem? (i := 848) (by decide +kernel)⟩
theorem lw_p51 : lw_okq (⟨"LychWeightsModel", "weightOf", "(I)I"⟩, 37) := ⟨⟨by decide +kernel, by decide +kernel⟩, List.mem_of_getElem? (i := 654) (by decide +kernel), List.mem_of_getElem? (i := 854) (by decide +kernel), List.mem_of_getElem? (i := 855) (by decide +kernel)⟩
theorem lw_p52 : lw_okq (⟨"LychWeightsModel", "loadOf", "(I)I"⟩, 37) := ⟨⟨by decide +kernel, by decide +kernel⟩, List.mem_of_getElem? (i := 654) (by decide +kernel), List.mem_of_getElem? (i := 858) (by decide +kernel), List.mem_of_getElem? (i := 859) (by decide +kernel)⟩
theorem lw_p53 : lw_okq (⟨"LychWeightsModel", "truly", "(I)I"⟩, 37) := ⟨⟨by decide +kernel, by decide +kernel⟩, List.mem_of_getElem? (i := 654) (by decide +kernel), List.mem_of_getElem? (i := 862) (by decide +kernel), List.mem_of_getElem? (i := 863) (by decide +kernel)⟩
theorem lw_p54 : lw_okq (⟨"LychWeightsModel", "readsOf", "(I)I"⟩, 37) := ⟨⟨by decide +kernel, by decide +kernel⟩, List.mem_of_getElem? (i := 654) (by decide +kernel), List.mem_of_getElem? (i := 866) (by decide +kernel), List.mem_of_getElem? (i := 867) (by decide +kernel)⟩
theorem lw_p55 : lw_okq (⟨"LychWeightsModel", "laid", "(I)I"⟩, 37) := ⟨⟨by decide +kernel, by decide +kernel⟩, List.mem_of_getElem? (i := 654) (by decide +kernel), List.mem_of_getElem? (i := 870) (by decide +kernel), List.mem_of_getElem? (i := 871) (by decide +kernel)⟩
theorem lw_p56 : lw_okq (⟨"LychWeightsModel", "moves", "(I)V"⟩, 37) := ⟨⟨by decide +kernel, by decide +kernel⟩, List.mem_of_getElem? (i := 654) (by decide +kernel), List.mem_of_getElem? (i := 874) (by decide +kernel), List.mem_of_getElem? (i := 875) (by decide +kernel)⟩
theorem lw_p57 : lw_okq (⟨"LychWeightsModel", "chalked", "()I"⟩, 37) := ⟨⟨by decide +kernel, by decide +kernel⟩, List.mem_of_getElem? (i := 654) (by decide +kernel), List.mem_of_getElem? (i := 886) (by decide +kernel), List.mem_of_getElem? (i := 887) (by decide +kernel)⟩
theorem lw_p58 : lw_okq (⟨"LychWeightsModel", "remembers", "()V"⟩, 37) := ⟨⟨by decide +kernel, by decide +kernel⟩, List.mem_of_getElem? (i := 654) (by decide +kernel), List.mem_of_getElem? (i := 894) (by decide +kernel), List.mem_of_getElem? (i := 895) (by decide +kernel)⟩
theorem lw_p59 : lw_okq (⟨"LychWeightsModel", "isOrder", "(III)Z"⟩, 37) := ⟨⟨by decide +kernel, by decide +kernel⟩, List.mem_of_getElem? (i := 654) (by decide +kernel), List.mem_of_getElem? (i := 932) (by decide +kernel), List.mem_of_getElem? (i := 933) (by decide +kernel)⟩
theorem lw_p60 : lw_okq (⟨"LychWeightsModel", "differsBy", "(I)I"⟩, 37) := ⟨⟨by decide +kernel, by decide +kernel⟩, List.mem_of_getElem? (i := 654) (by decide +kernel), List.mem_of_getElem? (i := 936) (by decide +kernel), List.mem_of_getElem? (i := 937) (by decide +kernel)⟩
theorem lw_p61 : lw_okq (⟨"LychWeightsModel", "canBe", "(II)I"⟩, 37) := ⟨⟨by decide +kernel, by decide +kernel⟩, List.mem_of_getElem? (i := 654) (by decide +kernel), List.mem_of_getElem? (i := 955) (by decide +kernel), List.mem_of_getElem? (i := 956) (by decide +kernel)⟩
theorem lw_p62 : lw_okq (⟨"LychWeightsModel", "isSo", "(I)Z"⟩, 37) := ⟨⟨by decide +kernel, by decide +kernel⟩, List.mem_of_getElem? (i := 654) (by decide +kernel), List.mem_of_getElem? (i := 959) (by decide +kernel), List.mem_of_getElem? (i := 960) (by decide +kernel)⟩
theorem lw_p63 : lw_okq (⟨"LychWeightsModel", "strengthOf", "(I)I"⟩, 37) := ⟨⟨by decide +kernel, by decide +kernel⟩, List.mem_of_getElem? (i := 654) (by decide +kernel), List.mem_of_getElem? (i := 975) (by decide +kernel), List.mem_of_getElem? (i := 976) (by decide +kernel)⟩
def lw_privs_4 : List (MethodName × Nat) := [(⟨"LychWeightsModel", "whoDid", "(I)I"⟩, 37), (⟨"LychWeightsModel", "isDead", "(I)Z"⟩, 37), (⟨"LychWeightsModel", "asItIs", "()V"⟩, 37), (⟨"LychWeightsModel", "weightOf", "(I)I"⟩, 37), (⟨"LychWeightsModel", "loadOf", "(I)I"⟩, 37), (⟨"LychWeightsModel", "truly", "(I)I"⟩, 37), (⟨"LychWeightsModel", "readsOf", "(I)I"⟩, 37), (⟨"LychWeightsModel", "laid", "(I)I"⟩, 37), (⟨"LychWeightsModel", "moves", "(I)V"⟩, 37), (⟨"LychWeightsModel", "chalked", "()I"⟩, 37), (⟨"LychWeightsModel", "remembers", "()V"⟩, 37), (⟨"LychWeightsModel", "isOrder", "(III)Z"⟩, 37), (⟨"LychWeightsModel", "differsBy", "(I)I"⟩, 37), (⟨"LychWeightsModel", "canBe", "(II)I"⟩, 37), (⟨"LychWeightsModel", "isSo", "(I)Z"⟩, 37), (⟨"LychWeightsModel", "strengthOf", "(I)I"⟩, 37)]
theorem lw_r4 : ∀ q ∈ lw_privs_4, lw_okq q := List.forall_mem_cons.mpr ⟨lw_p48, List.forall_mem_cons.mpr ⟨lw_p49, List.forall_mem_cons.mpr ⟨lw_p50, List.forall_mem_cons.mpr ⟨lw_p51, List.forall_mem_cons.mpr ⟨lw_p52, List.forall_mem_cons.mpr ⟨lw_p53, List.forall_mem_cons.mpr ⟨lw_p54, List.forall_mem_cons.mpr ⟨lw_p55, List.forall_mem_cons.mpr ⟨lw_p56, List.forall_mem_cons.mpr ⟨lw_p57, List.forall_mem_cons.mpr ⟨lw_p58, List.forall_mem_cons.mpr ⟨lw_p59, List.forall_mem_cons.mpr ⟨lw_p60, List.forall_mem_cons.mpr ⟨lw_p61, List.forall_mem_cons.mpr ⟨lw_p62, List.forall_mem_cons.mpr ⟨lw_p63, fun _ h => absurd h List.not_mem_nil⟩⟩⟩⟩⟩⟩⟩⟩⟩⟩⟩⟩⟩⟩⟩⟩
def lw_privs : List (MethodName × Nat) := lw_privs_1 ++ (lw_privs_2 ++ (lw_privs_3 ++ (lw_privs_4)))
def lw_tbl : List Cond := k2_sels lw_privs ++ tables_1
theorem lw_privs_ok : ∀ q ∈ lw_privs, lw_okq q := by
  show ∀ q ∈ lw_privs_1 ++ (lw_privs_2 ++ (lw_privs_3 ++ (lw_privs_4))), lw_okq q
  exact List.forall_mem_append.mpr ⟨lw_r1, List.forall_mem_append.mpr ⟨lw_r2, List.forall_mem_append.mpr ⟨lw_r3, lw_r4⟩⟩⟩
end
section
/-! names, fields, codes (out of the printed names) -/
def RX0 : String := "LychWeights$History"
def TX0 : u_T := fun k => match k with
  | 0 => ("LychWeights$History", "known", "I", false)
  | 1 => ("LychWeights$History", "next", "I", false)
  | _ => ("LychWeights$History", "ring", "LLychWeights$Shelf;", true)
def tyX0 : Nat → FieldType := fun k => match k with
  | 0 => .int
  | 1 => .int
  | _ => .object "LychWeights$Shelf"
abbrev wsX00 : List Cond := u_ws RX0 TX0 3
theorem nmX0 : ∀ a, a < 3 → ∀ b, b < 3 → a ≠ b → (TX0 a).2.1 ≠ (TX0 b).2.1 := by decide +kernel
theorem tyX0_ok : ∀ k, k < 3 → parseFieldDescriptor (TX0 k).2.2.1 = some (tyX0 k) := by decide +kernel
abbrev cX0_init : ByteArray := prog_2_method_1_code
def yX0_init : MethodName := ⟨RX0, "<init>", "()V"⟩
abbrev cX0_remember : ByteArray := prog_2_method_2_code
def yX0_remember : MethodName := ⟨RX0, "remember", "(LLychWeights$Scene;)V"⟩
abbrev cX0_recall : ByteArray := prog_2_method_3_code
def yX0_recall : MethodName := ⟨RX0, "recall", "(LLychWeights$Scene;)V"⟩
abbrev cX0_loseAll : ByteArray := prog_2_method_4_code
def yX0_loseAll : MethodName := ⟨RX0, "loseAll", "()V"⟩
def RX1 : String := "LychWeights$Parish"
def TX1 : u_T := fun k => match k with
  | 0 => ("LychWeights$Parish", "items", "I", false)
  | 1 => ("LychWeights$Parish", "deeds", "I", false)
  | 2 => ("LychWeights$Parish", "dead", "I", false)
  | 3 => ("LychWeights$Parish", "bearers", "I", false)
  | 4 => ("LychWeights$Parish", "pin", "I", false)
  | 5 => ("LychWeights$Parish", "rust", "I", false)
  | 6 => ("LychWeights$Parish", "weights", "LLychWeights$Row;", true)
  | 7 => ("LychWeights$Parish", "boxes", "LLychWeights$Row;", true)
  | 8 => ("LychWeights$Parish", "flowers", "LLychWeights$Row;", true)
  | 9 => ("LychWeights$Parish", "sins", "LLychWeights$Row;", true)
  | _ => ("LychWeights$Parish", "strengths", "LLychWeights$Row;", true)
def tyX1 : Nat → FieldType := fun k => match k with
  | 0 => .int
  | 1 => .int
  | 2 => .int
  | 3 => .int
  | 4 => .int
  | 5 => .int
  | 6 => .object "LychWeights$Row"
  | 7 => .object "LychWeights$Row"
  | 8 => .object "LychWeights$Row"
  | 9 => .object "LychWeights$Row"
  | _ => .object "LychWeights$Row"
abbrev wsX10 : List Cond := u_ws RX1 TX1 11
theorem nmX1 : ∀ a, a < 11 → ∀ b, b < 11 → a ≠ b → (TX1 a).2.1 ≠ (TX1 b).2.1 := by decide +kernel
theorem tyX1_ok : ∀ k, k < 11 → parseFieldDescriptor (TX1 k).2.2.1 = some (tyX1 k) := by decide +kernel
abbrev cX1_init : ByteArray := prog_3_method_1_code
def yX1_init : MethodName := ⟨RX1, "<init>", "()V"⟩
abbrev cX1_begin : ByteArray := prog_3_method_2_code
def yX1_begin : MethodName := ⟨RX1, "begin", "()V"⟩
abbrev cX1_hasDeed : ByteArray := prog_3_method_3_code
def yX1_hasDeed : MethodName := ⟨RX1, "hasDeed", "(I)Z"⟩
abbrev cX1_hasDead : ByteArray := prog_3_method_4_code
def yX1_hasDead : MethodName := ⟨RX1, "hasDead", "(I)Z"⟩
abbrev cX1_hasBearer : ByteArray := prog_3_method_5_code
def yX1_hasBearer : MethodName := ⟨RX1, "hasBearer", "(I)Z"⟩
abbrev cX1_addDeed : ByteArray := prog_3_method_6_code
def yX1_addDeed : MethodName := ⟨RX1, "addDeed", "(I)V"⟩
abbrev cX1_addDead : ByteArray := prog_3_method_7_code
def yX1_addDead : MethodName := ⟨RX1, "addDead", "(III)V"⟩
abbrev cX1_addBearer : ByteArray := prog_3_method_8_code
def yX1_addBearer : MethodName := ⟨RX1, "addBearer", "(I)V"⟩
def RX2 : String := "LychWeights$Reader"
def TX2 : u_T := fun k => match k with
  | 0 => ("LychWeights$Reader", "letters", "LLychWeights$Row;", true)
  | 1 => ("LychWeights$Reader", "length", "I", false)
  | 2 => ("LychWeights$Reader", "start", "I", false)
  | 3 => ("LychWeights$Reader", "behind", "I", false)
  | 4 => ("LychWeights$Reader", "token", "I", false)
  | 5 => ("LychWeights$Reader", "value", "I", false)
  | 6 => ("LychWeights$Reader", "wrong", "Z", false)
  | 7 => ("LychWeights$Reader", "pinTold", "Z", false)
  | _ => ("LychWeights$Reader", "rustTold", "Z", false)
def tyX2 : Nat → FieldType := fun k => match k with
  | 0 => .object "LychWeights$Row"
  | 1 => .int
  | 2 => .int
  | 3 => .int
  | 4 => .int
  | 5 => .int
  | 6 => .boolean
  | 7 => .boolean
  | _ => .boolean
abbrev wsX20 : List Cond := u_ws RX2 TX2 9
theorem nmX2 : ∀ a, a < 9 → ∀ b, b < 9 → a ≠ b → (TX2 a).2.1 ≠ (TX2 b).2.1 := by decide +kernel
theorem tyX2_ok : ∀ k, k < 9 → parseFieldDescriptor (TX2 k).2.2.1 = some (tyX2 k) := by decide +kernel
abbrev cX2_init : ByteArray := prog_4_method_1_code
def yX2_init : MethodName := ⟨RX2, "<init>", "(LLychWeights$Row;)V"⟩
abbrev cX2_read : ByteArray := prog_4_method_2_code
def yX2_read : MethodName := ⟨RX2, "read", "(ILLychWeights$Parish;)I"⟩
abbrev cX2_readDeed : ByteArray := prog_4_method_3_code
def yX2_readDeed : MethodName := ⟨RX2, "readDeed", "(LLychWeights$Parish;)V"⟩
abbrev cX2_readDead : ByteArray := prog_4_method_4_code
def yX2_readDead : MethodName := ⟨RX2, "readDead", "(LLychWeights$Parish;)V"⟩
abbrev cX2_readDone : ByteArray := prog_4_method_5_code
def yX2_readDone : MethodName := ⟨RX2, "readDone", "(LLychWeights$Parish;)I"⟩
abbrev cX2_mayBeDone : ByteArray := prog_4_method_6_code
def yX2_mayBeDone : MethodName := ⟨RX2, "mayBeDone", "(LLychWeights$Parish;I)Z"⟩
abbrev cX2_readBearer : ByteArray := prog_4_method_7_code
def yX2_readBearer : MethodName := ⟨RX2, "readBearer", "(LLychWeights$Parish;)V"⟩
abbrev cX2_readPin : ByteArray := prog_4_method_8_code
def yX2_readPin : MethodName := ⟨RX2, "readPin", "(LLychWeights$Parish;)V"⟩
abbrev cX2_readRust : ByteArray := prog_4_method_9_code
def yX2_readRust : MethodName := ⟨RX2, "readRust", "(LLychWeights$Parish;)V"⟩
abbrev cX2_open : ByteArray := prog_4_method_10_code
def yX2_open : MethodName := ⟨RX2, "open", "(Z)V"⟩
abbrev cX2_number : ByteArray := prog_4_method_11_code
def yX2_number : MethodName := ⟨RX2, "number", "(II)I"⟩
abbrev cX2_close : ByteArray := prog_4_method_12_code
def yX2_close : MethodName := ⟨RX2, "close", "(LLychWeights$Parish;)V"⟩
abbrev cX2_step : ByteArray := prog_4_method_13_code
def yX2_step : MethodName := ⟨RX2, "step", "()V"⟩
abbrev cX2_stepNumber : ByteArray := prog_4_method_14_code
def yX2_stepNumber : MethodName := ⟨RX2, "stepNumber", "()V"⟩
abbrev cX2_isDigit : ByteArray := prog_4_method_15_code
def yX2_isDigit : MethodName := ⟨RX2, "isDigit", "(I)Z"⟩
abbrev cX2_isSign : ByteArray := prog_4_method_16_code
def yX2_isSign : MethodName := ⟨RX2, "isSign", "(I)Z"⟩
def RX3 : String := "LychWeights$Row"
def TX3 : u_T := fun k => match k with
  | _ => ("LychWeights$Row", "cells", "[I", true)
def tyX3 : Nat → FieldType := fun k => match k with
  | _ => .array .int
abbrev wsX30 : List Cond := u_ws RX3 TX3 1
theorem nmX3 : ∀ a, a < 1 → ∀ b, b < 1 → a ≠ b → (TX3 a).2.1 ≠ (TX3 b).2.1 := by decide +kernel
theorem tyX3_ok : ∀ k, k < 1 → parseFieldDescriptor (TX3 k).2.2.1 = some (tyX3 k) := by decide +kernel
abbrev cX3_init : ByteArray := prog_5_method_1_code
def yX3_init : MethodName := ⟨RX3, "<init>", "(I)V"⟩
abbrev cX3_at : ByteArray := prog_5_method_2_code
def yX3_at : MethodName := ⟨RX3, "at", "(I)I"⟩
abbrev cX3_put : ByteArray := prog_5_method_3_code
def yX3_put : MethodName := ⟨RX3, "put", "(II)V"⟩
abbrev cX3_sumOf : ByteArray := prog_5_method_4_code
def yX3_sumOf : MethodName := ⟨RX3, "sumOf", "(I)I"⟩
abbrev cX3_fill : ByteArray := prog_5_method_5_code
def yX3_fill : MethodName := ⟨RX3, "fill", "(I)V"⟩
abbrev cX3_copyFrom : ByteArray := prog_5_method_6_code
def yX3_copyFrom : MethodName := ⟨RX3, "copyFrom", "(LLychWeights$Row;)V"⟩
def RX4 : String := "LychWeights$Scene"
def TX4 : u_T := fun k => match k with
  | 0 => ("LychWeights$Scene", "needle", "I", false)
  | 1 => ("LychWeights$Scene", "thumb", "I", false)
  | 2 => ("LychWeights$Scene", "rust", "I", false)
  | 3 => ("LychWeights$Scene", "flowers", "LLychWeights$Row;", true)
  | 4 => ("LychWeights$Scene", "sins", "LLychWeights$Row;", true)
  | _ => ("LychWeights$Scene", "chalk", "LLychWeights$Row;", true)
def tyX4 : Nat → FieldType := fun k => match k with
  | 0 => .int
  | 1 => .int
  | 2 => .int
  | 3 => .object "LychWeights$Row"
  | 4 => .object "LychWeights$Row"
  | _ => .object "LychWeights$Row"
abbrev wsX40 : List Cond := u_ws RX4 TX4 6
theorem nmX4 : ∀ a, a < 6 → ∀ b, b < 6 → a ≠ b → (TX4 a).2.1 ≠ (TX4 b).2.1 := by decide +kernel
theorem tyX4_ok : ∀ k, k < 6 → parseFieldDescriptor (TX4 k).2.2.1 = some (tyX4 k) := by decide +kernel
abbrev cX4_init : ByteArray := prog_6_method_1_code
def yX4_init : MethodName := ⟨RX4, "<init>", "()V"⟩
abbrev cX4_begin : ByteArray := prog_6_method_2_code
def yX4_begin : MethodName := ⟨RX4, "begin", "(LLychWeights$Parish;)V"⟩
abbrev cX4_copyFrom : ByteArray := prog_6_method_3_code
def yX4_copyFrom : MethodName := ⟨RX4, "copyFrom", "(LLychWeights$Scene;)V"⟩
abbrev cX4_isChalked : ByteArray := prog_6_method_4_code
def yX4_isChalked : MethodName := ⟨RX4, "isChalked", "(I)Z"⟩
def RX5 : String := "LychWeights$Shelf"
def TX5 : u_T := fun k => match k with
  | _ => ("LychWeights$Shelf", "scenes", "[LLychWeights$Scene;", true)
def tyX5 : Nat → FieldType := fun k => match k with
  | _ => .array (.object "LychWeights$Scene")
abbrev wsX50 : List Cond := u_ws RX5 TX5 1
theorem nmX5 : ∀ a, a < 1 → ∀ b, b < 1 → a ≠ b → (TX5 a).2.1 ≠ (TX5 b).2.1 := by decide +kernel
theorem tyX5_ok : ∀ k, k < 1 → parseFieldDescriptor (TX5 k).2.2.1 = some (tyX5 k) := by decide +kernel
abbrev cX5_init : ByteArray := prog_7_method_1_code
def yX5_init : MethodName := ⟨RX5, "<init>", "(I)V"⟩
abbrev cX5_has : ByteArray := prog_7_method_2_code
def yX5_has : MethodName := ⟨RX5, "has", "(I)Z"⟩
abbrev cX5_put : ByteArray := prog_7_method_3_code
def yX5_put : MethodName := ⟨RX5, "put", "(ILLychWeights$Scene;)V"⟩
abbrev cX5_copyTo : ByteArray := prog_7_method_4_code
def yX5_copyTo : MethodName := ⟨RX5, "copyTo", "(ILLychWeights$Scene;)V"⟩
def RX6 : String := "LychWeights"
def TX6 : u_T := fun k => match k with
  | 0 => ("LychWeights", "letters", "LLychWeights$Row;", true)
  | 1 => ("LychWeights", "letterCount", "I", false)
  | 2 => ("LychWeights", "reader", "LLychWeights$Reader;", true)
  | 3 => ("LychWeights", "parish", "LLychWeights$Parish;", false)
  | 4 => ("LychWeights", "draft", "LLychWeights$Parish;", false)
  | 5 => ("LychWeights", "scene", "LLychWeights$Scene;", true)
  | 6 => ("LychWeights", "history", "LLychWeights$History;", true)
  | 7 => ("LychWeights", "burdens", "LLychWeights$Row;", true)
  | 8 => ("LychWeights", "images", "LLychWeights$Shelf;", true)
  | 9 => ("LychWeights", "keptImages", "I", false)
  | 10 => ("LychWeights", "toldBoxes", "LLychWeights$Row;", true)
  | 11 => ("LychWeights", "toldReadings", "LLychWeights$Row;", true)
  | 12 => ("LychWeights", "toldCount", "I", false)
  | _ => ("LychWeights", "traceSum", "J", false)
def tyX6 : Nat → FieldType := fun k => match k with
  | 0 => .object "LychWeights$Row"
  | 1 => .int
  | 2 => .object "LychWeights$Reader"
  | 3 => .object "LychWeights$Parish"
  | 4 => .object "LychWeights$Parish"
  | 5 => .object "LychWeights$Scene"
  | 6 => .object "LychWeights$History"
  | 7 => .object "LychWeights$Row"
  | 8 => .object "LychWeights$Shelf"
  | 9 => .int
  | 10 => .object "LychWeights$Row"
  | 11 => .object "LychWeights$Row"
  | 12 => .int
  | _ => .long
abbrev wsX60 : List Cond := u_ws RX6 TX6 14
theorem nmX6 : ∀ a, a < 14 → ∀ b, b < 14 → a ≠ b → (TX6 a).2.1 ≠ (TX6 b).2.1 := by decide +kernel
theorem tyX6_ok : ∀ k, k < 14 → parseFieldDescriptor (TX6 k).2.2.1 = some (tyX6 k) := by decide +kernel
abbrev cX6_init : ByteArray := prog_1_method_1_code
def yX6_init : MethodName := ⟨RX6, "<init>", "()V"⟩
abbrev cX6_type : ByteArray := prog_1_method_2_code
def yX6_type : MethodName := ⟨RX6, "type", "(I)I"⟩
abbrev cX6_clear : ByteArray := prog_1_method_3_code
def yX6_clear : MethodName := ⟨RX6, "clear", "()I"⟩
abbrev cX6_gate : ByteArray := prog_1_method_4_code
def yX6_gate : MethodName := ⟨RX6, "gate", "()I"⟩
abbrev cX6_deed : ByteArray := prog_1_method_5_code
def yX6_deed : MethodName := ⟨RX6, "deed", "(II)I"⟩
abbrev cX6_dead : ByteArray := prog_1_method_6_code
def yX6_dead : MethodName := ⟨RX6, "dead", "(II)I"⟩
abbrev cX6_bearer : ByteArray := prog_1_method_7_code
def yX6_bearer : MethodName := ⟨RX6, "bearer", "(I)I"⟩
abbrev cX6_now : ByteArray := prog_1_method_8_code
def yX6_now : MethodName := ⟨RX6, "now", "(I)I"⟩
abbrev cX6_lays : ByteArray := prog_1_method_9_code
def yX6_lays : MethodName := ⟨RX6, "lays", "(I)I"⟩
abbrev cX6_thumbs : ByteArray := prog_1_method_10_code
def yX6_thumbs : MethodName := ⟨RX6, "thumbs", "(I)I"⟩
abbrev cX6_adorns : ByteArray := prog_1_method_11_code
def yX6_adorns : MethodName := ⟨RX6, "adorns", "(II)I"⟩
abbrev cX6_sins : ByteArray := prog_1_method_12_code
def yX6_sins : MethodName := ⟨RX6, "sins", "(II)I"⟩
abbrev cX6_oils : ByteArray := prog_1_method_13_code
def yX6_oils : MethodName := ⟨RX6, "oils", "(I)I"⟩
abbrev cX6_year : ByteArray := prog_1_method_14_code
def yX6_year : MethodName := ⟨RX6, "year", "()I"⟩
abbrev cX6_undo : ByteArray := prog_1_method_15_code
def yX6_undo : MethodName := ⟨RX6, "undo", "()I"⟩
abbrev cX6_order : ByteArray := prog_1_method_16_code
def yX6_order : MethodName := ⟨RX6, "order", "(I)I"⟩
abbrev cX6_tells : ByteArray := prog_1_method_17_code
def yX6_tells : MethodName := ⟨RX6, "tells", "(II)I"⟩
abbrev cX6_forget : ByteArray := prog_1_method_18_code
def yX6_forget : MethodName := ⟨RX6, "forget", "()I"⟩
abbrev cX6_can : ByteArray := prog_1_method_19_code
def yX6_can : MethodName := ⟨RX6, "can", "(I)I"⟩
abbrev cX6_ask : ByteArray := prog_1_method_20_code
def yX6_ask : MethodName := ⟨RX6, "ask", "()I"⟩
abbrev cX6_life : ByteArray := prog_1_method_21_code
def yX6_life : MethodName := ⟨RX6, "life", "(II)I"⟩
abbrev cX6_carry : ByteArray := prog_1_method_22_code
def yX6_carry : MethodName := ⟨RX6, "carry", "(II)I"⟩
abbrev cX6_odds : ByteArray := prog_1_method_23_code
def yX6_odds : MethodName := ⟨RX6, "odds", "(III)I"⟩
abbrev cX6_rate : ByteArray := prog_1_method_24_code
def yX6_rate : MethodName := ⟨RX6, "rate", "(II)I"⟩
abbrev cX6_keep : ByteArray := prog_1_method_25_code
def yX6_keep : MethodName := ⟨RX6, "keep", "(I)I"⟩
abbrev cX6_back : ByteArray := prog_1_method_26_code
def yX6_back : MethodName := ⟨RX6, "back", "(I)I"⟩
abbrev cX6_count : ByteArray := prog_1_method_27_code
def yX6_count : MethodName := ⟨RX6, "count", "(I)I"⟩
abbrev cX6_trace : ByteArray := prog_1_method_28_code
def yX6_trace : MethodName := ⟨RX6, "trace", "()J"⟩
abbrev cX6_isWithin : ByteArray := prog_1_method_29_code
def yX6_isWithin : MethodName := ⟨RX6, "isWithin", "(III)Z"⟩
abbrev cX6_bit : ByteArray := prog_1_method_30_code
def yX6_bit : MethodName := ⟨RX6, "bit", "(I)I"⟩
abbrev cX6_isIn : ByteArray := prog_1_method_31_code
def yX6_isIn : MethodName := ⟨RX6, "isIn", "(II)Z"⟩
abbrev cX6_allOf : ByteArray := prog_1_method_32_code
def yX6_allOf : MethodName := ⟨RX6, "allOf", "(I)I"⟩
abbrev cX6_power : ByteArray := prog_1_method_33_code
def yX6_power : MethodName := ⟨RX6, "power", "(II)I"⟩
abbrev cX6_commonDivisor : ByteArray := prog_1_method_34_code
def yX6_commonDivisor : MethodName := ⟨RX6, "commonDivisor", "(II)I"⟩
abbrev cX6_needleBy : ByteArray := prog_1_method_35_code
def yX6_needleBy : MethodName := ⟨RX6, "needleBy", "(II)I"⟩
abbrev cX6_burdenOf : ByteArray := prog_1_method_36_code
def yX6_burdenOf : MethodName := ⟨RX6, "burdenOf", "(I)I"⟩
abbrev cX6_loadBy : ByteArray := prog_1_method_37_code
def yX6_loadBy : MethodName := ⟨RX6, "loadBy", "(II)I"⟩
abbrev cX6_loadOf : ByteArray := prog_1_method_38_code
def yX6_loadOf : MethodName := ⟨RX6, "loadOf", "(I)I"⟩
abbrev cX6_readingOf : ByteArray := prog_1_method_39_code
def yX6_readingOf : MethodName := ⟨RX6, "readingOf", "(I)I"⟩
abbrev cX6_errorOf : ByteArray := prog_1_method_40_code
def yX6_errorOf : MethodName := ⟨RX6, "errorOf", "(I)I"⟩
abbrev cX6_whoIsChalked : ByteArray := prog_1_method_41_code
def yX6_whoIsChalked : MethodName := ⟨RX6, "whoIsChalked", "()I"⟩
abbrev cX6_whoDid : ByteArray := prog_1_method_42_code
def yX6_whoDid : MethodName := ⟨RX6, "whoDid", "(I)I"⟩
abbrev cX6_leastError : ByteArray := prog_1_method_43_code
def yX6_leastError : MethodName := ⟨RX6, "leastError", "(IIII)I"⟩
abbrev cX6_leastErrorFrom : ByteArray := prog_1_method_44_code
def yX6_leastErrorFrom : MethodName := ⟨RX6, "leastErrorFrom", "(IIIII)I"⟩
abbrev cX6_inOrder : ByteArray := prog_1_method_45_code
def yX6_inOrder : MethodName := ⟨RX6, "inOrder", "(II)I"⟩
abbrev cX6_bestNext : ByteArray := prog_1_method_46_code
def yX6_bestNext : MethodName := ⟨RX6, "bestNext", "(IIII)I"⟩
abbrev cX6_explainsAll : ByteArray := prog_1_method_47_code
def yX6_explainsAll : MethodName := ⟨RX6, "explainsAll", "(I)Z"⟩
abbrev cX6_setsWith : ByteArray := prog_1_method_48_code
def yX6_setsWith : MethodName := ⟨RX6, "setsWith", "(I)I"⟩
abbrev cX6_deedsInAllSets : ByteArray := prog_1_method_49_code
def yX6_deedsInAllSets : MethodName := ⟨RX6, "deedsInAllSets", "()I"⟩
abbrev cX6_deedsInSomeSets : ByteArray := prog_1_method_50_code
def yX6_deedsInSomeSets : MethodName := ⟨RX6, "deedsInSomeSets", "()I"⟩
abbrev cX6_wayOf : ByteArray := prog_1_method_51_code
def yX6_wayOf : MethodName := ⟨RX6, "wayOf", "(II)I"⟩
abbrev cX6_fourOf : ByteArray := prog_1_method_52_code
def yX6_fourOf : MethodName := ⟨RX6, "fourOf", "(I)I"⟩
abbrev cX6_leftOf : ByteArray := prog_1_method_53_code
def yX6_leftOf : MethodName := ⟨RX6, "leftOf", "(I)I"⟩
abbrev cX6_unevenness : ByteArray := prog_1_method_54_code
def yX6_unevenness : MethodName := ⟨RX6, "unevenness", "(I)I"⟩
abbrev cX6_isBetter : ByteArray := prog_1_method_55_code
def yX6_isBetter : MethodName := ⟨RX6, "isBetter", "(II)Z"⟩
abbrev cX6_bestWay : ByteArray := prog_1_method_56_code
def yX6_bestWay : MethodName := ⟨RX6, "bestWay", "(I)I"⟩
abbrev cX6_betterWay : ByteArray := prog_1_method_57_code
def yX6_betterWay : MethodName := ⟨RX6, "betterWay", "(II)I"⟩
abbrev cX6_partLeaning : ByteArray := prog_1_method_58_code
def yX6_partLeaning : MethodName := ⟨RX6, "partLeaning", "(II)I"⟩
abbrev cX6_rateAsDeed : ByteArray := prog_1_method_59_code
def yX6_rateAsDeed : MethodName := ⟨RX6, "rateAsDeed", "(I)I"⟩
abbrev cX6_rateAsDebt : ByteArray := prog_1_method_60_code
def yX6_rateAsDebt : MethodName := ⟨RX6, "rateAsDebt", "(I)I"⟩
abbrev cX6_rateAsLie : ByteArray := prog_1_method_61_code
def yX6_rateAsLie : MethodName := ⟨RX6, "rateAsLie", "(I)I"⟩
abbrev cX6_rateAsOath : ByteArray := prog_1_method_62_code
def yX6_rateAsOath : MethodName := ⟨RX6, "rateAsOath", "(I)I"⟩
abbrev cX6_rateAsKiss : ByteArray := prog_1_method_63_code
def yX6_rateAsKiss : MethodName := ⟨RX6, "rateAsKiss", "(I)I"⟩
abbrev cX6_rateAsTheft : ByteArray := prog_1_method_64_code
def yX6_rateAsTheft : MethodName := ⟨RX6, "rateAsTheft", "(I)I"⟩
def RX7 : String := "LychWeightsModel"
def TX7 : u_T := fun k => match k with
  | 0 => ("LychWeightsModel", "deeds", "I", false)
  | 1 => ("LychWeightsModel", "weights", "[I", true)
  | 2 => ("LychWeightsModel", "dead", "I", false)
  | 3 => ("LychWeightsModel", "boxes", "[I", true)
  | 4 => ("LychWeightsModel", "bearers", "I", false)
  | 5 => ("LychWeightsModel", "strengths", "[I", true)
  | 6 => ("LychWeightsModel", "pin", "I", false)
  | 7 => ("LychWeightsModel", "rusty", "I", false)
  | 8 => ("LychWeightsModel", "st", "[I", true)
  | 9 => ("LychWeightsModel", "was", "[I", true)
  | 10 => ("LychWeightsModel", "known", "I", false)
  | 11 => ("LychWeightsModel", "images", "[I", true)
  | 12 => ("LychWeightsModel", "isKept", "[Z", true)
  | 13 => ("LychWeightsModel", "toldMany", "I", false)
  | 14 => ("LychWeightsModel", "told", "[I", true)
  | 15 => ("LychWeightsModel", "trace", "J", false)
  | 16 => ("LychWeightsModel", "text", "[I", true)
  | 17 => ("LychWeightsModel", "texted", "I", false)
  | 18 => ("LychWeightsModel", "cursor", "I", false)
  | 19 => ("LychWeightsModel", "start", "I", false)
  | 20 => ("LychWeightsModel", "token", "I", false)
  | 21 => ("LychWeightsModel", "number", "I", false)
  | 22 => ("LychWeightsModel", "isWrong", "Z", false)
  | 23 => ("LychWeightsModel", "items", "I", false)
  | 24 => ("LychWeightsModel", "saidDeeds", "I", false)
  | 25 => ("LychWeightsModel", "saidWeight", "[I", true)
  | 26 => ("LychWeightsModel", "saidDead", "I", false)
  | 27 => ("LychWeightsModel", "saidBox", "[I", true)
  | 28 => ("LychWeightsModel", "saidFlowers", "[I", true)
  | 29 => ("LychWeightsModel", "saidDid", "[I", true)
  | 30 => ("LychWeightsModel", "saidBearers", "I", false)
  | 31 => ("LychWeightsModel", "saidStrength", "[I", true)
  | 32 => ("LychWeightsModel", "saidPin", "I", false)
  | 33 => ("LychWeightsModel", "saidRust", "I", false)
  | 34 => ("LychWeightsModel", "now", "[I", true)
  | 35 => ("LychWeightsModel", "order", "[I", true)
  | _ => ("LychWeightsModel", "best", "[I", true)
def tyX7 : Nat → FieldType := fun k => match k with
  | 0 => .int
  | 1 => .array .int
  | 2 => .int
  | 3 => .array .int
  | 4 => .int
  | 5 => .array .int
  | 6 => .int
  | 7 => .int
  | 8 => .array .int
  | 9 => .array .int
  | 10 => .int
  | 11 => .array .int
  | 12 => .array .boolean
  | 13 => .int
  | 14 => .array .int
  | 15 => .long
  | 16 => .array .int
  | 17 => .int
  | 18 => .int
  | 19 => .int
  | 20 => .int
  | 21 => .int
  | 22 => .boolean
  | 23 => .int
  | 24 => .int
  | 25 => .array .int
  | 26 => .int
  | 27 => .array .int
  | 28 => .array .int
  | 29 => .array .int
  | 30 => .int
  | 31 => .array .int
  | 32 => .int
  | 33 => .int
  | 34 => .array .int
  | 35 => .array .int
  | _ => .array .int
abbrev wsX70 : List Cond := u_ws RX7 TX7 37
theorem nmX7 : ∀ a, a < 37 → ∀ b, b < 37 → a ≠ b → (TX7 a).2.1 ≠ (TX7 b).2.1 := by decide +kernel
theorem tyX7_ok : ∀ k, k < 37 → parseFieldDescriptor (TX7 k).2.2.1 = some (tyX7 k) := by decide +kernel
abbrev cX7_init : ByteArray := prog_9_method_1_code
def yX7_init : MethodName := ⟨RX7, "<init>", "()V"⟩
abbrev cX7_in : ByteArray := prog_9_method_3_code
def yX7_in : MethodName := ⟨RX7, "in", "(III)Z"⟩
abbrev cX7_has : ByteArray := prog_9_method_4_code
def yX7_has : MethodName := ⟨RX7, "has", "(II)Z"⟩
abbrev cX7_bits : ByteArray := prog_9_method_5_code
def yX7_bits : MethodName := ⟨RX7, "bits", "(I)I"⟩
abbrev cX7_size : ByteArray := prog_9_method_6_code
def yX7_size : MethodName := ⟨RX7, "size", "(I)I"⟩
abbrev cX7_isDeed : ByteArray := prog_9_method_7_code
def yX7_isDeed : MethodName := ⟨RX7, "isDeed", "(I)Z"⟩
abbrev cX7_isDead : ByteArray := prog_9_method_8_code
def yX7_isDead : MethodName := ⟨RX7, "isDead", "(I)Z"⟩
abbrev cX7_copy : ByteArray := prog_9_method_9_code
def yX7_copy : MethodName := ⟨RX7, "copy", "([II[II)V"⟩
abbrev cX7_type : ByteArray := prog_9_method_10_code
def yX7_type : MethodName := ⟨RX7, "type", "(I)I"⟩
abbrev cX7_clear : ByteArray := prog_9_method_11_code
def yX7_clear : MethodName := ⟨RX7, "clear", "()I"⟩
abbrev cX7_letterAt : ByteArray := prog_9_method_12_code
def yX7_letterAt : MethodName := ⟨RX7, "letterAt", "(I)I"⟩
abbrev cX7_isFigure : ByteArray := prog_9_method_13_code
def yX7_isFigure : MethodName := ⟨RX7, "isFigure", "(I)Z"⟩
abbrev cX7_next : ByteArray := prog_9_method_14_code
def yX7_next : MethodName := ⟨RX7, "next", "()V"⟩
abbrev cX7_takesNumber : ByteArray := prog_9_method_15_code
def yX7_takesNumber : MethodName := ⟨RX7, "takesNumber", "(II)I"⟩
abbrev cX7_readDead : ByteArray := prog_9_method_16_code
def yX7_readDead : MethodName := ⟨RX7, "readDead", "()V"⟩
abbrev cX7_mayBegin : ByteArray := prog_9_method_17_code
def yX7_mayBegin : MethodName := ⟨RX7, "mayBegin", "(I)Z"⟩
abbrev cX7_readBody : ByteArray := prog_9_method_18_code
def yX7_readBody : MethodName := ⟨RX7, "readBody", "(I)V"⟩
abbrev cX7_readItem : ByteArray := prog_9_method_19_code
def yX7_readItem : MethodName := ⟨RX7, "readItem", "()V"⟩
abbrev cX7_gate : ByteArray := prog_9_method_20_code
def yX7_gate : MethodName := ⟨RX7, "gate", "()I"⟩
abbrev cX7_settles : ByteArray := prog_9_method_21_code
def yX7_settles : MethodName := ⟨RX7, "settles", "()V"⟩
abbrev cX7_asItIs : ByteArray := prog_9_method_22_code
def yX7_asItIs : MethodName := ⟨RX7, "asItIs", "()V"⟩
abbrev cX7_weightOf : ByteArray := prog_9_method_23_code
def yX7_weightOf : MethodName := ⟨RX7, "weightOf", "(I)I"⟩
abbrev cX7_truly : ByteArray := prog_9_method_24_code
def yX7_truly : MethodName := ⟨RX7, "truly", "(I)I"⟩
abbrev cX7_loadOf : ByteArray := prog_9_method_25_code
def yX7_loadOf : MethodName := ⟨RX7, "loadOf", "(I)I"⟩
abbrev cX7_moves : ByteArray := prog_9_method_26_code
def yX7_moves : MethodName := ⟨RX7, "moves", "(I)V"⟩
abbrev cX7_laid : ByteArray := prog_9_method_27_code
def yX7_laid : MethodName := ⟨RX7, "laid", "(I)I"⟩
abbrev cX7_readsOf : ByteArray := prog_9_method_28_code
def yX7_readsOf : MethodName := ⟨RX7, "readsOf", "(I)I"⟩
abbrev cX7_chalked : ByteArray := prog_9_method_29_code
def yX7_chalked : MethodName := ⟨RX7, "chalked", "()I"⟩
abbrev cX7_whoDid : ByteArray := prog_9_method_30_code
def yX7_whoDid : MethodName := ⟨RX7, "whoDid", "(I)I"⟩
abbrev cX7_deed : ByteArray := prog_9_method_31_code
def yX7_deed : MethodName := ⟨RX7, "deed", "(II)I"⟩
abbrev cX7_dead : ByteArray := prog_9_method_32_code
def yX7_dead : MethodName := ⟨RX7, "dead", "(II)I"⟩
abbrev cX7_bearer : ByteArray := prog_9_method_33_code
def yX7_bearer : MethodName := ⟨RX7, "bearer", "(I)I"⟩
abbrev cX7_now : ByteArray := prog_9_method_34_code
def yX7_now : MethodName := ⟨RX7, "now", "(I)I"⟩
abbrev cX7_remembers : ByteArray := prog_9_method_35_code
def yX7_remembers : MethodName := ⟨RX7, "remembers", "()V"⟩
abbrev cX7_lays : ByteArray := prog_9_method_36_code
def yX7_lays : MethodName := ⟨RX7, "lays", "(I)I"⟩
abbrev cX7_thumbs : ByteArray := prog_9_method_37_code
def yX7_thumbs : MethodName := ⟨RX7, "thumbs", "(I)I"⟩
abbrev cX7_adorns : ByteArray := prog_9_method_38_code
def yX7_adorns : MethodName := ⟨RX7, "adorns", "(II)I"⟩
abbrev cX7_sins : ByteArray := prog_9_method_39_code
def yX7_sins : MethodName := ⟨RX7, "sins", "(II)I"⟩
abbrev cX7_oils : ByteArray := prog_9_method_40_code
def yX7_oils : MethodName := ⟨RX7, "oils", "(I)I"⟩
abbrev cX7_year : ByteArray := prog_9_method_41_code
def yX7_year : MethodName := ⟨RX7, "year", "()I"⟩
abbrev cX7_undo : ByteArray := prog_9_method_42_code
def yX7_undo : MethodName := ⟨RX7, "undo", "()I"⟩
abbrev cX7_isOrder : ByteArray := prog_9_method_43_code
def yX7_isOrder : MethodName := ⟨RX7, "isOrder", "(III)Z"⟩
abbrev cX7_sixes : ByteArray := prog_9_method_44_code
def yX7_sixes : MethodName := ⟨RX7, "sixes", "(I)I"⟩
abbrev cX7_differsBy : ByteArray := prog_9_method_45_code
def yX7_differsBy : MethodName := ⟨RX7, "differsBy", "(I)I"⟩
abbrev cX7_order : ByteArray := prog_9_method_46_code
def yX7_order : MethodName := ⟨RX7, "order", "(I)I"⟩
abbrev cX7_tells : ByteArray := prog_9_method_47_code
def yX7_tells : MethodName := ⟨RX7, "tells", "(II)I"⟩
abbrev cX7_forget : ByteArray := prog_9_method_48_code
def yX7_forget : MethodName := ⟨RX7, "forget", "()I"⟩
abbrev cX7_isSo : ByteArray := prog_9_method_49_code
def yX7_isSo : MethodName := ⟨RX7, "isSo", "(I)Z"⟩
abbrev cX7_canBe : ByteArray := prog_9_method_50_code
def yX7_canBe : MethodName := ⟨RX7, "canBe", "(II)I"⟩
abbrev cX7_can : ByteArray := prog_9_method_51_code
def yX7_can : MethodName := ⟨RX7, "can", "(I)I"⟩
abbrev cX7_ask : ByteArray := prog_9_method_52_code
def yX7_ask : MethodName := ⟨RX7, "ask", "()I"⟩
abbrev cX7_life : ByteArray := prog_9_method_53_code
def yX7_life : MethodName := ⟨RX7, "life", "(II)I"⟩
abbrev cX7_strengthOf : ByteArray := prog_9_method_54_code
def yX7_strengthOf : MethodName := ⟨RX7, "strengthOf", "(I)I"⟩
abbrev cX7_carry : ByteArray := prog_9_method_55_code
def yX7_carry : MethodName := ⟨RX7, "carry", "(II)I"⟩
abbrev cX7_lowest : ByteArray := prog_9_method_56_code
def yX7_lowest : MethodName := ⟨RX7, "lowest", "(III)I"⟩
abbrev cX7_odds : ByteArray := prog_9_method_57_code
def yX7_odds : MethodName := ⟨RX7, "odds", "(III)I"⟩
abbrev cX7_rate : ByteArray := prog_9_method_58_code
def yX7_rate : MethodName := ⟨RX7, "rate", "(II)I"⟩
abbrev cX7_keep : ByteArray := prog_9_method_59_code
def yX7_keep : MethodName := ⟨RX7, "keep", "(I)I"⟩
abbrev cX7_back : ByteArray := prog_9_method_60_code
def yX7_back : MethodName := ⟨RX7, "back", "(I)I"⟩
abbrev cX7_count : ByteArray := prog_9_method_61_code
def yX7_count : MethodName := ⟨RX7, "count", "(I)I"⟩
abbrev cX7_trace : ByteArray := prog_9_method_62_code
def yX7_trace : MethodName := ⟨RX7, "trace", "()J"⟩
def RJ6 : String := "java/lang/Integer"
def TJ6 : u_T := fun k => match k with
  | _ => ("", "", "", false)
def tyJ6 : Nat → FieldType := fun k => match k with
  | _ => .int
abbrev wsJ60 : List Cond := u_ws RJ6 TJ6 0
theorem nmJ6 : ∀ a, a < 0 → ∀ b, b < 0 → a ≠ b → (TJ6 a).2.1 ≠ (TJ6 b).2.1 := by decide +kernel
theorem tyJ6_ok : ∀ k, k < 0 → parseFieldDescriptor (TJ6 k).2.2.1 = some (tyJ6 k) := by decide +kernel
abbrev cJ6_bitCount_0f7a4 : ByteArray := prog_10_method_49_code
def yJ6_bitCount_0f7a4 : MethodName := ⟨RJ6, "bitCount", "(I)I"⟩
def RJ9 : String := "java/lang/Math"
def TJ9 : u_T := fun k => match k with
  | _ => ("", "", "", false)
def tyJ9 : Nat → FieldType := fun k => match k with
  | _ => .int
abbrev wsJ90 : List Cond := u_ws RJ9 TJ9 0
theorem nmJ9 : ∀ a, a < 0 → ∀ b, b < 0 → a ≠ b → (TJ9 a).2.1 ≠ (TJ9 b).2.1 := by decide +kernel
theorem tyJ9_ok : ∀ k, k < 0 → parseFieldDescriptor (TJ9 k).2.2.1 = some (tyJ9 k) := by decide +kernel
abbrev cJ9_abs_0f7a4 : ByteArray := prog_11_method_59_code
def yJ9_abs_0f7a4 : MethodName := ⟨RJ9, "abs", "(I)I"⟩
abbrev cJ9_max_7cf53 : ByteArray := prog_11_method_65_code
def yJ9_max_7cf53 : MethodName := ⟨RJ9, "max", "(II)I"⟩
abbrev cJ9_min_7cf53 : ByteArray := prog_11_method_69_code
def yJ9_min_7cf53 : MethodName := ⟨RJ9, "min", "(II)I"⟩
def RL : String := "LychWeightsLaw"
abbrev cL_law : ByteArray := code
def yL_law : MethodName := ⟨RL, "law", "([I)Z"⟩
abbrev vwCl : List vw_C := [(RX0, TX0, 3), (RX1, TX1, 11), (RX2, TX2, 9), (RX3, TX3, 1), (RX4, TX4, 6), (RX5, TX5, 1), (RX6, TX6, 14), (RX7, TX7, 37)]
end
section
/-! own rows: an abstract heap (a list of cells, the script the first), and one judgement J over it -/
def lw_good : List Cond := lw_tbl.filter goodWord
theorem lw_good_sub : ∀ w ∈ lw_good, w ∈ lw_tbl := fun w h => (List.mem_filter.mp h).1
theorem lw_good_of {w : Cond} (h : w ∈ lw_tbl) (hg : goodWord w = true) : w ∈ lw_good := List.mem_filter.mpr ⟨h, hg⟩
/-- a cell: its kind (below 8 the class of that number; 8 ints, 9 booleans, 10 scenes, 11 the script), its slots -/
abbrev AC : Type := Nat × List Value
/-- a method: name, code, locals, what it returns -/
abbrev MI : Type := MethodName × ByteArray × Nat × Option FieldType
/-- launch, the script's address, the first new address, the classes, the arrays' classes -/
abbrev GG : Type := Launch × Nat × Nat × va_G × (Nat → ClassId)
def jad (g : GG) : Nat → Nat
  | 0 => g.2.1
  | k + 1 => g.2.2.1 + k
def jv (g : GG) : Value → Value
  | .ref k => .ref (jad g k)
  | v => v
theorem jv_cat (g : GG) (v : Value) : (jv g v).category = v.category := by cases v <;> rfl
theorem jv_cats (g : GG) (l : List Value) : ((l.map (jv g)).map fun v => v.category) = l.map fun v => v.category := by
  rw [List.map_map]
  exact List.map_congr_left (fun v _ => jv_cat g v)
def jty : Nat → Option FieldType
  | 8 => some .int
  | 9 => some .boolean
  | 10 => some (.object "LychWeights$Scene")
  | 11 => some .int
  | _ => none
def jA (g : GG) : Nat → Prop := fun q => g.2.2.1 ≤ q
def jcell (g : GG) (H : Heap) (a : Nat) (c : AC) : Prop :=
  ∃ cell : Cell, H[a]? = some cell ∧ (∀ q, cell.vm ≠ .statics q) ∧ cell.vm ≠ .unknown ∧
    ((c.1 < 8 ∧ cell.cls = g.2.2.2.1.1 c.1 ∧ cell.vm = .none ∧ (∀ q : vw_C, vwCl[c.1]? = some q → c.2.length = q.2.2) ∧ ∀ (k : Nat) (v : Value), c.2[k]? = some v → cell.slots[g.2.2.2.1.2 c.1 k]? = some (jv g v)) ∨
     (8 ≤ c.1 ∧ cell.cls = g.2.2.2.2 c.1 ∧ cell.slots.size = c.2.length ∧ ∀ (k : Nat) (v : Value), c.2[k]? = some v → cell.slots[k]? = some (jv g v)))
def jH (g : GG) (H : Heap) (h : List AC) : Prop := 1 ≤ h.length ∧ H.size + 1 = g.2.2.1 + h.length ∧ g.2.1 < g.2.2.1 ∧ (∀ c : AC, h[0]? = some c → c.1 = 11) ∧ ∀ (k : Nat) (c : AC), h[k]? = some c → jcell g H (jad g k) c
def jnest : List (String × Nat × MethodName × String) := [("LychWeights", 39, ⟨"LychWeights$Scene", "<init>", "()V"⟩, "LychWeights"), ("LychWeights", 50, ⟨"LychWeights$History", "<init>", "()V"⟩, "LychWeights"), ("LychWeights$Shelf", 21, ⟨"LychWeights$Scene", "<init>", "()V"⟩, "LychWeights"), ("LychWeights$Reader", 122, ⟨"LychWeights", "isWithin", "(III)Z"⟩, "LychWeights"), ("LychWeights$Reader", 106, ⟨"LychWeights", "isIn", "(II)Z"⟩, "LychWeights"), ("LychWeights$Reader", 98, ⟨"LychWeights", "bit", "(I)I"⟩, "LychWeights"), ("LychWeights$Row", 21, ⟨"LychWeights", "isIn", "(II)Z"⟩, "LychWeights")]
def jK (g : GG) (U : State) : Prop :=
  va_K g.2.2.2.1 vwCl [] U ∧
  (∀ (t : Nat) (ty : FieldType), jty t = some ty → ∃ (k : Class) (comp : ClassId), U.vm.classes[g.2.2.2.2 t]? = some k ∧ k.kind = .array comp ty ∧ (t = 10 → comp = g.2.2.2.1.1 4)) ∧
  (∀ t : Nat, t < 11 → ∀ ty : FieldType, jty t = some ty → U.vm.findClass ("[" ++ ty.toString) = some (g.2.2.2.2 t)) ∧
  (∀ w ∈ jnest, va_Nw (.methodLinkNest w.1 w.2.1 w.2.2.1 w.2.2.2) U)
theorem jK.warm {g : GG} {s U : State} (hW : s.WarmedH U.vm) (h : jK g s) : jK g U := by
  obtain ⟨h1, h2, h3, h4⟩ := h
  refine ⟨va_K.moved hW.alike h1, fun t ty e => ?_, fun t ht ty e => ?_, fun w hw => va_Nw.warmM hW (h4 w hw)⟩
  · obtain ⟨k, comp, a, b, c0⟩ := h2 t ty e
    obtain ⟨k', hk', he⟩ := hW.alike.2.2 _ _ a
    exact ⟨k', comp, hk', by rw [he]; exact b, c0⟩
  · rw [hW.alike.findClass]
    exact h3 t ht ty e
/-- what stays through a method, and the heap as it is -/
def jX (g : GG) (y : MI) (d mc ms : Nat) (h : List AC) (p : Program) (R : Room) (s : State) (m : MethodId) (args : Array Value) (meth : Method) (c : Code) (H : Heap) (locs : List Loc) (cells slots : Nat) : Prop :=
  (p.tables.exec = Jvm.exec ∧ c.code = y.2.1 ∧ c.maxLocals = y.2.2.1 ∧ meth.sig.returnType = y.2.2.2 ∧ meth.locks = false ∧ s.vm.findClass y.1.cls = some m.cls ∧ meth.name = y.1.name ∧
   (∀ w ∈ lw_good, w.before args s = true) ∧ jK g s ∧ d ≤ R.frames ∧ 64 * d ≤ R.locals ∧ g.2.2.1 ≤ s.heap.size) ∧
  (cells + mc ≤ R.cells ∧ slots + ms ≤ R.slots) ∧ jH g H h ∧ va_S (jA g) s.heap H locs
/-- the locals: what is known of them, by number -/
def jL (g : GG) (n : Nat) (lsr : Array Slot) (ls : List (Option Value)) : Prop := lsr.size = n ∧ lv_wf lsr ∧ ls.length = n ∧ ∀ (i : Nat) (v : Value), ls[i]? = some (some v) → v.category = 1 ∧ lsr[i]? = some (.val (jv g v))
def jZ (g : GG) (below : List Frame) (args : Array Value) (s : State) (kc ks : Nat) (Q : Option Value → List AC → Prop) : State → Prop := fun t =>
  ∃ (r : Option Value) (h' : List AC), Q r h' ∧ MQ below (fun _ st o u => o = .returned (r.map (jv g)) ∧ jH g u.heap h' ∧ va_F (jA g) st u) args s kc ks (jA g) t
/-- from here the method comes to its end, with Q of its answer and of the heap -/
def J (g : GG) (y : MI) (d mc ms : Nat) (Q : Option Value → List AC → Prop) (h : List AC) (pc : Nat) (ls : List (Option Value)) (st : List Value) : Prop :=
  ∀ (p : Program) (e : Env) (R : Room) (s : State) (m : MethodId) (args : Array Value) (below : List Frame) (meth : Method) (c : Code) (H : Heap) (locs : List Loc) (cells slots : Nat) (lsr : Array Slot),
    jX g y d mc ms h p R s m args meth c H locs cells slots → jL g y.2.2.1 lsr ls →
    W p g.1 e R s m args below meth c H locs cells slots (jZ g below args s (cells + mc) (slots + ms) Q) (F0 m pc lsr (st.map (jv g)))
section
variable {g : GG} {y : MI} {d mc ms : Nat} {Q : Option Value → List AC → Prop} {h : List AC} {pc : Nat} {ls : List (Option Value)} {st : List Value}
theorem J.post {Q' : Option Value → List AC → Prop} (k : J g y d mc ms Q h pc ls st) (hQ : ∀ r h', Q r h' → Q' r h') : J g y d mc ms Q' h pc ls st := by
  intro p e R s m args below meth c H locs cells slots lsr X L T hT S
  obtain ⟨t, a, r, h', q, b⟩ := k p e R s m args below meth c H locs cells slots lsr X L T hT S
  exact ⟨t, a, r, h', hQ r h' q, b⟩
theorem J.deeper {d' : Nat} (hd : d ≤ d') (k : J g y d mc ms Q h pc ls st) : J g y d' mc ms Q h pc ls st := by
  intro p e R s m args below meth c H locs cells slots lsr X L
  obtain ⟨⟨x1, x2, x3, x4, x5, x6, x7, x8, x9, x10, x11, x12⟩, X2⟩ := X
  exact k p e R s m args below meth c H locs cells slots lsr ⟨⟨x1, x2, x3, x4, x5, x6, x7, x8, x9, Nat.le_trans hd x10, Nat.le_trans (Nat.mul_le_mul_left 64 hd) x11, x12⟩, X2⟩ L
/-- less is known of the locals -/
def jle : List (Option Value) → List (Option Value) → Prop
  | [], [] => True
  | none :: a, _ :: b => jle a b
  | some v :: a, w :: b => w = some v ∧ jle a b
  | _ :: _, [] => False
  | [], _ :: _ => False
theorem jle_len : ∀ {a b : List (Option Value)}, jle a b → a.length = b.length
  | [], [], _ => rfl
  | none :: a, _ :: b, hl => by simpa using jle_len (a := a) (b := b) hl
  | some x :: a, w :: b, hl => by simpa using jle_len (a := a) (b := b) hl.2
theorem jle_at : ∀ {a b : List (Option Value)}, jle a b → ∀ (i : Nat) (v : Value), a[i]? = some (some v) → b[i]? = some (some v)
  | [], _, _, i, v, h => by simp at h
  | none :: a, _ :: b, hl, i, v, h => by
    cases i with
    | zero => simp at h
    | succ i => simpa using jle_at (a := a) (b := b) hl i v (by simpa using h)
  | some x :: a, w :: b, hl, i, v, h => by
    cases i with
    | zero =>
      simp at h
      subst h
      simp [hl.1]
    | succ i => simpa using jle_at (a := a) (b := b) hl.2 i v (by simpa using h)
theorem j_weak {ls' : List (Option Value)} (hl : jle ls' ls) (k : J g y d mc ms Q h pc ls' st) : J g y d mc ms Q h pc ls st := by
  intro p e R s m args below meth c H locs cells slots lsr X L
  exact k p e R s m args below meth c H locs cells slots lsr X ⟨L.1, L.2.1, (jle_len hl).trans L.2.2.1, fun i v hv => L.2.2.2 i v (jle_at hl i v hv)⟩
theorem jL.at {n : Nat} {lsr : Array Slot} {ls : List (Option Value)} (L : jL g n lsr ls) {i : Nat} {v : Value} (h : ls[i]? = some (some v)) : lsr[i]? = some (.val (jv g v)) := (L.2.2.2 i v h).2
/-- the known locals as the kit lists them -/
def jlist (g : GG) : Nat → List (Option Value) → List (Nat × Value)
  | _, [] => []
  | i, none :: l => jlist g (i + 1) l
  | i, some v :: l => (i, jv g v) :: jlist g (i + 1) l
theorem jlist_mem : ∀ (l : List (Option Value)) (i : Nat) (q : Nat × Value), q ∈ jlist g i l ↔ ∃ (k : Nat) (v : Value), l[k]? = some (some v) ∧ q = (i + k, jv g v)
  | [], i, q => by simp [jlist]
  | none :: l, i, q => by
    rw [show jlist g i (none :: l) = jlist g (i + 1) l from rfl, jlist_mem l (i + 1) q]
    constructor
    · rintro ⟨k, v, h1, h2⟩
      exact ⟨k + 1, v, by simpa using h1, by rw [h2]; congr 1; omega⟩
    · rintro ⟨k, v, h1, h2⟩
      cases k with
      | zero => simp at h1
      | succ k => exact ⟨k, v, by simpa using h1, by rw [h2]; congr 1; omega⟩
  | some w :: l, i, q => by
    rw [show jlist g i (some w :: l) = (i, jv g w) :: jlist g (i + 1) l from rfl, List.mem_cons, jlist_mem l (i + 1) q]
    constructor
    · rintro (h | ⟨k, v, h1, h2⟩)
      · exact ⟨0, w, by simp, by simpa using h⟩
      · exact ⟨k + 1, v, by simpa using h1, by rw [h2]; congr 1; omega⟩
    · rintro ⟨k, v, h1, h2⟩
      cases k with
      | zero =>
        simp at h1
        subst h1
        exact Or.inl (by simpa using h2)
      | succ k => exact Or.inr ⟨k, v, by simpa using h1, by rw [h2]; congr 1; omega⟩
theorem jL.has {n : Nat} {lsr : Array Slot} {ls : List (Option Value)} (L : jL g n lsr ls) : lv_has lsr n (jlist g 0 ls) := by
  refine ⟨L.1, L.2.1, fun q hq => ?_⟩
  obtain ⟨k, v, h1, rfl⟩ := (jlist_mem ls 0 q).mp hq
  rw [Nat.zero_add]
  exact L.at h1
theorem jL.set {n : Nat} {lsr lsr' : Array Slot} {ls : List (Option Value)} {i : Nat} {v : Value} (L0 : jL g n lsr ls) (hv : v.category = 1) (L : lv_has lsr' n ((i, jv g v) :: (jlist g 0 ls).filter (fun q => !(q.1 == i) && !(q.1 + 1 == i && q.2.category == 2)))) : jL g n lsr' (ls.set i (some v)) := by
  refine ⟨L.1, L.2.1, by rw [List.length_set]; exact L0.2.2.1, fun j w hj => ?_⟩
  by_cases e : j = i
  · subst e
    have hlt : j < ls.length := by
      have := (List.getElem?_eq_some_iff.mp hj).1
      simpa using this
    rw [List.getElem?_set_self hlt] at hj
    cases hj
    exact ⟨hv, L.2.2 _ List.mem_cons_self⟩
  · rw [List.getElem?_set_ne (Ne.symm e)] at hj
    have hw := (L0.2.2.2 j w hj).1
    refine ⟨hw, L.2.2 (j, jv g w) (List.mem_cons_of_mem _ (List.mem_filter.mpr ⟨(jlist_mem ls 0 _).mpr ⟨j, w, hj, by rw [Nat.zero_add]⟩, ?_⟩))⟩
    have hc : (jv g w).category = 1 := by rw [jv_cat]; exact hw
    simp [e, hc]
end
end
section
/-! one row an instruction for J (written by wip/whole/gen05.py) -/
section
variable {g : GG} {y : MI} {d mc ms : Nat} {Q : Option Value → List AC → Prop} {h : List AC} {pc : Nat} {ls : List (Option Value)} {st : List Value}
theorem j_iconst {n : Int} {v : Int32} (hd : decode y.2.1 pc = .ok (.iconst n, 1)) (hv : Int32.ofInt n = v) (k : J g y d mc ms Q h (pc + 1) ls (.int v :: st)) : J g y d mc ms Q h pc ls (st) := by
  intro p e R s m args below meth c H locs cells slots lsr X L
  exact lv_iconst X.1.1 X.1.2.1 hd hv (k p e R s m args below meth c H locs cells slots lsr X L)
theorem j_bipush {n : Int} {v : Int32} (hd : decode y.2.1 pc = .ok (.bipush n, 2)) (hv : (Int8.ofInt n).toInt32 = v) (k : J g y d mc ms Q h (pc + 2) ls (.int v :: st)) : J g y d mc ms Q h pc ls (st) := by
  intro p e R s m args below meth c H locs cells slots lsr X L
  exact lv_bipush X.1.1 X.1.2.1 hd hv (k p e R s m args below meth c H locs cells slots lsr X L)
theorem j_sipush {n : Int} {v : Int32} (hd : decode y.2.1 pc = .ok (.sipush n, 3)) (hv : (Int16.ofInt n).toInt32 = v) (k : J g y d mc ms Q h (pc + 3) ls (.int v :: st)) : J g y d mc ms Q h pc ls (st) := by
  intro p e R s m args below meth c H locs cells slots lsr X L
  exact lv_sipush X.1.1 X.1.2.1 hd hv (k p e R s m args below meth c H locs cells slots lsr X L)
theorem j_lconst {n : Fin 2} {v : Int64} (hd : decode y.2.1 pc = .ok (.lconst n, 1)) (hv : Int64.ofNat (n : Nat) = v) (k : J g y d mc ms Q h (pc + 1) ls (.long v :: st)) : J g y d mc ms Q h pc ls (st) := by
  intro p e R s m args below meth c H locs cells slots lsr X L
  exact lv_lconst X.1.1 X.1.2.1 hd hv (k p e R s m args below meth c H locs cells slots lsr X L)
theorem j_ldc {index : Nat} {v : Int32} (hd : decode y.2.1 pc = .ok (.ldc index, 2)) (hw : Cond.constant y.1.cls index v ∈ lw_good) (k : J g y d mc ms Q h (pc + 2) ls (.int v :: st)) : J g y d mc ms Q h pc ls (st) := by
  intro p e R s m args below meth c H locs cells slots lsr X L
  exact lv_ldc X.1.1 X.1.2.1 X.1.2.2.2.2.2.1 (X.1.2.2.2.2.2.2.2.1 _ hw) hd (k p e R s m args below meth c H locs cells slots lsr X L)
theorem j_ldcw {index : Nat} {v : Int32} (hd : decode y.2.1 pc = .ok (.ldc_w index, 3)) (hw : Cond.constant y.1.cls index v ∈ lw_good) (k : J g y d mc ms Q h (pc + 3) ls (.int v :: st)) : J g y d mc ms Q h pc ls (st) := by
  intro p e R s m args below meth c H locs cells slots lsr X L
  exact lv_ldcw X.1.1 X.1.2.1 X.1.2.2.2.2.2.1 (X.1.2.2.2.2.2.2.2.1 _ hw) hd (k p e R s m args below meth c H locs cells slots lsr X L)
theorem j_ldc2 {index : Nat} {v : Int64} (hd : decode y.2.1 pc = .ok (.ldc2_w index, 3)) (hw : Cond.constantLong y.1.cls index v ∈ lw_good) (k : J g y d mc ms Q h (pc + 3) ls (.long v :: st)) : J g y d mc ms Q h pc ls (st) := by
  intro p e R s m args below meth c H locs cells slots lsr X L
  exact lv_ldc2 X.1.1 X.1.2.1 X.1.2.2.2.2.2.1 (X.1.2.2.2.2.2.2.2.1 _ hw) hd (k p e R s m args below meth c H locs cells slots lsr X L)
theorem j_iload_n {j : Fin 4} {x : Int32} (hd : decode y.2.1 pc = .ok (.iload_n j, 1)) (hl : ls[(j : Nat)]? = some (some (.int x))) (k : J g y d mc ms Q h (pc + 1) ls (.int x :: st)) : J g y d mc ms Q h pc ls (st) := by
  intro p e R s m args below meth c H locs cells slots lsr X L
  exact lv_iload_n X.1.1 X.1.2.1 hd rfl (L.at hl) (k p e R s m args below meth c H locs cells slots lsr X L)
theorem j_iload {i : Nat} {x : Int32} (hd : decode y.2.1 pc = .ok (.iload i, 2)) (hl : ls[i]? = some (some (.int x))) (k : J g y d mc ms Q h (pc + 2) ls (.int x :: st)) : J g y d mc ms Q h pc ls (st) := by
  intro p e R s m args below meth c H locs cells slots lsr X L
  exact lv_iload X.1.1 X.1.2.1 hd (L.at hl) (k p e R s m args below meth c H locs cells slots lsr X L)
theorem j_aload_n {j : Fin 4} {a : Nat} (hd : decode y.2.1 pc = .ok (.aload_n j, 1)) (hl : ls[(j : Nat)]? = some (some (.ref a))) (k : J g y d mc ms Q h (pc + 1) ls (.ref a :: st)) : J g y d mc ms Q h pc ls (st) := by
  intro p e R s m args below meth c H locs cells slots lsr X L
  exact lv_aload_n X.1.1 X.1.2.1 hd rfl (L.at hl) (k p e R s m args below meth c H locs cells slots lsr X L)
theorem j_aload {i : Nat} {a : Nat} (hd : decode y.2.1 pc = .ok (.aload i, 2)) (hl : ls[i]? = some (some (.ref a))) (k : J g y d mc ms Q h (pc + 2) ls (.ref a :: st)) : J g y d mc ms Q h pc ls (st) := by
  intro p e R s m args below meth c H locs cells slots lsr X L
  exact lv_aload X.1.1 X.1.2.1 hd (L.at hl) (k p e R s m args below meth c H locs cells slots lsr X L)
theorem j_istore_n {x : Int32} {a : Nat} {i : Nat} {j : Fin 4} {ls2 : List (Option Value)} (hd : decode y.2.1 pc = .ok (.istore_n j, 1)) (hi : (j : Nat) = i) (hn : i < y.2.2.1) (hs : ls.set i (some (.int x)) = ls2) (k : J g y d mc ms Q h (pc + 1) ls2 (st)) : J g y d mc ms Q h pc ls ((.int x) :: st) := by
  intro p e R s m args below meth c H locs cells slots lsr X L
  subst hs
  refine lv_istore_n X.1.1 X.1.2.1 hd hi L.has hn rfl (fun lsr2 L2 => ?_)
  exact k p e R s m args below meth c H locs cells slots lsr2 X (L.set rfl L2)
theorem j_istore {x : Int32} {a : Nat} {i : Nat} {j : Fin 4} {ls2 : List (Option Value)} (hd : decode y.2.1 pc = .ok (.istore i, 2))  (hn : i < y.2.2.1) (hs : ls.set i (some (.int x)) = ls2) (k : J g y d mc ms Q h (pc + 2) ls2 (st)) : J g y d mc ms Q h pc ls ((.int x) :: st) := by
  intro p e R s m args below meth c H locs cells slots lsr X L
  subst hs
  refine lv_istore X.1.1 X.1.2.1 hd L.has hn rfl (fun lsr2 L2 => ?_)
  exact k p e R s m args below meth c H locs cells slots lsr2 X (L.set rfl L2)
theorem j_astore_n {x : Int32} {a : Nat} {i : Nat} {j : Fin 4} {ls2 : List (Option Value)} (hd : decode y.2.1 pc = .ok (.astore_n j, 1)) (hi : (j : Nat) = i) (hn : i < y.2.2.1) (hs : ls.set i (some (.ref a)) = ls2) (k : J g y d mc ms Q h (pc + 1) ls2 (st)) : J g y d mc ms Q h pc ls ((.ref a) :: st) := by
  intro p e R s m args below meth c H locs cells slots lsr X L
  subst hs
  refine lv_astore_n X.1.1 X.1.2.1 hd hi L.has hn rfl (fun lsr2 L2 => ?_)
  exact k p e R s m args below meth c H locs cells slots lsr2 X (L.set rfl L2)
theorem j_iinc {i : Nat} {n : Int} {x v : Int32} {ls2 : List (Option Value)} (hd : decode y.2.1 pc = .ok (.iinc i n, 3)) (hl : ls[i]? = some (some (.int x))) (hv : x + Int32.ofInt n = v) (hn : i < y.2.2.1) (hs : ls.set i (some (.int v)) = ls2) (k : J g y d mc ms Q h (pc + 3) ls2 (st)) : J g y d mc ms Q h pc ls (st) := by
  intro p e R s m args below meth c H locs cells slots lsr X L
  subst hs
  obtain ⟨q, hq⟩ := List.getElem?_of_mem ((jlist_mem (g := g) ls 0 (i, .int x)).mpr ⟨i, .int x, hl, by rw [Nat.zero_add]; rfl⟩)
  refine lv_iinc X.1.1 X.1.2.1 hd L.has hq hv hn rfl (fun lsr2 L2 => ?_)
  exact k p e R s m args below meth c H locs cells slots lsr2 X (L.set (v := .int v) rfl L2)
theorem j_iadd {x z : Int32} (hd : decode y.2.1 pc = .ok (.iadd, 1))  (k : J g y d mc ms Q h (pc + 1) ls (.int (x + z) :: st)) : J g y d mc ms Q h pc ls (.int z :: .int x :: st) := by
  intro p e R s m args below meth c H locs cells slots lsr X L
  exact lv_iadd X.1.1 X.1.2.1 hd  (k p e R s m args below meth c H locs cells slots lsr X L)
theorem j_isub {x z : Int32} (hd : decode y.2.1 pc = .ok (.isub, 1))  (k : J g y d mc ms Q h (pc + 1) ls (.int (x - z) :: st)) : J g y d mc ms Q h pc ls (.int z :: .int x :: st) := by
  intro p e R s m args below meth c H locs cells slots lsr X L
  exact lv_isub X.1.1 X.1.2.1 hd  (k p e R s m args below meth c H locs cells slots lsr X L)
theorem j_imul {x z : Int32} (hd : decode y.2.1 pc = .ok (.imul, 1))  (k : J g y d mc ms Q h (pc + 1) ls (.int (x * z) :: st)) : J g y d mc ms Q h pc ls (.int z :: .int x :: st) := by
  intro p e R s m args below meth c H locs cells slots lsr X L
  exact lv_imul X.1.1 X.1.2.1 hd  (k p e R s m args below meth c H locs cells slots lsr X L)
theorem j_iand {x z : Int32} (hd : decode y.2.1 pc = .ok (.iand, 1))  (k : J g y d mc ms Q h (pc + 1) ls (.int (x &&& z) :: st)) : J g y d mc ms Q h pc ls (.int z :: .int x :: st) := by
  intro p e R s m args below meth c H locs cells slots lsr X L
  exact lv_iand X.1.1 X.1.2.1 hd  (k p e R s m args below meth c H locs cells slots lsr X L)
theorem j_ior {x z : Int32} (hd : decode y.2.1 pc = .ok (.ior, 1))  (k : J g y d mc ms Q h (pc + 1) ls (.int (x ||| z) :: st)) : J g y d mc ms Q h pc ls (.int z :: .int x :: st) := by
  intro p e R s m args below meth c H locs cells slots lsr X L
  exact lv_ior X.1.1 X.1.2.1 hd  (k p e R s m args below meth c H locs cells slots lsr X L)
theorem j_ixor {x z : Int32} (hd : decode y.2.1 pc = .ok (.ixor, 1))  (k : J g y d mc ms Q h (pc + 1) ls (.int (x ^^^ z) :: st)) : J g y d mc ms Q h pc ls (.int z :: .int x :: st) := by
  intro p e R s m args below meth c H locs cells slots lsr X L
  exact lv_ixor X.1.1 X.1.2.1 hd  (k p e R s m args below meth c H locs cells slots lsr X L)
theorem j_ishl {x z : Int32} (hd : decode y.2.1 pc = .ok (.ishl, 1))  (k : J g y d mc ms Q h (pc + 1) ls (.int (x <<< (z &&& 31)) :: st)) : J g y d mc ms Q h pc ls (.int z :: .int x :: st) := by
  intro p e R s m args below meth c H locs cells slots lsr X L
  exact lv_ishl X.1.1 X.1.2.1 hd  (k p e R s m args below meth c H locs cells slots lsr X L)
theorem j_ishr {x z : Int32} (hd : decode y.2.1 pc = .ok (.ishr, 1))  (k : J g y d mc ms Q h (pc + 1) ls (.int (x >>> (z &&& 31)) :: st)) : J g y d mc ms Q h pc ls (.int z :: .int x :: st) := by
  intro p e R s m args below meth c H locs cells slots lsr X L
  exact lv_ishr X.1.1 X.1.2.1 hd  (k p e R s m args below meth c H locs cells slots lsr X L)
theorem j_idiv {x z : Int32} (hd : decode y.2.1 pc = .ok (.idiv, 1)) (hne : ¬ z = 0) (k : J g y d mc ms Q h (pc + 1) ls (.int (x / z) :: st)) : J g y d mc ms Q h pc ls (.int z :: .int x :: st) := by
  intro p e R s m args below meth c H locs cells slots lsr X L
  exact lv_idiv X.1.1 X.1.2.1 hd hne (k p e R s m args below meth c H locs cells slots lsr X L)
theorem j_irem {x z : Int32} (hd : decode y.2.1 pc = .ok (.irem, 1)) (hne : ¬ z = 0) (k : J g y d mc ms Q h (pc + 1) ls (.int (x - x / z * z) :: st)) : J g y d mc ms Q h pc ls (.int z :: .int x :: st) := by
  intro p e R s m args below meth c H locs cells slots lsr X L
  exact lv_irem X.1.1 X.1.2.1 hd hne (k p e R s m args below meth c H locs cells slots lsr X L)
theorem j_ineg {x : Int32} (hd : decode y.2.1 pc = .ok (.ineg, 1)) (k : J g y d mc ms Q h (pc + 1) ls (.int (-x) :: st)) : J g y d mc ms Q h pc ls (.int x :: st) := by
  intro p e R s m args below meth c H locs cells slots lsr X L
  exact lv_ineg X.1.1 X.1.2.1 hd (k p e R s m args below meth c H locs cells slots lsr X L)
theorem j_iushr {x z v : Int32} (hd : decode y.2.1 pc = .ok (.iushr, 1)) (hv : (x.toUInt32 >>> (z.toUInt32 &&& Int32.toUInt32 31)).toInt32 = v) (k : J g y d mc ms Q h (pc + 1) ls (.int v :: st)) : J g y d mc ms Q h pc ls (.int z :: .int x :: st) := by
  intro p e R s m args below meth c H locs cells slots lsr X L
  exact lv_iushr X.1.1 X.1.2.1 hd hv (k p e R s m args below meth c H locs cells slots lsr X L)
theorem j_ladd {x z : Int64} (hd : decode y.2.1 pc = .ok (.ladd, 1)) (k : J g y d mc ms Q h (pc + 1) ls (.long (x + z) :: st)) : J g y d mc ms Q h pc ls (.long z :: .long x :: st) := by
  intro p e R s m args below meth c H locs cells slots lsr X L
  exact lv_ladd X.1.1 X.1.2.1 hd (k p e R s m args below meth c H locs cells slots lsr X L)
theorem j_lcmp {x z : Int64} (hd : decode y.2.1 pc = .ok (.lcmp, 1)) (k : J g y d mc ms Q h (pc + 1) ls (.int (lg_cmp x z) :: st)) : J g y d mc ms Q h pc ls (.long z :: .long x :: st) := by
  intro p e R s m args below meth c H locs cells slots lsr X L
  exact W.lcmp X.1.1 X.1.2.1 hd (k p e R s m args below meth c H locs cells slots lsr X L)
theorem j_dup {v : Value} (hd : decode y.2.1 pc = .ok (.dup, 1)) (hc : v.category = 1) (k : J g y d mc ms Q h (pc + 1) ls (v :: v :: st)) : J g y d mc ms Q h pc ls (v :: st) := by
  intro p e R s m args below meth c H locs cells slots lsr X L
  exact lv_dup X.1.1 X.1.2.1 hd (by rw [jv_cat]; exact hc) (k p e R s m args below meth c H locs cells slots lsr X L)
theorem j_dup2 {v w : Value} (hd : decode y.2.1 pc = .ok (.dup2, 1)) (hc : v.category = 1) (hc2 : w.category = 1) (k : J g y d mc ms Q h (pc + 1) ls (v :: w :: v :: w :: st)) : J g y d mc ms Q h pc ls (v :: w :: st) := by
  intro p e R s m args below meth c H locs cells slots lsr X L
  exact lv_dup2_11 X.1.1 X.1.2.1 hd (by rw [jv_cat]; exact hc) (by rw [jv_cat]; exact hc2) (k p e R s m args below meth c H locs cells slots lsr X L)
theorem j_if_eq {x z : Int32} {off : Int} {tgt : Nat} (hd : decode y.2.1 pc = .ok (.ifCond .eq off, 3)) (ht : (pc : Int) + off = (tgt : Int)) (kt : x = 0 → J g y d mc ms Q h tgt ls st) (kf : ¬ x = 0 → J g y d mc ms Q h (pc + 3) ls st) : J g y d mc ms Q h pc ls (.int x :: st) := by
  intro p e R s m args below meth c H locs cells slots lsr X L
  exact lv_if_eq X.1.1 X.1.2.1 hd ht (fun q => kt q p e R s m args below meth c H locs cells slots lsr X L) (fun q => kf q p e R s m args below meth c H locs cells slots lsr X L)
theorem j_icmp_eq {x z : Int32} {off : Int} {tgt : Nat} (hd : decode y.2.1 pc = .ok (.if_icmp .eq off, 3)) (ht : (pc : Int) + off = (tgt : Int)) (kt : x = z → J g y d mc ms Q h tgt ls st) (kf : ¬ x = z → J g y d mc ms Q h (pc + 3) ls st) : J g y d mc ms Q h pc ls (.int z :: .int x :: st) := by
  intro p e R s m args below meth c H locs cells slots lsr X L
  exact lv_icmp_eq X.1.1 X.1.2.1 hd ht (fun q => kt q p e R s m args below meth c H locs cells slots lsr X L) (fun q => kf q p e R s m args below meth c H locs cells slots lsr X L)
theorem j_if_ne {x z : Int32} {off : Int} {tgt : Nat} (hd : decode y.2.1 pc = .ok (.ifCond .ne off, 3)) (ht : (pc : Int) + off = (tgt : Int)) (kt : ¬ x = 0 → J g y d mc ms Q h tgt ls st) (kf : x = 0 → J g y d mc ms Q h (pc + 3) ls st) : J g y d mc ms Q h pc ls (.int x :: st) := by
  intro p e R s m args below meth c H locs cells slots lsr X L
  exact lv_if_ne X.1.1 X.1.2.1 hd ht (fun q => kt q p e R s m args below meth c H locs cells slots lsr X L) (fun q => kf q p e R s m args below meth c H locs cells slots lsr X L)
theorem j_icmp_ne {x z : Int32} {off : Int} {tgt : Nat} (hd : decode y.2.1 pc = .ok (.if_icmp .ne off, 3)) (ht : (pc : Int) + off = (tgt : Int)) (kt : ¬ x = z → J g y d mc ms Q h tgt ls st) (kf : x = z → J g y d mc ms Q h (pc + 3) ls st) : J g y d mc ms Q h pc ls (.int z :: .int x :: st) := by
  intro p e R s m args below meth c H locs cells slots lsr X L
  exact lv_icmp_ne X.1.1 X.1.2.1 hd ht (fun q => kt q p e R s m args below meth c H locs cells slots lsr X L) (fun q => kf q p e R s m args below meth c H locs cells slots lsr X L)
theorem j_if_lt {x z : Int32} {off : Int} {tgt : Nat} (hd : decode y.2.1 pc = .ok (.ifCond .lt off, 3)) (ht : (pc : Int) + off = (tgt : Int)) (kt : x < 0 → J g y d mc ms Q h tgt ls st) (kf : ¬ x < 0 → J g y d mc ms Q h (pc + 3) ls st) : J g y d mc ms Q h pc ls (.int x :: st) := by
  intro p e R s m args below meth c H locs cells slots lsr X L
  exact lv_if_lt X.1.1 X.1.2.1 hd ht (fun q => kt q p e R s m args below meth c H locs cells slots lsr X L) (fun q => kf q p e R s m args below meth c H locs cells slots lsr X L)
theorem j_icmp_lt {x z : Int32} {off : Int} {tgt : Nat} (hd : decode y.2.1 pc = .ok (.if_icmp .lt off, 3)) (ht : (pc : Int) + off = (tgt : Int)) (kt : x < z → J g y d mc ms Q h tgt ls st) (kf : ¬ x < z → J g y d mc ms Q h (pc + 3) ls st) : J g y d mc ms Q h pc ls (.int z :: .int x :: st) := by
  intro p e R s m args below meth c H locs cells slots lsr X L
  exact lv_icmp_lt X.1.1 X.1.2.1 hd ht (fun q => kt q p e R s m args below meth c H locs cells slots lsr X L) (fun q => kf q p e R s m args below meth c H locs cells slots lsr X L)
theorem j_if_ge {x z : Int32} {off : Int} {tgt : Nat} (hd : decode y.2.1 pc = .ok (.ifCond .ge off, 3)) (ht : (pc : Int) + off = (tgt : Int)) (kt : 0 ≤ x → J g y d mc ms Q h tgt ls st) (kf : ¬ 0 ≤ x → J g y d mc ms Q h (pc + 3) ls st) : J g y d mc ms Q h pc ls (.int x :: st) := by
  intro p e R s m args below meth c H locs cells slots lsr X L
  exact lv_if_ge X.1.1 X.1.2.1 hd ht (fun q => kt q p e R s m args below meth c H locs cells slots lsr X L) (fun q => kf q p e R s m args below meth c H locs cells slots lsr X L)
theorem j_icmp_ge {x z : Int32} {off : Int} {tgt : Nat} (hd : decode y.2.1 pc = .ok (.if_icmp .ge off, 3)) (ht : (pc : Int) + off = (tgt : Int)) (kt : z ≤ x → J g y d mc ms Q h tgt ls st) (kf : ¬ z ≤ x → J g y d mc ms Q h (pc + 3) ls st) : J g y d mc ms Q h pc ls (.int z :: .int x :: st) := by
  intro p e R s m args below meth c H locs cells slots lsr X L
  exact lv_icmp_ge X.1.1 X.1.2.1 hd ht (fun q => kt q p e R s m args below meth c H locs cells slots lsr X L) (fun q => kf q p e R s m args below meth c H locs cells slots lsr X L)
theorem j_if_gt {x z : Int32} {off : Int} {tgt : Nat} (hd : decode y.2.1 pc = .ok (.ifCond .gt off, 3)) (ht : (pc : Int) + off = (tgt : Int)) (kt : 0 < x → J g y d mc ms Q h tgt ls st) (kf : ¬ 0 < x → J g y d mc ms Q h (pc + 3) ls st) : J g y d mc ms Q h pc ls (.int x :: st) := by
  intro p e R s m args below meth c H locs cells slots lsr X L
  exact lv_if_gt X.1.1 X.1.2.1 hd ht (fun q => kt q p e R s m args below meth c H locs cells slots lsr X L) (fun q => kf q p e R s m args below meth c H locs cells slots lsr X L)
theorem j_icmp_gt {x z : Int32} {off : Int} {tgt : Nat} (hd : decode y.2.1 pc = .ok (.if_icmp .gt off, 3)) (ht : (pc : Int) + off = (tgt : Int)) (kt : z < x → J g y d mc ms Q h tgt ls st) (kf : ¬ z < x → J g y d mc ms Q h (pc + 3) ls st) : J g y d mc ms Q h pc ls (.int z :: .int x :: st) := by
  intro p e R s m args below meth c H locs cells slots lsr X L
  exact lv_icmp_gt X.1.1 X.1.2.1 hd ht (fun q => kt q p e R s m args below meth c H locs cells slots lsr X L) (fun q => kf q p e R s m args below meth c H locs cells slots lsr X L)
theorem j_if_le {x z : Int32} {off : Int} {tgt : Nat} (hd : decode y.2.1 pc = .ok (.ifCond .le off, 3)) (ht : (pc : Int) + off = (tgt : Int)) (kt : x ≤ 0 → J g y d mc ms Q h tgt ls st) (kf : ¬ x ≤ 0 → J g y d mc ms Q h (pc + 3) ls st) : J g y d mc ms Q h pc ls (.int x :: st) := by
  intro p e R s m args below meth c H locs cells slots lsr X L
  exact lv_if_le X.1.1 X.1.2.1 hd ht (fun q => kt q p e R s m args below meth c H locs cells slots lsr X L) (fun q => kf q p e R s m args below meth c H locs cells slots lsr X L)
theorem j_icmp_le {x z : Int32} {off : Int} {tgt : Nat} (hd : decode y.2.1 pc = .ok (.if_icmp .le off, 3)) (ht : (pc : Int) + off = (tgt : Int)) (kt : x ≤ z → J g y d mc ms Q h tgt ls st) (kf : ¬ x ≤ z → J g y d mc ms Q h (pc + 3) ls st) : J g y d mc ms Q h pc ls (.int z :: .int x :: st) := by
  intro p e R s m args below meth c H locs cells slots lsr X L
  exact lv_icmp_le X.1.1 X.1.2.1 hd ht (fun q => kt q p e R s m args below meth c H locs cells slots lsr X L) (fun q => kf q p e R s m args below meth c H locs cells slots lsr X L)
theorem j_goto {off : Int} {tgt : Nat} (hd : decode y.2.1 pc = .ok (.goto off, 3)) (ht : (pc : Int) + off = (tgt : Int)) (k : J g y d mc ms Q h (tgt) ls (st)) : J g y d mc ms Q h pc ls (st) := by
  intro p e R s m args below meth c H locs cells slots lsr X L
  exact lv_goto X.1.1 X.1.2.1 hd ht (k p e R s m args below meth c H locs cells slots lsr X L)
theorem j_ifnull {a : Nat} {off : Int} (hd : decode y.2.1 pc = .ok (.ifnull off, 3)) (k : J g y d mc ms Q h (pc + 3) ls (st)) : J g y d mc ms Q h pc ls (.ref a :: st) := by
  intro p e R s m args below meth c H locs cells slots lsr X L
  exact lv_ifnull X.1.1 X.1.2.1 hd (k p e R s m args below meth c H locs cells slots lsr X L)
theorem j_lookup {dflt : Int} {ps : Array (Int × Int)} {len : Nat} {x : Int32} {off : Int} {tgt : Nat} (hd : decode y.2.1 pc = .ok (.lookupswitch dflt ps, len)) (hp : (ps.toList.zip (ps.toList.drop 1)).all (fun (a, next) => a.1 < next.1) = true) (ho : Op.lookupswitch.offset ps.toList dflt x.toInt = off) (ht : (pc : Int) + off = (tgt : Int)) (k : J g y d mc ms Q h (tgt) ls (st)) : J g y d mc ms Q h pc ls (.int x :: st) := by
  intro p e R s m args below meth c H locs cells slots lsr X L
  exact lv_lookup X.1.1 X.1.2.1 hd hp ho ht (k p e R s m args below meth c H locs cells slots lsr X L)
theorem j_tableOut {dflt lo hi : Int} {offs : Array Int} {len : Nat} {x : Int32} {tgt : Nat} (hd : decode y.2.1 pc = .ok (.tableswitch dflt lo hi offs, len)) (hx : x.toInt < lo ∨ hi < x.toInt) (ht : (pc : Int) + dflt = (tgt : Int)) (k : J g y d mc ms Q h (tgt) ls (st)) : J g y d mc ms Q h pc ls (.int x :: st) := by
  intro p e R s m args below meth c H locs cells slots lsr X L
  exact lv_tableOut X.1.1 X.1.2.1 hd hx ht (k p e R s m args below meth c H locs cells slots lsr X L)
theorem j_tableIn {dflt lo hi : Int} {offs : Array Int} {len : Nat} {x : Int32} {off : Int} {tgt : Nat} (hd : decode y.2.1 pc = .ok (.tableswitch dflt lo hi offs, len)) (h1 : ¬ x.toInt < lo) (h2 : ¬ hi < x.toInt) (ho : offs[(x.toInt - lo).toNat]? = some off) (ht : (pc : Int) + off = (tgt : Int)) (k : J g y d mc ms Q h (tgt) ls (st)) : J g y d mc ms Q h pc ls (.int x :: st) := by
  intro p e R s m args below meth c H locs cells slots lsr X L
  exact lv_tableIn X.1.1 X.1.2.1 hd h1 h2 ho ht (k p e R s m args below meth c H locs cells slots lsr X L)
end
section
variable {g : GG} {y : MI} {d mc ms : Nat} {Q : Option Value → List AC → Prop} {h : List AC} {pc : Nat} {ls : List (Option Value)} {st : List Value}
theorem jZ.of {below : List Frame} {args : Array Value} {s : State} {kc ks : Nat} {r : Option Value} {t : State} (hq : Q r h) (b : MQ below (fun _ st o u => o = .returned (r.map (jv g)) ∧ jH g u.heap h ∧ va_F (jA g) st u) args s kc ks (jA g) t) : jZ g below args s kc ks Q t := ⟨r, h, hq, b⟩
theorem j_ireturn {x : Int32} (hd : decode y.2.1 pc = .ok (.ireturn, 1)) (hr : y.2.2.2 = some .int) (hq : Q (some (.int x)) h) : J g y d mc ms Q h pc ls [.int x] := by
  intro p e R s m args below meth c H locs cells slots lsr X L
  have hlocks := X.1.2.2.2.2.1
  refine W.widen (k := cells + mc) (n := slots + ms) (Nat.le_add_right _ _) (Nat.le_add_right _ _) ?_
  intro T hT S
  obtain ⟨t, a, b⟩ := W.iret (v := x) (Qc := fun _ st o u => o = .returned ((some (Value.int x)).map (jv g)) ∧ jH g u.heap h ∧ va_F (jA g) st u) (free := jA g) X.1.1 X.1.2.1 (X.1.2.2.2.1.trans hr) (fun t ht hW => ⟨rfl, by rw [ht]; exact X.2.2.1, X.2.2.2.F ht⟩) X.2.2.2.2.2 hd hlocks T hT S
  exact ⟨t, a, jZ.of hq b⟩
theorem j_zreturn {x : Bool} (hd : decode y.2.1 pc = .ok (.ireturn, 1)) (hr : y.2.2.2 = some .boolean) {v : Int32} (hv : v = (match x with | true => 1 | false => 0)) (hq : Q (some (.int v)) h) : J g y d mc ms Q h pc ls [.int v] := by
  intro p e R s m args below meth c H locs cells slots lsr X L
  have hlocks := X.1.2.2.2.2.1
  refine W.widen (k := cells + mc) (n := slots + ms) (Nat.le_add_right _ _) (Nat.le_add_right _ _) ?_
  intro T hT S
  have hn : narrow .boolean (.int v) = .int v := by subst hv; cases x <;> rfl
  obtain ⟨t, a, b⟩ := W.zret (v := v) (Qc := fun _ st o u => o = .returned ((some (Value.int v)).map (jv g)) ∧ jH g u.heap h ∧ va_F (jA g) st u) (free := jA g) X.1.1 X.1.2.1 (X.1.2.2.2.1.trans hr) hn (fun t ht hW => ⟨rfl, by rw [ht]; exact X.2.2.1, X.2.2.2.F ht⟩) X.2.2.2.2.2 hd hlocks T hT S
  exact ⟨t, a, jZ.of hq b⟩
theorem j_lreturn {x : Int64} (hd : decode y.2.1 pc = .ok (.lreturn, 1)) (hr : y.2.2.2 = some .long) (hq : Q (some (.long x)) h) : J g y d mc ms Q h pc ls [.long x] := by
  intro p e R s m args below meth c H locs cells slots lsr X L
  have hlocks := X.1.2.2.2.2.1
  refine W.widen (k := cells + mc) (n := slots + ms) (Nat.le_add_right _ _) (Nat.le_add_right _ _) ?_
  intro T hT S
  obtain ⟨t, a, b⟩ := W.lret (v := x) (Qc := fun _ st o u => o = .returned ((some (Value.long x)).map (jv g)) ∧ jH g u.heap h ∧ va_F (jA g) st u) (free := jA g) X.1.1 X.1.2.1 (X.1.2.2.2.1.trans hr) (fun t ht hW => ⟨rfl, by rw [ht]; exact X.2.2.1, X.2.2.2.F ht⟩) X.2.2.2.2.2 hd hlocks T hT S
  exact ⟨t, a, jZ.of hq b⟩
theorem j_return (hd : decode y.2.1 pc = .ok (.return_, 1)) (hr : y.2.2.2 = none) (hq : Q none h) : J g y d mc ms Q h pc ls [] := by
  intro p e R s m args below meth c H locs cells slots lsr X L
  have hlocks := X.1.2.2.2.2.1
  refine W.widen (k := cells + mc) (n := slots + ms) (Nat.le_add_right _ _) (Nat.le_add_right _ _) ?_
  intro T hT S
  obtain ⟨t, a, b⟩ := W.vret (Qc := fun _ st o u => o = .returned ((none : Option Value).map (jv g)) ∧ jH g u.heap h ∧ va_F (jA g) st u) (free := jA g) X.1.1 X.1.2.1 (X.1.2.2.2.1.trans hr) (fun t ht hW => ⟨rfl, by rw [ht]; exact X.2.2.1, X.2.2.2.F ht⟩) X.2.2.2.2.2 hd hlocks T hT S
  exact ⟨t, a, jZ.of hq b⟩
end
end
section
/-! rows for fields, arrays, new cells -/
theorem jad_inj {g : GG} {H : Heap} {h : List AC} (X : jH g H h) {i j : Nat} (e : jad g i = jad g j) : i = j := by
  have hb := X.2.2.1
  cases i with
  | zero => cases j with
    | zero => rfl
    | succ j =>
      have : g.2.1 = g.2.2.1 + j := e
      omega
  | succ i => cases j with
    | zero =>
      have : g.2.2.1 + i = g.2.1 := e
      omega
    | succ j =>
      have : g.2.2.1 + i = g.2.2.1 + j := e
      omega
theorem jad_A {g : GG} {k : Nat} (h : 0 < k) : jA g (jad g k) := by
  cases k with
  | zero => omega
  | succ k => exact Nat.le_add_right _ _
theorem jcell.kept {g : GG} {H H1 : Heap} {a : Nat} {c : AC} (X : jcell g H a c) (hq : H1[a]? = H[a]?) : jcell g H1 a c := by
  obtain ⟨cell, h1, h2⟩ := X
  exact ⟨cell, hq.trans h1, h2⟩
theorem jH.set {g : GG} {H H1 : Heap} {h : List AC} {a : Nat} {c0 c : AC} (X : jH g H h) (ha : h[a]? = some c0) (hz : H1.size = H.size) (hq : ∀ q : Nat, q ≠ jad g a → H1[q]? = H[q]?) (hc : jcell g H1 (jad g a) c) (h11 : c.1 = c0.1) : jH g H1 (h.set a c) := by
  refine ⟨by rw [List.length_set]; exact X.1, by rw [hz, List.length_set]; exact X.2.1, X.2.2.1, fun c' hc' => ?_, fun k c' hk => ?_⟩
  · by_cases e : a = 0
    · subst e
      have hl : 0 < h.length := (List.getElem?_eq_some_iff.mp ha).1
      rw [List.getElem?_set_self hl] at hc'
      cases hc'
      rw [h11]
      exact X.2.2.2.1 c0 ha
    · rw [List.getElem?_set_ne e] at hc'
      exact X.2.2.2.1 c' hc'
  · by_cases e : k = a
    · subst e
      have hl : k < h.length := (List.getElem?_eq_some_iff.mp ha).1
      rw [List.getElem?_set_self hl] at hk
      cases hk
      exact hc
    · rw [List.getElem?_set_ne (Ne.symm e)] at hk
      exact (X.2.2.2.2 k c' hk).kept (hq _ (fun q => e (jad_inj X q)))
theorem jH.push {g : GG} {H H1 : Heap} {h : List AC} {c : AC} (X : jH g H h) (hz : H1.size = H.size + 1) (hq : ∀ q : Nat, q < H.size → H1[q]? = H[q]?) (hc : jcell g H1 H.size c) : jH g H1 (h ++ [c]) ∧ jad g h.length = H.size := by
  have hl := X.1
  have hs := X.2.1
  have hb := X.2.2.1
  have had : jad g h.length = H.size := by
    cases hn : h.length with
    | zero => omega
    | succ n => show g.2.2.1 + n = H.size; omega
  refine ⟨⟨by simp, by rw [hz]; simp; omega, hb, fun c' hc' => ?_, fun k c' hk => ?_⟩, had⟩
  · rw [List.getElem?_append_left (by omega)] at hc'
    exact X.2.2.2.1 c' hc'
  · by_cases hk2 : k < h.length
    · rw [List.getElem?_append_left hk2] at hk
      have hlt : jad g k < H.size := by
        obtain ⟨cell, h1, -⟩ := X.2.2.2.2 k c' hk
        exact (Array.getElem?_eq_some_iff.mp h1).1
      exact (X.2.2.2.2 k c' hk).kept (hq _ hlt)
    · rw [List.getElem?_append_right (by omega)] at hk
      have h0 : k - h.length < 1 := (List.getElem?_eq_some_iff.mp hk).1
      have hke : k = h.length := by omega
      subst hke
      rw [Nat.sub_self] at hk
      cases hk
      rw [had]
      exact hc
theorem jH.pos {g : GG} {H : Heap} {h : List AC} {a : Nat} {c : AC} (X : jH g H h) (ha : h[a]? = some c) (hc : c.1 ≠ 11) : 0 < a := by
  cases a with
  | zero => exact absurd (X.2.2.2.1 c ha) hc
  | succ a => exact Nat.succ_pos a
/-- what the tables say of a class: its words, its fields' types, its names apart -/
theorem jcls_w : ∀ (ci : Nat) (q : vw_C), vwCl[ci]? = some q → ∀ w ∈ u_ws q.1 q.2.1 q.2.2, w ∈ lw_good := by
  have key : ∀ {l : List Cond}, (∀ w ∈ l, w ∈ lw_tbl) → l.all goodWord = true → ∀ w ∈ l, w ∈ lw_good := fun h1 h2 w hw => lw_good_of (h1 w hw) (List.all_eq_true.mp h2 w hw)
  intro ci q h
  match ci, h with
  | 0, h => cases h; exact key (l := wsX00) (by decide +kernel) (by decide +kernel)
  | 1, h => cases h; exact key (l := wsX10) (by decide +kernel) (by decide +kernel)
  | 2, h => cases h; exact key (l := wsX20) (by decide +kernel) (by decide +kernel)
  | 3, h => cases h; exact key (l := wsX30) (by decide +kernel) (by decide +kernel)
  | 4, h => cases h; exact key (l := wsX40) (by decide +kernel) (by decide +kernel)
  | 5, h => cases h; exact key (l := wsX50) (by decide +kernel) (by decide +kernel)
  | 6, h => cases h; exact key (l := wsX60) (by decide +kernel) (by decide +kernel)
  | 7, h => cases h; exact key (l := wsX70) (by decide +kernel) (by decide +kernel)
  | n + 8, h => simp [vwCl] at h
theorem jcls_t : ∀ (ci : Nat) (q : vw_C), vwCl[ci]? = some q → ∃ ty : Nat → FieldType, (∀ k, k < q.2.2 → parseFieldDescriptor (q.2.1 k).2.2.1 = some (ty k)) ∧ ∀ a, a < q.2.2 → ∀ b, b < q.2.2 → a ≠ b → (q.2.1 a).2.1 ≠ (q.2.1 b).2.1 := by
  intro ci q h
  match ci, h with
  | 0, h => cases h; exact ⟨tyX0, tyX0_ok, nmX0⟩
  | 1, h => cases h; exact ⟨tyX1, tyX1_ok, nmX1⟩
  | 2, h => cases h; exact ⟨tyX2, tyX2_ok, nmX2⟩
  | 3, h => cases h; exact ⟨tyX3, tyX3_ok, nmX3⟩
  | 4, h => cases h; exact ⟨tyX4, tyX4_ok, nmX4⟩
  | 5, h => cases h; exact ⟨tyX5, tyX5_ok, nmX5⟩
  | 6, h => cases h; exact ⟨tyX6, tyX6_ok, nmX6⟩
  | 7, h => cases h; exact ⟨tyX7, tyX7_ok, nmX7⟩
  | n + 8, h => simp [vwCl] at h
/-- a link to a field: class number, place, final, type -/
def jfl (own : String) (idx ci i : Nat) (fin : Bool) (ty : FieldType) : Prop :=
  ci < 8 ∧ ∃ q : vw_C, vwCl[ci]? = some q ∧ i < q.2.2 ∧ Cond.fieldLink own idx (q.2.1 i).1 (q.2.1 i).2.1 (q.2.1 i).2.2.1 ∈ lw_good ∧ (q.2.1 i).2.2.2 = fin ∧ parseFieldDescriptor (q.2.1 i).2.2.1 = some ty ∧ (fin = true → (q.2.1 i).1 = own)
def jfit (ty : FieldType) (v : Value) : Prop := ∀ g : GG, narrow ty (jv g v) = jv g v ∧ fits ty (jv g v) = true
def iv (n : Nat) (f : Nat → Int32) : List Value := (List.range n).map fun j => .int (f j)
def b2i : Bool → Int32
  | true => 1
  | false => 0
def zv (n : Nat) (f : Nat → Bool) : List Value := (List.range n).map fun j => .int (b2i (f j))
theorem iv_len (n : Nat) (f : Nat → Int32) : (iv n f).length = n := by simp [iv]
theorem zv_len (n : Nat) (f : Nat → Bool) : (zv n f).length = n := by simp [zv]
theorem iv_at {n : Nat} (f : Nat → Int32) {j : Nat} (hj : j < n) : (iv n f)[j]? = some (.int (f j)) := by simp [iv, hj]
theorem zv_at {n : Nat} (f : Nat → Bool) {j : Nat} (hj : j < n) : (zv n f)[j]? = some (.int (b2i (f j))) := by simp [zv, hj]
theorem iv_in {n : Nat} {f : Nat → Int32} {j : Nat} {v : Value} (h : (iv n f)[j]? = some v) : j < n ∧ v = .int (f j) := by
  have hj : j < n := by
    have := (List.getElem?_eq_some_iff.mp h).1
    rwa [iv_len] at this
  rw [iv_at f hj] at h
  exact ⟨hj, (Option.some.inj h).symm⟩
theorem zv_in {n : Nat} {f : Nat → Bool} {j : Nat} {v : Value} (h : (zv n f)[j]? = some v) : j < n ∧ v = .int (b2i (f j)) := by
  have hj : j < n := by
    have := (List.getElem?_eq_some_iff.mp h).1
    rwa [zv_len] at this
  rw [zv_at f hj] at h
  exact ⟨hj, (Option.some.inj h).symm⟩
theorem jcell_put {g : GG} {H' : Heap} {a ci i : Nat} {fs : List Value} {v : Value} {cell : Cell} {q : vw_C} (hc8 : ci < 8) (hq : vwCl[ci]? = some q) (hap : ∀ x y, x < q.2.2 → y < q.2.2 → x ≠ y → g.2.2.2.1.2 ci x ≠ g.2.2.2.1.2 ci y) (hi : i < q.2.2) (c2 : ∀ z, cell.vm ≠ .statics z) (c3 : cell.vm ≠ .unknown) (e1 : cell.cls = g.2.2.2.1.1 ci) (e2 : cell.vm = .none)
    (e4 : ∀ q : vw_C, vwCl[ci]? = some q → fs.length = q.2.2) (e3 : ∀ (k : Nat) (v : Value), fs[k]? = some v → cell.slots[g.2.2.2.1.2 ci k]? = some (jv g v)) (g1 : H'[a]? = some (cell.setSlot (g.2.2.2.1.2 ci i) (jv g v))) : jcell g H' a (ci, fs.set i v) := by
  have hN : fs.length = q.2.2 := e4 q hq
  have hlen : i < fs.length := by rw [hN]; exact hi
  refine ⟨_, g1, c2, c3, Or.inl ⟨hc8, e1, e2, fun q' hq' => by rw [List.length_set]; exact e4 q' hq', fun j w hw => ?_⟩⟩
  by_cases hji : j = i
  · subst hji
    rw [List.getElem?_set_self hlen] at hw
    cases hw
    obtain ⟨v0, hv0⟩ : ∃ v0, fs[j]? = some v0 := ⟨_, List.getElem?_eq_getElem hlen⟩
    have := k2_hasslot (e3 j v0 hv0)
    simp [Cell.setSlot, this]
  · rw [List.getElem?_set_ne (Ne.symm hji)] at hw
    have hj := e3 j w hw
    have hjN : j < q.2.2 := by rw [← hN]; exact (List.getElem?_eq_some_iff.mp hw).1
    have hne := hap i j hi hjN (Ne.symm hji)
    simp only [Cell.setSlot]
    rw [Array.getElem?_setIfInBounds_ne hne]
    exact hj
section
variable {g : GG} {y : MI} {d mc ms : Nat} {Q : Option Value → List AC → Prop} {h : List AC} {pc : Nat} {ls : List (Option Value)} {st : List Value}
theorem j_getf {idx ci i a : Nat} {fin : Bool} {ty : FieldType} {fs : List Value} {v : Value} (hd : decode y.2.1 pc = .ok (.getfield idx, 3)) (hl : jfl y.1.cls idx ci i fin ty) (ha : h[a]? = some (ci, fs)) (hv : fs[i]? = some v) (k : J g y d mc ms Q h (pc + 3) ls (v :: st)) : J g y d mc ms Q h pc ls (.ref a :: st) := by
  intro p e R s m args below meth c H locs cells slots lsr X L
  obtain ⟨hc8, q, hq, hi, hlk, -⟩ := hl
  obtain ⟨cell, c1, c2, c3, c4⟩ := X.2.2.1.2.2.2.2 a _ ha
  rcases c4 with ⟨-, e1, e2, e4, e3⟩ | ⟨c8, -⟩
  · obtain ⟨hS, hfc, kC, hkC, hkind⟩ := X.1.2.2.2.2.2.2.2.2.1.1.1 ci q hq
    obtain ⟨cf, kf, fi, f, hf, hsl⟩ := hS i hi
    have hin := jcls_w ci q hq
    refine W.getf (cell := cell) (v := jv g v) X.1.1 X.1.2.1 X.1.2.2.2.2.2.1 (X.1.2.2.2.2.2.2.2.1 _ hlk) hf (u_facts hfc hkC (u_lays X.1.2.2.2.2.2.2.2.1 hin hi) hf).1 c1 c3 ?_ rfl rfl hd (k p e R s m args below meth c H locs cells slots lsr X L)
    rw [hsl]
    exact e3 i v hv
  · exact absurd hc8 (Nat.not_lt.mpr c8)
theorem j_putf {idx ci i a : Nat} {ty : FieldType} {fs : List Value} {v : Value} {h2 : List AC} (hd : decode y.2.1 pc = .ok (.putfield idx, 3)) (hl : jfl y.1.cls idx ci i false ty) (hv : jfit ty v) (ha : h[a]? = some (ci, fs)) (hs : h.set a (ci, fs.set i v) = h2) (k : J g y d mc ms Q h2 (pc + 3) ls st) : J g y d mc ms Q h pc ls (v :: .ref a :: st) := by
  intro p e R s m args below meth c H locs cells slots lsr X L
  subst hs
  obtain ⟨hc8, q, hq, hi, hlk, hfin, hty, -⟩ := hl
  obtain ⟨cell, c1, c2, c3, c4⟩ := X.2.2.1.2.2.2.2 a _ ha
  rcases c4 with ⟨-, e1, e2, e4, e3⟩ | ⟨c8, -⟩
  · have hK := X.1.2.2.2.2.2.2.2.2.1.1
    obtain ⟨hS, hfc, kC, hkC, hkind⟩ := hK.1 ci q hq
    obtain ⟨cf, kf, fi, f, hf, hsl⟩ := hS i hi
    have hin := jcls_w ci q hq
    obtain ⟨ty0, hty0, hnm⟩ := jcls_t ci q hq
    have hts := X.1.2.2.2.2.2.2.2.1
    have hap := va_apart (own := y.1.cls) hts hin ty0 hty0 hnm hK hq
    have hlay := hts _ (hin _ (u_in_lay hi))
    unfold u_lay at hlay
    rw [if_neg (by rw [hfin]; decide)] at hlay
    have hst := (u_facts hfc hkC (u_lays hts hin hi) hf).1
    have h6 := u_store hfc hkC hkind hlay hf hty (hv g).1 (hv g).2
    have hpos := X.2.2.1.pos ha (by show ci ≠ 11; omega)
    have hN : fs.length = q.2.2 := e4 q hq
    have hlen : i < fs.length := by rw [hN]; exact hi
    obtain ⟨v0, hv0⟩ : ∃ v0, fs[i]? = some v0 := ⟨_, List.getElem?_eq_getElem hlen⟩
    refine W.putK X.1.1 X.1.2.1 (f := f) ⟨X.1.2.2.2.2.2.1, hts _ hlk, ⟨_, _, _, hf⟩, hst⟩ (by rw [e1]; exact h6) c1 e2 (by rw [hsl]; exact k2_hasslot (e3 i v0 hv0)) rfl rfl hd fun H' g1 g2 g3 => ?_
    rw [hsl] at g1 ⊢
    exact k p e R s m args below meth c H' _ cells slots lsr ⟨X.1, X.2.1, X.2.2.1.set ha g2 g3 (jcell_put hc8 hq hap hi c2 c3 e1 e2 e4 e3 g1) rfl, X.2.2.2.put g2 g3 (jad_A hpos)⟩ L
  · exact absurd hc8 (Nat.not_lt.mpr c8)
theorem j_putF {idx ci i a : Nat} {ty : FieldType} {fs : List Value} {v : Value} {h2 : List AC} (hd : decode y.2.1 pc = .ok (.putfield idx, 3)) (hl : jfl y.1.cls idx ci i true ty) (hinit : y.1.name = "<init>") (hv : jfit ty v) (ha : h[a]? = some (ci, fs)) (hs : h.set a (ci, fs.set i v) = h2) (k : J g y d mc ms Q h2 (pc + 3) ls st) : J g y d mc ms Q h pc ls (v :: .ref a :: st) := by
  intro p e R s m args below meth c H locs cells slots lsr X L
  subst hs
  obtain ⟨hc8, q, hq, hi, hlk, hfin, hty, hdecl⟩ := hl
  have hdecl := hdecl rfl
  obtain ⟨cell, c1, c2, c3, c4⟩ := X.2.2.1.2.2.2.2 a _ ha
  rcases c4 with ⟨-, e1, e2, e4, e3⟩ | ⟨c8, -⟩
  · have hK := X.1.2.2.2.2.2.2.2.2.1.1
    obtain ⟨hS, hfc, kC, hkC, hkind⟩ := hK.1 ci q hq
    obtain ⟨cf, kf, fi, f, hf, hsl⟩ := hS i hi
    have hin := jcls_w ci q hq
    obtain ⟨ty0, hty0, hnm⟩ := jcls_t ci q hq
    have hts := X.1.2.2.2.2.2.2.2.1
    have hown := X.1.2.2.2.2.2.1
    have hap := va_apart (own := y.1.cls) hts hin ty0 hty0 hnm hK hq
    have hlay := hts _ (hin _ (u_in_lay hi))
    unfold u_lay at hlay
    rw [if_pos hfin] at hlay
    have hst := (u_facts hfc hkC (u_lays hts hin hi) hf).1
    have hcf : m.cls = cf := by
      obtain ⟨_, _, c', _, _, _, -, -, hf', -, -, -, hown2, -⟩ := Cond.laysFinal_spec hlay
      have z1 : c' = cf := by have := hf.symm.trans hf'; simp at this; exact this.1.symm
      rw [hdecl] at hown2
      rw [← z1]; exact Option.some.inj (hown.symm.trans hown2)
    have h6 := u_fits hfc hkC hkind (Or.inr hlay) hf hty (hv g).1 (hv g).2
    have hpos := X.2.2.1.pos ha (by show ci ≠ 11; omega)
    have hN : fs.length = q.2.2 := e4 q hq
    have hlen : i < fs.length := by rw [hN]; exact hi
    obtain ⟨v0, hv0⟩ : ∃ v0, fs[i]? = some v0 := ⟨_, List.getElem?_eq_getElem hlen⟩
    refine W.putFinK X.1.1 X.1.2.1 hown (hts _ hlk) hf hst hcf (X.1.2.2.2.2.2.2.1.trans hinit) (by rw [e1]; exact h6) c1 e2 (by rw [hsl]; exact k2_hasslot (e3 i v0 hv0)) rfl rfl hd fun H' g1 g2 g3 => ?_
    rw [hsl] at g1 ⊢
    exact k p e R s m args below meth c H' _ cells slots lsr ⟨X.1, X.2.1, X.2.2.1.set ha g2 g3 (jcell_put hc8 hq hap hi c2 c3 e1 e2 e4 e3 g1) rfl, X.2.2.2.put g2 g3 (jad_A hpos)⟩ L
  · exact absurd hc8 (Nat.not_lt.mpr c8)
/-- an array's cell -/
theorem jarr {H : Heap} {h : List AC} {a t : Nat} {vs : List Value} (X : jH g H h) (ht : 8 ≤ t) (ha : h[a]? = some (t, vs)) : ∃ cell : Cell, H[jad g a]? = some cell ∧ (∀ q, cell.vm ≠ .statics q) ∧ cell.vm ≠ .unknown ∧ cell.cls = g.2.2.2.2 t ∧ cell.slots.size = vs.length ∧ ∀ (k : Nat) (v : Value), vs[k]? = some v → cell.slots[k]? = some (jv g v) := by
  obtain ⟨cell, c1, c2, c3, c4⟩ := X.2.2.2.2 a _ ha
  rcases c4 with ⟨c8, -⟩ | ⟨-, e1, e2, e3⟩
  · exact absurd ht (Nat.not_le.mpr c8)
  · exact ⟨cell, c1, c2, c3, e1, e2, e3⟩
theorem jty_8 {t : Nat} {ty : FieldType} (ht : jty t = some ty) : 8 ≤ t := by
  match t, ht with
  | 0, h | 1, h | 2, h | 3, h | 4, h | 5, h | 6, h | 7, h => simp [jty] at h
  | n + 8, _ => omega
theorem jarrOf {s : State} (hK : jK g s) {t : Nat} {ty : FieldType} (ht : jty t = some ty) {cell : Cell} (hc : cell.cls = g.2.2.2.2 t) (hv : ∀ q, cell.vm ≠ .statics q) : s.isArrayOf cell ty := by
  obtain ⟨k, comp, h1, h2, -⟩ := hK.2.1 t ty ht
  exact ⟨hv, k, by rw [hc]; exact h1, comp, h2⟩
theorem j_iald {a t n : Nat} {f : Nat → Int32} {i : Int32} (hd : decode y.2.1 pc = .ok (.iaload, 1)) (ha : h[a]? = some (t, iv n f)) (ht : jty t = some .int) (hi : vp_in i n) (k : J g y d mc ms Q h (pc + 1) ls (.int (f i.toNatClampNeg) :: st)) : J g y d mc ms Q h pc ls (.int i :: .ref a :: st) := by
  intro p e R s m args below meth c H locs cells slots lsr X L
  obtain ⟨cell, c1, c2, c3, e1, e2, e3⟩ := jarr X.2.2.1 (jty_8 ht) ha
  have hlt : i.toNatClampNeg < n := Nat.not_le.mp fun q => hi (Or.inr q)
  exact W.iald (v := .int (f i.toNatClampNeg)) X.1.1 X.1.2.1 c1 (jarrOf X.1.2.2.2.2.2.2.2.2.1 ht e1 c2) c3 (by rw [e2, iv_len]; exact hi) (e3 _ _ (iv_at f hlt)) rfl rfl hd (k p e R s m args below meth c H locs cells slots lsr X L)
theorem j_zald {a n : Nat} {f : Nat → Bool} {i : Int32} (hd : decode y.2.1 pc = .ok (.baload, 1)) (ha : h[a]? = some (9, zv n f)) (hi : vp_in i n) (k : J g y d mc ms Q h (pc + 1) ls (.int (b2i (f i.toNatClampNeg)) :: st)) : J g y d mc ms Q h pc ls (.int i :: .ref a :: st) := by
  intro p e R s m args below meth c H locs cells slots lsr X L
  obtain ⟨cell, c1, c2, c3, e1, e2, e3⟩ := jarr X.2.2.1 (by decide) ha
  have hlt : i.toNatClampNeg < n := Nat.not_le.mp fun q => hi (Or.inr q)
  exact W.zald (v := .int (b2i (f i.toNatClampNeg))) X.1.1 X.1.2.1 c1 (jarrOf X.1.2.2.2.2.2.2.2.2.1 rfl e1 c2) c3 (by rw [e2, zv_len]; exact hi) (e3 _ _ (zv_at f hlt)) rfl rfl hd (k p e R s m args below meth c H locs cells slots lsr X L)
theorem j_aald {a n b : Nat} {vs : List Value} {i : Int32} (hd : decode y.2.1 pc = .ok (.aaload, 1)) (ha : h[a]? = some (10, vs)) (hn : vs.length = n) (hi : vp_in i n) (hv : vs[i.toNatClampNeg]? = some (.ref b)) (k : J g y d mc ms Q h (pc + 1) ls (.ref b :: st)) : J g y d mc ms Q h pc ls (.int i :: .ref a :: st) := by
  intro p e R s m args below meth c H locs cells slots lsr X L
  obtain ⟨cell, c1, c2, c3, e1, e2, e3⟩ := jarr X.2.2.1 (by decide) ha
  exact W.aald (v := jv g (.ref b)) (ty := .object "LychWeights$Scene") X.1.1 X.1.2.1 c1 (jarrOf X.1.2.2.2.2.2.2.2.2.1 rfl e1 c2) rfl c3 (by rw [e2, hn]; exact hi) (e3 _ _ hv) rfl rfl hd (k p e R s m args below meth c H locs cells slots lsr X L)
theorem j_alen {a t : Nat} {vs : List Value} {ty : FieldType} {x : Int32} (hd : decode y.2.1 pc = .ok (.arraylength, 1)) (ha : h[a]? = some (t, vs)) (ht : jty t = some ty) (hx : Int32.ofNat vs.length = x) (k : J g y d mc ms Q h (pc + 1) ls (.int x :: st)) : J g y d mc ms Q h pc ls (.ref a :: st) := by
  intro p e R s m args below meth c H locs cells slots lsr X L
  obtain ⟨cell, c1, c2, c3, e1, e2, e3⟩ := jarr X.2.2.1 (jty_8 ht) ha
  exact W.alen (n := x) X.1.1 X.1.2.1 c1 (jarrOf X.1.2.2.2.2.2.2.2.2.1 ht e1 c2) (by rw [e2]; exact hx) rfl rfl hd (k p e R s m args below meth c H locs cells slots lsr X L)
theorem jcell_store {H H' : Heap} {a t j : Nat} {vs : List Value} {v : Value} {cell : Cell} (ht : 8 ≤ t) (hj : j < vs.length) (c2 : ∀ z, cell.vm ≠ .statics z) (c3 : cell.vm ≠ .unknown) (e1 : cell.cls = g.2.2.2.2 t) (e2 : cell.slots.size = vs.length) (e3 : ∀ (k : Nat) (v : Value), vs[k]? = some v → cell.slots[k]? = some (jv g v)) (g1 : H'[a]? = some (cell.setSlot j (jv g v))) : jcell g H' a (t, vs.set j v) := by
  refine ⟨_, g1, c2, c3, Or.inr ⟨ht, e1, ?_, fun k w hw => ?_⟩⟩
  · simp [Cell.setSlot, e2]
  · by_cases hk : k = j
    · subst hk
      rw [List.getElem?_set_self hj] at hw
      cases hw
      simp [Cell.setSlot, e2, hj]
    · rw [List.getElem?_set_ne (Ne.symm hk)] at hw
      simp only [Cell.setSlot]
      rw [Array.getElem?_setIfInBounds_ne (Ne.symm hk)]
      exact e3 k w hw
theorem iv_set {n : Nat} (f : Nat → Int32) (j : Nat) (x : Int32) : (iv n f).set j (.int x) = iv n (upd f j x) := by
  apply List.ext_getElem?
  intro k
  by_cases hk : k < n
  · by_cases e : k = j
    · subst e
      rw [List.getElem?_set_self (by rw [iv_len]; exact hk), iv_at _ hk]
      simp [upd]
    · rw [List.getElem?_set_ne (Ne.symm e), iv_at _ hk, iv_at _ hk]
      simp [upd, e]
  · rw [List.getElem?_eq_none (by rw [List.length_set, iv_len]; omega), List.getElem?_eq_none (by rw [iv_len]; omega)]
def updB (f : Nat → Bool) (k : Nat) (x : Bool) : Nat → Bool := fun j => if j = k then x else f j
theorem zv_set {n : Nat} (f : Nat → Bool) (j : Nat) (x : Bool) : (zv n f).set j (.int (b2i x)) = zv n (updB f j x) := by
  apply List.ext_getElem?
  intro k
  by_cases hk : k < n
  · by_cases e : k = j
    · subst e
      rw [List.getElem?_set_self (by rw [zv_len]; exact hk), zv_at _ hk]
      simp [updB]
    · rw [List.getElem?_set_ne (Ne.symm e), zv_at _ hk, zv_at _ hk]
      simp [updB, e]
  · rw [List.getElem?_eq_none (by rw [List.length_set, zv_len]; omega), List.getElem?_eq_none (by rw [zv_len]; omega)]
theorem j_iast {a n : Nat} {f : Nat → Int32} {i x : Int32} {h2 : List AC} (hd : decode y.2.1 pc = .ok (.iastore, 1)) (ha : h[a]? = some (8, iv n f)) (hi : vp_in i n) (hs : h.set a (8, iv n (upd f i.toNatClampNeg x)) = h2) (k : J g y d mc ms Q h2 (pc + 1) ls st) : J g y d mc ms Q h pc ls (.int x :: .int i :: .ref a :: st) := by
  intro p e R s m args below meth c H locs cells slots lsr X L
  subst hs
  obtain ⟨cell, c1, c2, c3, e1, e2, e3⟩ := jarr X.2.2.1 (by decide) ha
  have hlt : i.toNatClampNeg < n := Nat.not_le.mp fun q => hi (Or.inr q)
  refine W.iast X.1.1 X.1.2.1 c1 (jarrOf (t := 8) X.1.2.2.2.2.2.2.2.2.1 rfl e1 c2) c3 (by rw [e2, iv_len]; exact hi) rfl rfl hd fun H' g1 g2 g3 => ?_
  have hc := jcell_store (g := g) (H := H) (v := .int x) (by decide) (by rw [iv_len]; exact hlt) c2 c3 e1 e2 e3 g1
  rw [iv_set] at hc
  exact k p e R s m args below meth c H' _ cells slots lsr ⟨X.1, X.2.1, X.2.2.1.set ha g2 g3 hc rfl, X.2.2.2.put g2 g3 (jad_A (X.2.2.1.pos ha (fun q => by cases q)))⟩ L
theorem j_zast {a n : Nat} {f : Nat → Bool} {i x : Int32} {b : Bool} {h2 : List AC} (hd : decode y.2.1 pc = .ok (.bastore, 1)) (hb : x = b2i b) (ha : h[a]? = some (9, zv n f)) (hi : vp_in i n) (hs : h.set a (9, zv n (updB f i.toNatClampNeg b)) = h2) (k : J g y d mc ms Q h2 (pc + 1) ls st) : J g y d mc ms Q h pc ls (.int x :: .int i :: .ref a :: st) := by
  intro p e R s m args below meth c H locs cells slots lsr X L
  subst hs
  subst hb
  obtain ⟨cell, c1, c2, c3, e1, e2, e3⟩ := jarr X.2.2.1 (by decide) ha
  have hlt : i.toNatClampNeg < n := Nat.not_le.mp fun q => hi (Or.inr q)
  refine W.zast X.1.1 X.1.2.1 c1 (jarrOf (t := 9) X.1.2.2.2.2.2.2.2.2.1 rfl e1 c2) c3 (by rw [e2, zv_len]; exact hi) rfl rfl hd fun H' g1 g2 g3 => ?_
  have hn : narrow .boolean (.int (b2i b)) = .int (b2i b) := by cases b <;> rfl
  rw [hn] at g1
  have hc := jcell_store (g := g) (H := H) (v := .int (b2i b)) (by decide) (by rw [zv_len]; exact hlt) c2 c3 e1 e2 e3 g1
  rw [zv_set] at hc
  exact k p e R s m args below meth c H' _ cells slots lsr ⟨X.1, X.2.1, X.2.2.1.set ha g2 g3 hc rfl, X.2.2.2.put g2 g3 (jad_A (X.2.2.1.pos ha (fun q => by cases q)))⟩ L
end
end
section
/-! rows for new cells and for calls -/
def jnl (own : String) (idx ci : Nat) (N : Nat) : Prop := ci < 8 ∧ ∃ q : vw_C, vwCl[ci]? = some q ∧ q.2.2 = N ∧ Cond.classLink own idx q.1 ∈ lw_good ∧ Cond.instantiable q.1 N ∈ lw_good ∧ Cond.initialized q.1 ∈ lw_good
/-- what a new object's slots hold -/
def jdef (ci : Nat) (fs : List Value) : Prop := ∀ q : vw_C, vwCl[ci]? = some q → fs.length = q.2.2 ∧ ∀ k, k < q.2.2 → ∃ ty : FieldType, parseFieldDescriptor (q.2.1 k).2.2.1 = some ty ∧ ∃ v, fs[k]? = some v ∧ defaultValue ty = v ∧ ∀ g : GG, jv g v = v
section
variable {g : GG} {y : MI} {d mc ms : Nat} {Q : Option Value → List AC → Prop} {h : List AC} {pc : Nat} {ls : List (Option Value)} {st : List Value}
theorem va_S.grow {A : Nat → Prop} {H0 H H1 : Heap} {locs : List Loc} (h : va_S A H0 H locs) (hz : H1.size = H.size + 1) (hq : ∀ q : Nat, q < H.size → H1[q]? = H[q]?) : va_S A H0 H1 locs :=
  ⟨Nat.le_trans h.1 (by omega), fun x h1 h2 => (hq x (Nat.lt_of_lt_of_le h1 h.1)).trans (h.2.1 x h1 h2), h.2.2⟩
theorem j_new {idx ci N : Nat} {fs : List Value} (hd : decode y.2.1 pc = .ok (.new idx, 3)) (hl : jnl y.1.cls idx ci N) (hf : jdef ci fs) {mc1 ms1 : Nat} (hmc : mc = mc1 + 1) (hms : ms = ms1 + N) (k : J g y d mc1 ms1 Q (h ++ [(ci, fs)]) (pc + 3) ls (.ref h.length :: st)) : J g y d mc ms Q h pc ls st := by
  intro p e R s m args below meth c H locs cells slots lsr X L
  subst hmc
  subst hms
  obtain ⟨hc8, q, hq, rfl, w1, w2, w3⟩ := hl
  obtain ⟨hf1, hf2⟩ := hf q hq
  have hK := X.1.2.2.2.2.2.2.2.2.1.1
  have hKn := hK.1 ci q hq
  have hts := X.1.2.2.2.2.2.2.2.1
  obtain ⟨ty0, hty0, hnm⟩ := jcls_t ci q hq
  have hr1 := X.2.1.1
  have hr2 := X.2.1.2
  refine W.newcK X.1.1 X.1.2.1 X.1.2.2.2.2.2.1 (hts _ w1) (hts _ w2) (hts _ w3) rfl hd (by omega) (by omega) hKn.2.1 rfl fun H1 kC hkC e1 z1 o1 => ?_
  have hb := u_born ty0 hts (jcls_w ci q hq) hKn hkC e1 hty0
  obtain ⟨cell, b1, b2, b3, b4⟩ := hb
  have hcell : jcell g H1 H.size (ci, fs) := by
    refine ⟨cell, b1, (fun z hz => by rw [b3] at hz; cases hz), (by rw [b3]; exact fun z => by cases z), Or.inl ⟨hc8, b2, b3, fun q' hq' => ?_, fun j v hj => ?_⟩⟩
    · cases hq.symm.trans hq'
      exact hf1
    · have hjN : j < q.2.2 := by rw [← hf1]; exact (List.getElem?_eq_some_iff.mp hj).1
      obtain ⟨ty, t1, w, t2, t3, t4⟩ := hf2 j hjN
      rw [show fs[j]? = some v from hj] at t2
      cases t2
      rw [t4 g, ← t3, b4 j hjN]
      have := (hty0 j hjN).symm.trans t1
      show some (defaultValue (ty0 j)) = _
      rw [Option.some.inj this]
  obtain ⟨hH1, had⟩ := X.2.2.1.push z1 o1 hcell
  have kk := k p e R s m args below meth c H1 locs (cells + 1) (slots + q.2.2) lsr ⟨X.1, ⟨by omega, by omega⟩, hH1, X.2.2.2.grow z1 o1⟩ L
  rw [show cells + 1 + mc1 = cells + (mc1 + 1) by omega, show slots + q.2.2 + ms1 = slots + (ms1 + q.2.2) by omega] at kk
  rw [show (Value.ref h.length :: st).map (jv g) = .ref H.size :: st.map (jv g) by rw [List.map_cons, ← had]; rfl] at kk
  exact kk
theorem j_newarr {at' : ArrayType} {ty : FieldType} {t N : Nat} {i : Int32} {vs : List Value} (hd : decode y.2.1 pc = .ok (.newarray at', 2)) (hty : newarray.typeOf at' = ty) (ht : jty t = some ty) (ht11 : t < 11) (hw : Cond.arrayClass ty ∈ lw_good) (hi : ¬ i < 0) (hN : i.toNatClampNeg = N) (hb : N * componentBytes ty ≤ 536870912)
    (hvs : vs.length = N) (hdv : ∀ (k : Nat) (v : Value), vs[k]? = some v → jv g v = defaultValue ty) {mc1 ms1 : Nat} (hmc : mc = mc1 + 1) (hms : ms = ms1 + N) (k : J g y d mc1 ms1 Q (h ++ [(t, vs)]) (pc + 2) ls (.ref h.length :: st)) : J g y d mc ms Q h pc ls (.int i :: st) := by
  intro p e R s m args below meth c H locs cells slots lsr X L
  subst hmc
  subst hms
  subst hty
  have hts := X.1.2.2.2.2.2.2.2.1
  have hr1 := X.2.1.1
  have hr2 := X.2.1.2
  refine va_newaK X.1.1 X.1.2.1 (hts _ hw) rfl hd rfl hi hN hb (by omega) (by omega) rfl fun H1 cA e1 z1 o1 hAr hNm => ?_
  have hcA : cA = g.2.2.2.2 t := Option.some.inj (hNm.symm.trans (X.1.2.2.2.2.2.2.2.2.1.2.2.1 t ht11 _ ht))
  have hcell : jcell g H1 H.size (t, vs) := by
    refine ⟨_, e1, (fun z hz => by cases hz), (fun z => by cases z), Or.inr ⟨jty_8 ht, hcA, by rw [arrV_size]; exact hvs.symm, fun j v hj => ?_⟩⟩
    have hjN : j < N := by rw [← hvs]; exact (List.getElem?_eq_some_iff.mp hj).1
    rw [arrV_read _ _ hjN, hdv j v hj]
  obtain ⟨hH1, had⟩ := X.2.2.1.push z1 o1 hcell
  have kk := k p e R s m args below meth c H1 locs (cells + 1) (slots + N) lsr ⟨X.1, ⟨by omega, by omega⟩, hH1, X.2.2.2.grow z1 o1⟩ L
  rw [show cells + 1 + mc1 = cells + (mc1 + 1) by omega, show slots + N + ms1 = slots + (ms1 + N) by omega] at kk
  rw [show (Value.ref h.length :: st).map (jv g) = .ref H.size :: st.map (jv g) by rw [List.map_cons, ← had]; rfl] at kk
  exact kk
theorem j_anewarr {idx N : Nat} {i : Int32} (hd : decode y.2.1 pc = .ok (.anewarray idx, 3)) (hw : Cond.classLink y.1.cls idx "LychWeights$Scene" ∈ lw_good) (hover : Cond.arrayOver (.object "LychWeights$Scene") ∈ lw_good) (hi : ¬ i < 0) (hN : i.toNatClampNeg = N) (hb : N * 4 ≤ 536870912)
    {mc1 ms1 : Nat} (hmc : mc = mc1 + 1) (hms : ms = ms1 + N) (k : J g y d mc1 ms1 Q (h ++ [(10, List.replicate N .null)]) (pc + 3) ls (.ref h.length :: st)) : J g y d mc ms Q h pc ls (.int i :: st) := by
  intro p e R s m args below meth c H locs cells slots lsr X L
  subst hmc
  subst hms
  subst hN
  have hts := X.1.2.2.2.2.2.2.2.1
  have hr1 := X.2.1.1
  have hr2 := X.2.1.2
  refine W.anew X.1.1 X.1.2.1 X.1.2.2.2.2.2.1 (hts _ hw) (hts _ hover) rfl hd rfl hi hb (by omega) (by omega) fun cA kA comp hNm k1 k2 k3 => ?_
  have hcA : cA = g.2.2.2.2 10 := Option.some.inj (hNm.symm.trans (X.1.2.2.2.2.2.2.2.2.1.2.2.1 10 (by decide) _ rfl))
  have o1 : ∀ q : Nat, q < H.size → (H.push { cls := cA, slots := Array.replicate i.toNatClampNeg .null, vm := .none })[q]? = H[q]? := fun q hq => by
    rw [Array.getElem?_push, if_neg (Nat.ne_of_lt hq)]
  have z1 : (H.push ({ cls := cA, slots := Array.replicate i.toNatClampNeg .null, vm := .none } : Cell)).size = H.size + 1 := by simp
  have hcell : jcell g (H.push { cls := cA, slots := Array.replicate i.toNatClampNeg .null, vm := .none }) H.size (10, List.replicate i.toNatClampNeg .null) := by
    refine ⟨{ cls := cA, slots := Array.replicate i.toNatClampNeg .null, vm := .none }, by simp, (fun z hz => by cases hz), (fun z => by cases z), Or.inr ⟨show 8 ≤ 10 by decide, hcA, by simp, fun j v hj => ?_⟩⟩
    have hj : (List.replicate i.toNatClampNeg Value.null)[j]? = some v := hj
    rw [List.getElem?_replicate] at hj
    by_cases hjn : j < i.toNatClampNeg
    · rw [if_pos hjn] at hj
      cases hj
      simp [hjn, jv]
    · rw [if_neg hjn] at hj
      cases hj
  obtain ⟨hH1, had⟩ := X.2.2.1.push z1 o1 hcell
  have kk := k p e R s m args below meth c _ locs (cells + 1) (slots + i.toNatClampNeg) lsr ⟨X.1, ⟨by omega, by omega⟩, hH1, X.2.2.2.grow z1 o1⟩ L
  rw [show cells + 1 + mc1 = cells + (mc1 + 1) by omega, show slots + i.toNatClampNeg + ms1 = slots + (ms1 + i.toNatClampNeg) by omega] at kk
  rw [show (Value.ref h.length :: st).map (jv g) = .ref H.size :: st.map (jv g) by rw [List.map_cons, ← had]; rfl] at kk
  exact kk
theorem j_aast {a b n : Nat} {vs fs : List Value} {i : Int32} {h2 : List AC} (hd : decode y.2.1 pc = .ok (.aastore, 1)) (ha : h[a]? = some (10, vs)) (hn : vs.length = n) (hi : vp_in i n) (hb : h[b]? = some (4, fs)) (hs : h.set a (10, vs.set i.toNatClampNeg (.ref b)) = h2) (k : J g y d mc ms Q h2 (pc + 1) ls st) : J g y d mc ms Q h pc ls (.ref b :: .int i :: .ref a :: st) := by
  intro p e R s m args below meth c H locs cells slots lsr X L
  subst hs
  have hlt : i.toNatClampNeg < n := Nat.not_le.mp fun q => hi (Or.inr q)
  have h0 : ¬ i < 0 := fun q => hi (Or.inl q)
  obtain ⟨cell, c1, c2, c3, e1, e2, e3⟩ := jarr X.2.2.1 (by decide) ha
  obtain ⟨cellV, v1, v2, v3, v4⟩ := X.2.2.1.2.2.2.2 b _ hb
  rcases v4 with ⟨-, w1, w2, -, -⟩ | ⟨c8, -⟩
  · have hK := X.1.2.2.2.2.2.2.2.2.1
    obtain ⟨kA, comp, k1, k2, k3⟩ := hK.2.1 10 _ rfl
    have hcls := (hK.1.1 4 (RX4, TX4, 6) rfl).2
    have hcomp := k3 rfl
    subst hcomp
    obtain ⟨kC, hkC, -⟩ := hcls.2
    refine W.aast X.1.1 X.1.2.1 c1 c2 c3 (by rw [e1]; exact k1) k2 rfl hkC ⟨h0, by rw [e2, hn]; exact hlt⟩ v1 v2 (by rw [w1]; exact hkC) (by rw [w1]; exact va_assign hcls) rfl rfl hd fun H' g1 g2 g3 => ?_
    have hc := jcell_store (g := g) (H := H) (v := .ref b) (by decide) (by rw [hn]; exact hlt) c2 c3 e1 e2 e3 g1
    exact k p e R s m args below meth c H' _ cells slots lsr ⟨X.1, X.2.1, X.2.2.1.set ha g2 g3 hc rfl, X.2.2.2.put g2 g3 (jad_A (X.2.2.1.pos ha (fun q => by cases q)))⟩ L
  · exact absurd c8 (show ¬ 8 ≤ 4 by decide)
theorem jroom {m : MethodId} {lsr : Array Slot} {rest : List Value} (hr : (rest.map fun v => v.category).sum ≤ 8) {st0 : List Value} : 2 * (F0 m pc lsr st0).monitorRoom + ((rest.map (jv g)).map fun v => v.category).sum ≤ 8 := by
  rw [jv_cats]
  exact lv_room (rest := st0) hr
theorem j_objinit {idx a : Nat} (hd : decode y.2.1 pc = .ok (.invokespecial idx, 3)) (hw : Cond.methodLink y.1.cls idx Lib.objectInit ∈ lw_good) (hw2 : Cond.instanceMethod Lib.objectInit ∈ lw_good) (hw3 : Cond.code Lib.objectInit ⟨#[0xb1]⟩ 1 none ∈ lw_good) (hd1 : 1 ≤ d) (hr : (st.map fun v => v.category).sum ≤ 8) (k : J g y d mc ms Q h (pc + 3) ls st) : J g y d mc ms Q h pc ls (.ref a :: st) := by
  intro p e R s m args below meth c H locs cells slots lsr X L
  have hts := X.1.2.2.2.2.2.2.2.1
  have r1 := X.1.2.2.2.2.2.2.2.2.2.1
  have r2 := X.1.2.2.2.2.2.2.2.2.2.2.1
  have hro := jroom (g := g) (m := m) (pc := pc) (lsr := lsr) (st0 := (Value.ref a :: st).map (jv g)) hr
  refine W.objInit X.1.1 X.1.2.1 X.1.2.2.2.2.2.1 (hts _ hw) (hts _ hw2) (hts _ hw3) rfl (by show lsr.size = _; rw [L.1]; exact X.1.2.2.1.symm) rfl hd (by omega) ?_ (k p e R s m args below meth c H locs cells slots lsr X L)
  omega
/-- a method's contract -/
def jws (y : MI) : List Cond := .code y.1 y.2.1 y.2.2.1 y.2.2.2 :: lw_good
def C (g : GG) (d mc ms : Nat) (y : MI) (av : List Value) (h : List AC) (Q : Option Value → List AC → Prop) : Prop :=
  ∀ R : Room, R.cells = mc → R.slots = ms → d ≤ R.frames → 64 * d ≤ R.locals →
    Met g.1 y.1 (jws y) R (fun a U => a = (av.map (jv g)).toArray ∧ g.2.2.1 ≤ U.heap.size ∧ jH g U.heap h ∧ jK g U)
      (fun _ st o t => ∃ (r : Option Value) (h' : List AC), Q r h' ∧ o = .returned (r.map (jv g)) ∧ jH g t.heap h' ∧ va_F (jA g) st t) mc ms (jA g)
theorem C.deeper {d' : Nat} {av : List Value} (hd : d ≤ d') (k : C g d mc ms y av h Q) : C g d' mc ms y av h Q :=
  fun R h1 h2 h3 h4 => k R h1 h2 (Nat.le_trans hd h3) (Nat.le_trans (Nat.mul_le_mul_left 64 hd) h4)
/-- the locals at a method's entry -/
def jent (n : Nat) (av : List Value) : List (Option Value) := av.map some ++ List.replicate (n - av.length) none
theorem jent_at : ∀ (av : List Value) (i : Nat), (∀ v ∈ av, v.category = 1) → ∀ (j : Nat) (v : Value), av[j]? = some v → (i + j, jv g v) ∈ lv_args i (av.map (jv g))
  | [], i, _, j, v, h => by simp at h
  | w :: av, i, hc, j, v, h => by
    have hw : (jv g w).category = 1 := by rw [jv_cat]; exact hc w List.mem_cons_self
    rw [List.map_cons, show lv_args i (jv g w :: av.map (jv g)) = (i, jv g w) :: lv_args (if (jv g w).category = 2 then i + 2 else i + 1) (av.map (jv g)) from rfl, hw]
    cases j with
    | zero =>
      simp at h
      subst h
      exact List.mem_cons_self
    | succ j =>
      refine List.mem_cons_of_mem _ ?_
      have := jent_at av (i + 1) (fun v hv => hc v (List.mem_cons_of_mem _ hv)) j v (by simpa using h)
      rw [show i + 1 + j = i + (j + 1) by omega] at this
      simpa using this
theorem lg_sl_one : ∀ (av : List Value), (∀ v ∈ av, v.category = 1) → (lg_sl (av.map (jv g))).length = av.length
  | [], _ => rfl
  | w :: av, hc => by
    have hw : (jv g w).category = 1 := by rw [jv_cat]; exact hc w List.mem_cons_self
    have := lg_sl_one av (fun v hv => hc v (List.mem_cons_of_mem _ hv))
    simp only [lg_sl, List.map_cons, List.flatMap_cons, hw] at this ⊢
    simp at this ⊢
    omega
theorem C.of {av : List Value} (hp : plainName y.1.cls = true) (hc : ∀ v ∈ av, v.category = 1) (hn : av.length ≤ y.2.2.1) (k : J g y d mc ms Q h 0 (jent y.2.2.1 av) []) : C g d mc ms y av h Q := by
  intro R h1 h2 h3 h4
  refine Met.ofW (cc := y.2.1) (maxL := y.2.2.1) (ret := y.2.2.2) hp rfl ?_
  intro p e s m args below meth c s₁ B hml hv
  obtain ⟨rfl, hb, hH, hK⟩ := hv
  have hts0 := atoms_spec (ws := jws y) B.pre
  have hown : s.vm.findClass y.1.cls = some m.cls := findClass_of_methodNamed B.named
  have hname : meth.name = y.1.name := (name_of_methodNamed B.named B.method).1
  rw [lg_entry_eq]
  have hl := lv_entry (av.map (jv g)) (n := y.2.2.1) (by rw [lg_sl_one av hc]; exact hn)
  generalize (lg_sl (av.map (jv g)) ++ List.replicate (y.2.2.1 - (lg_sl (av.map (jv g))).length) Slot.unset).toArray = lsr at hl ⊢
  have L : jL g y.2.2.1 lsr (jent y.2.2.1 av) := by
    refine ⟨hl.1, hl.2.1, by simp [jent]; omega, fun i v hi => ?_⟩
    have hi2 : av[i]? = some v := by
      unfold jent at hi
      by_cases e : i < av.length
      · rw [List.getElem?_append_left (by simpa using e)] at hi
        simpa using hi
      · rw [List.getElem?_append_right (by simp; omega)] at hi
        rw [List.getElem?_replicate] at hi
        split at hi
        · cases hi
        · cases hi
    refine ⟨hc v (List.mem_of_getElem? hi2), ?_⟩
    have := hl.2.2 _ (jent_at (g := g) av 0 hc i v hi2)
    simpa using this
  have kk := k p e R s m (av.map (jv g)).toArray below meth c s.heap [] 0 0 lsr ⟨⟨B.exec, B.bytes, hml, B.returns, B.notSynchronized, hown, hname, fun w hw => hts0 w (List.mem_cons_of_mem _ hw), hK, h3, h4, hb⟩, ⟨by omega, by omega⟩, hH, va_S.rf⟩ L
  intro T hT S
  obtain ⟨t, a, r, h', hq, o, b1, b2, b3, b4⟩ := kk T hT S
  rw [Nat.zero_add, Nat.zero_add] at b4
  exact ⟨t, a, o, b1, b2, ⟨r, h', hq, b3⟩, b4⟩
theorem C.blind {av : List Value} : FrameBlind (fun (a : Array Value) (U : State) => a = (av.map (jv g)).toArray ∧ g.2.2.1 ≤ U.heap.size ∧ jH g U.heap h ∧ jK g U) :=
  fun a U gf mk q => ⟨q.1, q.2.1, q.2.2.1, q.2.2.2.warm (s := U) (U := U.calling gf mk a) (State.WarmedH.refl U)⟩
/-- what is said of a method wherever it's called: its code, its class, its arguments' number -/
def jmc (y' : MI) (n : Nat) : Prop := Cond.code y'.1 y'.2.1 y'.2.2.1 y'.2.2.2 ∈ lw_good ∧ Cond.initialized y'.1.cls ∈ lw_good ∧ (y'.1.cls ≠ "java/lang/invoke/MethodHandle" ∧ y'.1.cls ≠ "java/lang/invoke/VarHandle") ∧ (parseMethodDescriptor y'.1.desc).map (fun d => d.parameters.length) = some n ∧ y'.2.2.1 ≤ 45
def jroomOf (d mc ms : Nat) : Room := { frames := d, cells := mc, slots := ms, locals := 64 * d }
theorem jpay {s : State} {args : Array Value} (hts : ∀ w ∈ lw_good, w.before args s = true) {y' : MI} {n : Nat} (hm : jmc y' n) : ∀ w ∈ jws y', ∀ (a' : Array Value) (U : State), s.WarmedH U.vm → w.before a' U = true := by
  have hg : ∀ w ∈ lw_good, goodWord w = true := fun w hw => (List.mem_filter.mp hw).2
  refine pay_in hts (fun w hw => ?_)
  rcases List.mem_cons.mp hw with rfl | hw
  · exact ⟨hm.1, good_of_word (hg _ hm.1)⟩
  · exact ⟨hw, good_of_word (hg _ hw)⟩
/-- behind a call -/
theorem jback {mc' ms' mc1 : Nat} {ms1 : Nat} {Q' : Option Value → List AC → Prop} {p : Program} {e : Env} {R : Room} {s : State} {m : MethodId} {args : Array Value} {below : List Frame} {meth : Method} {c : Code} {H : Heap} {locs : List Loc} {cells slots : Nat} {lsr : Array Slot} {st0 : List Value}
    (X : jX g y d (mc' + mc1) (ms' + ms1) h p R s m args meth c H locs cells slots) (L : jL g y.2.2.1 lsr ls)
    (hr : va_Run p g.1 e R s m args below meth c H locs cells slots mc' ms' (F0 m pc lsr st0) (st.map (jv g)) (fun st o t => ∃ (r : Option Value) (h' : List AC), Q' r h' ∧ o = .returned (r.map (jv g)) ∧ jH g t.heap h' ∧ va_F (jA g) st t) (jA g))
    (k : ∀ (r : Option Value) (h' : List AC), Q' r h' → J g y d mc1 ms1 Q h' (pc + 3) ls (r.toList ++ st)) :
    W p g.1 e R s m args below meth c H locs cells slots (jZ g below args s (cells + (mc' + mc1)) (slots + (ms' + ms1)) Q) (F0 m pc lsr st0) := by
  intro T hT S
  obtain ⟨v, st₀, t, T', L', h0, S', hL, e1, e2, ⟨r, h', hq, ho, hH, hz, hk⟩, go⟩ := hr T hT S
  have hv : v = r.map (jv g) := by
    have := ho
    injection this
  subst hv
  rw [h0] at hz hk
  have hS := X.2.2.2
  have hS1 : va_S (jA g) s.heap T'.heap (locs ++ L') := by
    refine ⟨Nat.le_trans hS.1 (by rw [e1]; exact hz), fun q h1 h2 => ?_, fun q hq => ?_⟩
    · rw [e1, hk q (Nat.lt_of_lt_of_le h1 hS.1) h2]
      exact hS.2.1 q h1 h2
    · rcases List.mem_append.mp hq with h1 | h1
      · exact hS.2.2 q h1
      · exact hL q h1
  have hr1 := X.2.1.1
  have hr2 := X.2.1.2
  have kk := k r h' hq p e R s m args below meth c T'.heap (locs ++ L') (cells + mc') (slots + ms') lsr ⟨X.1, ⟨by omega, by omega⟩, by rw [e1]; exact hH, hS1⟩ L
  rw [show cells + mc' + mc1 = cells + (mc' + mc1) by omega, show slots + ms' + ms1 = slots + (ms' + ms1) by omega] at kk
  obtain ⟨t2, a1, b1⟩ := kk T' rfl S'
  refine ⟨t2, go t2 ?_, b1⟩
  have : (r.toList ++ st).map (jv g) = (r.map (jv g)).toList ++ st.map (jv g) := by cases r <;> simp
  rw [this] at a1
  exact a1
theorem jcall_S {y' : MI} {n idx d' mc' ms' mc1 ms1 : Nat} {As : List Value} {Q' : Option Value → List AC → Prop} {st0 : List Value} (hd : decode y.2.1 pc = .ok (.invokestatic idx, 3)) (hm : jmc y' n) (hw : Cond.methodLink y.1.cls idx y'.1 ∈ lw_good) (hw2 : Cond.static y'.1 ∈ lw_good) (hd' : d' < d) (hC : C g d' mc' ms' y' As h Q') (hst : st0 = As.reverse ++ st) (hn : As.length = n) (hr : (st.map fun v => v.category).sum ≤ 8)
    (k : ∀ (r : Option Value) (h' : List AC), Q' r h' → J g y d mc1 ms1 Q h' (pc + 3) ls (r.toList ++ st)) : J g y d (mc' + mc1) (ms' + ms1) Q h pc ls st0 := by
  intro p e R s m args below meth c H locs cells slots lsr X L
  subst hst
  obtain ⟨m1, m2, m3, m4, m5⟩ := hm
  have hts := X.1.2.2.2.2.2.2.2.1
  have r1 := X.1.2.2.2.2.2.2.2.2.2.1
  have r2 := X.1.2.2.2.2.2.2.2.2.2.2.1
  have hM := hC (jroomOf d' mc' ms') rfl rfl (Nat.le_refl _) (Nat.le_refl _)
  have hr1 := X.2.1.1
  have hr2 := X.2.1.2
  refine jback X L (va_runS (As := As.map (jv g)) (rest := st.map (jv g)) (n := n) ⟨X.1.1, X.1.2.1, X.1.2.2.1, X.1.2.2.2.2.2.1, hts⟩ hM ⟨⟨rfl, rfl, ?_, ?_, jpay hts ⟨m1, m2, m3, m4, m5⟩, List.mem_cons_self, hts _ m1, hts _ m2, m3, ?_, hts _ hw⟩, hts _ hw2⟩ ⟨C.blind, fun U hU hW => ⟨rfl, ?_, ?_, X.1.2.2.2.2.2.2.2.2.1.warm hW⟩⟩ rfl ?_ L.1 ?_ (jroom hr) hd ⟨?_, ?_⟩) k
  · show d' + 1 ≤ _; omega
  · show 8 + (_ + 11) + 64 * d' ≤ _; omega
  · intro sig hsig
    rw [hsig] at m4
    exact (Option.some.inj m4).symm
  · rw [hU]; exact Nat.le_trans X.1.2.2.2.2.2.2.2.2.2.2.2 X.2.2.2.1
  · rw [hU]; exact X.2.2.1
  · simpa using hn
  · simp
  · omega
  · omega
theorem jcall_V {y' : MI} {n idx d' mc' ms' mc1 ms1 a ci : Nat} {fs : List Value} {q : vw_C} {As : List Value} {Q' : Option Value → List AC → Prop} {st0 : List Value} (hd : decode y.2.1 pc = .ok (.invokevirtual idx, 3)) (hm : jmc y' n) (hw : Cond.methodLink y.1.cls idx y'.1 ∈ lw_good) (hw2 : Cond.instanceMethod y'.1 ∈ lw_good) (hw3 : Cond.selects y'.1.cls y'.1 y'.1 ∈ lw_good) (hq : vwCl[ci]? = some q) (hcls : y'.1.cls = q.1) (ha : h[a]? = some (ci, fs)) (hd' : d' < d) (hC : C g d' mc' ms' y' (.ref a :: As) h Q') (hst : st0 = As.reverse ++ .ref a :: st) (hn : As.length = n) (hr : (st.map fun v => v.category).sum ≤ 8)
    (k : ∀ (r : Option Value) (h' : List AC), Q' r h' → J g y d mc1 ms1 Q h' (pc + 3) ls (r.toList ++ st)) : J g y d (mc' + mc1) (ms' + ms1) Q h pc ls st0 := by
  intro p e R s m args below meth c H locs cells slots lsr X L
  subst hst
  obtain ⟨m1, m2, m3, m4, m5⟩ := hm
  have hts := X.1.2.2.2.2.2.2.2.1
  have r1 := X.1.2.2.2.2.2.2.2.2.2.1
  have r2 := X.1.2.2.2.2.2.2.2.2.2.2.1
  have hM := hC (jroomOf d' mc' ms') rfl rfl (Nat.le_refl _) (Nat.le_refl _)
  have hr1 := X.2.1.1
  have hr2 := X.2.1.2
  have hrecv : ∃ cell : Cell, H[jad g a]? = some cell ∧ cell.vm.isStatics = false ∧ s.vm.findClass q.1 = some cell.cls := by
    obtain ⟨cell, c1, c2, c3, c4⟩ := X.2.2.1.2.2.2.2 a _ ha
    rcases c4 with ⟨-, e1, e2, -⟩ | ⟨c8, -⟩
    · exact ⟨cell, c1, by rw [e2]; rfl, by rw [e1]; exact (X.1.2.2.2.2.2.2.2.2.1.1.1 ci q hq).2.1⟩
    · have : ci < vwCl.length := (List.getElem?_eq_some_iff.mp hq).1
      exact absurd this (Nat.not_lt.mpr c8)
  refine jback X L (va_runV (As := As.map (jv g)) (rest := st.map (jv g)) (n := n) (C := q.1) (b := jad g a) ⟨X.1.1, X.1.2.1, X.1.2.2.1, X.1.2.2.2.2.2.1, hts⟩ hM ⟨⟨rfl, rfl, ?_, ?_, jpay hts ⟨m1, m2, m3, m4, m5⟩, List.mem_cons_self, hts _ m1, hts _ m2, m3, ?_, hts _ hw⟩, hts _ hw2, by rw [← hcls]; exact hts _ hw3⟩ ⟨C.blind, hrecv, fun U hU hW => ⟨rfl, ?_, ?_, X.1.2.2.2.2.2.2.2.2.1.warm hW⟩⟩ rfl ?_ L.1 ?_ (jroom hr) hd ⟨?_, ?_⟩) k
  · show d' + 1 ≤ _; omega
  · show 8 + (_ + 11) + 64 * d' ≤ _; omega
  · intro sig hsig
    rw [hsig] at m4
    exact (Option.some.inj m4).symm
  · rw [hU]; exact Nat.le_trans X.1.2.2.2.2.2.2.2.2.2.2.2 X.2.2.2.1
  · rw [hU]; exact X.2.2.1
  · simpa using hn
  · simp [jv]
  · omega
  · omega
theorem jcall_I {y' : MI} {n idx d' mc' ms' mc1 ms1 a : Nat} {As : List Value} {Q' : Option Value → List AC → Prop} {st0 : List Value} (hd : decode y.2.1 pc = .ok (.invokespecial idx, 3)) (hm : jmc y' n) (hret : y'.2.2.2 = none) (hname : y'.1.name = "<init>") (hw : Cond.methodLink y.1.cls idx y'.1 ∈ lw_good) (hw2 : Cond.instanceMethod y'.1 ∈ lw_good) (hd' : d' < d) (hC : C g d' mc' ms' y' (.ref a :: As) h Q') (hst : st0 = As.reverse ++ .ref a :: st) (hn : As.length = n) (hr : (st.map fun v => v.category).sum ≤ 8)
    (k : ∀ (r : Option Value) (h' : List AC), Q' r h' → J g y d mc1 ms1 Q h' (pc + 3) ls (r.toList ++ st)) : J g y d (mc' + mc1) (ms' + ms1) Q h pc ls st0 := by
  intro p e R s m args below meth c H locs cells slots lsr X L
  subst hst
  obtain ⟨m1, m2, m3, m4, m5⟩ := hm
  have hts := X.1.2.2.2.2.2.2.2.1
  have r1 := X.1.2.2.2.2.2.2.2.2.2.1
  have r2 := X.1.2.2.2.2.2.2.2.2.2.2.1
  have hM := hC (jroomOf d' mc' ms') rfl rfl (Nat.le_refl _) (Nat.le_refl _)
  have hr1 := X.2.1.1
  have hr2 := X.2.1.2
  have hm1 := m1
  rw [hret] at hm1
  refine jback X L (va_runI (As := As.map (jv g)) (rest := st.map (jv g)) (n := n) (b := jad g a) (bytes := y'.2.1) (maxL := y'.2.2.1) ⟨X.1.1, X.1.2.1, X.1.2.2.1, X.1.2.2.2.2.2.1, hts⟩ hM ⟨⟨rfl, rfl, ?_, ?_, jpay hts ⟨m1, m2, m3, m4, m5⟩, by rw [jws, hret]; exact List.mem_cons_self, hts _ hm1, hts _ m2, m3, ?_, hts _ hw⟩, hname, hts _ hw2⟩ ⟨C.blind, fun U hU hW => ⟨rfl, ?_, ?_, X.1.2.2.2.2.2.2.2.2.1.warm hW⟩⟩ rfl ?_ L.1 ?_ (jroom hr) hd ⟨?_, ?_⟩) k
  · show d' + 1 ≤ _; omega
  · show 8 + (_ + 11) + 64 * d' ≤ _; omega
  · intro sig hsig
    rw [hsig] at m4
    exact (Option.some.inj m4).symm
  · rw [hU]; exact Nat.le_trans X.1.2.2.2.2.2.2.2.2.2.2.2 X.2.2.2.1
  · rw [hU]; exact X.2.2.1
  · simpa using hn
  · simp [jv]
  · omega
  · omega
theorem jcall_SN {y' : MI} {n idx d' mc' ms' mc1 ms1 : Nat} {As : List Value} {Q' : Option Value → List AC → Prop} {st0 : List Value} (hd : decode y.2.1 pc = .ok (.invokestatic idx, 3)) (hm : jmc y' n) (hw : (y.1.cls, idx, y'.1, "LychWeights") ∈ jnest) (hw2 : Cond.static y'.1 ∈ lw_good) (hd' : d' < d) (hC : C g d' mc' ms' y' As h Q') (hst : st0 = As.reverse ++ st) (hn : As.length = n) (hr : (st.map fun v => v.category).sum ≤ 8)
    (k : ∀ (r : Option Value) (h' : List AC), Q' r h' → J g y d mc1 ms1 Q h' (pc + 3) ls (r.toList ++ st)) : J g y d (mc' + mc1) (ms' + ms1) Q h pc ls st0 := by
  intro p e R s m args below meth c H locs cells slots lsr X L
  subst hst
  obtain ⟨m1, m2, m3, m4, m5⟩ := hm
  have hts := X.1.2.2.2.2.2.2.2.1
  have r1 := X.1.2.2.2.2.2.2.2.2.2.1
  have r2 := X.1.2.2.2.2.2.2.2.2.2.2.1
  have hM := hC (jroomOf d' mc' ms') rfl rfl (Nat.le_refl _) (Nat.le_refl _)
  have hr1 := X.2.1.1
  have hr2 := X.2.1.2
  have hlk := va_Nw.use (A := args) rfl (X.1.2.2.2.2.2.2.2.2.1.2.2.2 _ hw)
  refine jback X L (va_runSN (As := As.map (jv g)) (rest := st.map (jv g)) (n := n) (host := "LychWeights") ⟨X.1.1, X.1.2.1, X.1.2.2.1, X.1.2.2.2.2.2.1, hts⟩ hM ⟨⟨⟨rfl, rfl, ?_, ?_, jpay hts ⟨m1, m2, m3, m4, m5⟩, List.mem_cons_self⟩, hts _ m1, hts _ m2, m3, ?_, hlk⟩, hts _ hw2, trivial⟩ ⟨C.blind, fun U hU hW => ⟨rfl, ?_, ?_, X.1.2.2.2.2.2.2.2.2.1.warm hW⟩⟩ rfl ?_ L.1 ?_ (jroom hr) hd ⟨?_, ?_⟩) k
  · show d' + 1 ≤ _; omega
  · show 8 + (_ + 11) + 64 * d' ≤ _; omega
  · intro sig hsig
    rw [hsig] at m4
    exact (Option.some.inj m4).symm
  · rw [hU]; exact Nat.le_trans X.1.2.2.2.2.2.2.2.2.2.2.2 X.2.2.2.1
  · rw [hU]; exact X.2.2.1
  · simpa using hn
  · simp
  · omega
  · omega
theorem jcall_IN {y' : MI} {n idx d' mc' ms' mc1 ms1 a : Nat} {As : List Value} {Q' : Option Value → List AC → Prop} {st0 : List Value} (hd : decode y.2.1 pc = .ok (.invokespecial idx, 3)) (hm : jmc y' n) (hret : y'.2.2.2 = none) (hname : y'.1.name = "<init>") (hw : (y.1.cls, idx, y'.1, "LychWeights") ∈ jnest) (hw2 : Cond.instanceMethod y'.1 ∈ lw_good) (hd' : d' < d) (hC : C g d' mc' ms' y' (.ref a :: As) h Q') (hst : st0 = As.reverse ++ .ref a :: st) (hn : As.length = n) (hr : (st.map fun v => v.category).sum ≤ 8)
    (k : ∀ (r : Option Value) (h' : List AC), Q' r h' → J g y d mc1 ms1 Q h' (pc + 3) ls (r.toList ++ st)) : J g y d (mc' + mc1) (ms' + ms1) Q h pc ls st0 := by
  intro p e R s m args below meth c H locs cells slots lsr X L
  subst hst
  obtain ⟨m1, m2, m3, m4, m5⟩ := hm
  have hts := X.1.2.2.2.2.2.2.2.1
  have r1 := X.1.2.2.2.2.2.2.2.2.2.1
  have r2 := X.1.2.2.2.2.2.2.2.2.2.2.1
  have hM := hC (jroomOf d' mc' ms') rfl rfl (Nat.le_refl _) (Nat.le_refl _)
  have hr1 := X.2.1.1
  have hr2 := X.2.1.2
  have hm1 := m1
  rw [hret] at hm1
  have hlk := va_Nw.use (A := args) rfl (X.1.2.2.2.2.2.2.2.2.1.2.2.2 _ hw)
  refine jback X L (va_runIN (As := As.map (jv g)) (rest := st.map (jv g)) (n := n) (b := jad g a) (host := "LychWeights") (bytes := y'.2.1) (maxL := y'.2.2.1) ⟨X.1.1, X.1.2.1, X.1.2.2.1, X.1.2.2.2.2.2.1, hts⟩ hM ⟨⟨⟨rfl, rfl, ?_, ?_, jpay hts ⟨m1, m2, m3, m4, m5⟩, by rw [jws, hret]; exact List.mem_cons_self⟩, hts _ hm1, hts _ m2, m3, ?_, hlk⟩, hname, hts _ hw2⟩ ⟨C.blind, fun U hU hW => ⟨rfl, ?_, ?_, X.1.2.2.2.2.2.2.2.2.1.warm hW⟩⟩ rfl ?_ L.1 ?_ (jroom hr) hd ⟨?_, ?_⟩) k
  · show d' + 1 ≤ _; omega
  · show 8 + (_ + 11) + 64 * d' ≤ _; omega
  · intro sig hsig
    rw [hsig] at m4
    exact (Option.some.inj m4).symm
  · rw [hU]; exact Nat.le_trans X.1.2.2.2.2.2.2.2.2.2.2.2 X.2.2.2.1
  · rw [hU]; exact X.2.2.1
  · simpa using hn
  · simp [jv]
  · omega
  · omega
end
end
