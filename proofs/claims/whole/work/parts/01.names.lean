-- ===== PART A: goes FIRST, ahead of the names: the tables' words, and 'selects' of the private methods out of them =====
/-- a private method of a class that the tables say can be made, by its rows of tables_1 -/
def lw_okq (q : MethodName × Nat) : Prop := (q.1.cls ≠ "java/lang/invoke/MethodHandle" ∧ q.1.cls ≠ "java/lang/invoke/VarHandle") ∧ Cond.instantiable q.1.cls q.2 ∈ tables_1 ∧ Cond.privateMethod q.1 ∈ tables_1 ∧ Cond.instanceMethod q.1 ∈ tables_1
theorem lw_p0 : lw_okq (⟨"SaidMine$Reader", "takes", "(I)Z"⟩, 4) := ⟨⟨by decide +kernel, by decide +kernel⟩, List.mem_of_getElem? (i := 19) (by decide +kernel), List.mem_of_getElem? (i := 244) (by decide +kernel), List.mem_of_getElem? (i := 245) (by decide +kernel)⟩
theorem lw_p1 : lw_okq (⟨"SaidMine$Reader", "opens", "(IZ)Z"⟩, 4) := ⟨⟨by decide +kernel, by decide +kernel⟩, List.mem_of_getElem? (i := 19) (by decide +kernel), List.mem_of_getElem? (i := 248) (by decide +kernel), List.mem_of_getElem? (i := 249) (by decide +kernel)⟩
theorem lw_p2 : lw_okq (⟨"SaidMine$Reader", "mayOpen", "(I)Z"⟩, 4) := ⟨⟨by decide +kernel, by decide +kernel⟩, List.mem_of_getElem? (i := 19) (by decide +kernel), List.mem_of_getElem? (i := 252) (by decide +kernel), List.mem_of_getElem? (i := 253) (by decide +kernel)⟩
theorem lw_p3 : lw_okq (⟨"SaidMine$Reader", "takesOfWind", "(I)Z"⟩, 4) := ⟨⟨by decide +kernel, by decide +kernel⟩, List.mem_of_getElem? (i := 19) (by decide +kernel), List.mem_of_getElem? (i := 272) (by decide +kernel), List.mem_of_getElem? (i := 273) (by decide +kernel)⟩
theorem lw_p4 : lw_okq (⟨"SaidMine$Reader", "closes", "()Z"⟩, 4) := ⟨⟨by decide +kernel, by decide +kernel⟩, List.mem_of_getElem? (i := 19) (by decide +kernel), List.mem_of_getElem? (i := 276) (by decide +kernel), List.mem_of_getElem? (i := 277) (by decide +kernel)⟩
theorem lw_p5 : lw_okq (⟨"SaidMine$Reader", "takesOfHouse", "(I)Z"⟩, 4) := ⟨⟨by decide +kernel, by decide +kernel⟩, List.mem_of_getElem? (i := 19) (by decide +kernel), List.mem_of_getElem? (i := 280) (by decide +kernel), List.mem_of_getElem? (i := 281) (by decide +kernel)⟩
theorem lw_p6 : lw_okq (⟨"SaidMine$Reader", "takesNobody", "()Z"⟩, 4) := ⟨⟨by decide +kernel, by decide +kernel⟩, List.mem_of_getElem? (i := 19) (by decide +kernel), List.mem_of_getElem? (i := 284) (by decide +kernel), List.mem_of_getElem? (i := 285) (by decide +kernel)⟩
theorem lw_p7 : lw_okq (⟨"SaidMine$Reader", "ownedBy", "(I)Z"⟩, 4) := ⟨⟨by decide +kernel, by decide +kernel⟩, List.mem_of_getElem? (i := 19) (by decide +kernel), List.mem_of_getElem? (i := 288) (by decide +kernel), List.mem_of_getElem? (i := 289) (by decide +kernel)⟩
theorem lw_p8 : lw_okq (⟨"SaidMine$Reader", "takesOfThing", "(I)Z"⟩, 4) := ⟨⟨by decide +kernel, by decide +kernel⟩, List.mem_of_getElem? (i := 19) (by decide +kernel), List.mem_of_getElem? (i := 292) (by decide +kernel), List.mem_of_getElem? (i := 293) (by decide +kernel)⟩
theorem lw_p9 : lw_okq (⟨"SaidMine$Reader", "takesOfLying", "(I)Z"⟩, 4) := ⟨⟨by decide +kernel, by decide +kernel⟩, List.mem_of_getElem? (i := 19) (by decide +kernel), List.mem_of_getElem? (i := 300) (by decide +kernel), List.mem_of_getElem? (i := 301) (by decide +kernel)⟩
theorem lw_p10 : lw_okq (⟨"SaidMine$Reader", "takesOfDebt", "(I)Z"⟩, 4) := ⟨⟨by decide +kernel, by decide +kernel⟩, List.mem_of_getElem? (i := 19) (by decide +kernel), List.mem_of_getElem? (i := 309) (by decide +kernel), List.mem_of_getElem? (i := 310) (by decide +kernel)⟩
theorem lw_p11 : lw_okq (⟨"SaidMine", "noteAct", "()V"⟩, 18) := ⟨⟨by decide +kernel, by decide +kernel⟩, List.mem_of_getElem? (i := 11) (by decide +kernel), List.mem_of_getElem? (i := 397) (by decide +kernel), List.mem_of_getElem? (i := 398) (by decide +kernel)⟩
theorem lw_p12 : lw_okq (⟨"SaidMine", "passes", "(LSaidMine$Shore;II)Z"⟩, 18) := ⟨⟨by decide +kernel, by decide +kernel⟩, List.mem_of_getElem? (i := 11) (by decide +kernel), List.mem_of_getElem? (i := 454) (by decide +kernel), List.mem_of_getElem? (i := 455) (by decide +kernel)⟩
theorem lw_p13 : lw_okq (⟨"SaidMine", "isSetOfThings", "(I)Z"⟩, 18) := ⟨⟨by decide +kernel, by decide +kernel⟩, List.mem_of_getElem? (i := 11) (by decide +kernel), List.mem_of_getElem? (i := 466) (by decide +kernel), List.mem_of_getElem? (i := 467) (by decide +kernel)⟩
theorem lw_p14 : lw_okq (⟨"SaidMine$Keeping", "wantedTops", "(LSaidMine$Coast;LSaidMine$Shore;I)I"⟩, 4) := ⟨⟨by decide +kernel, by decide +kernel⟩, List.mem_of_getElem? (i := 145) (by decide +kernel), List.mem_of_getElem? (i := 478) (by decide +kernel), List.mem_of_getElem? (i := 479) (by decide +kernel)⟩
theorem lw_p15 : lw_okq (⟨"SaidMine$Keeping", "canKeep", "(LSaidMine$Coast;LSaidMine$Shore;I)Z"⟩, 4) := ⟨⟨by decide +kernel, by decide +kernel⟩, List.mem_of_getElem? (i := 145) (by decide +kernel), List.mem_of_getElem? (i := 485) (by decide +kernel), List.mem_of_getElem? (i := 486) (by decide +kernel)⟩
def lw_privs_1 : List (MethodName × Nat) := [(⟨"SaidMine$Reader", "takes", "(I)Z"⟩, 4), (⟨"SaidMine$Reader", "opens", "(IZ)Z"⟩, 4), (⟨"SaidMine$Reader", "mayOpen", "(I)Z"⟩, 4), (⟨"SaidMine$Reader", "takesOfWind", "(I)Z"⟩, 4), (⟨"SaidMine$Reader", "closes", "()Z"⟩, 4), (⟨"SaidMine$Reader", "takesOfHouse", "(I)Z"⟩, 4), (⟨"SaidMine$Reader", "takesNobody", "()Z"⟩, 4), (⟨"SaidMine$Reader", "ownedBy", "(I)Z"⟩, 4), (⟨"SaidMine$Reader", "takesOfThing", "(I)Z"⟩, 4), (⟨"SaidMine$Reader", "takesOfLying", "(I)Z"⟩, 4), (⟨"SaidMine$Reader", "takesOfDebt", "(I)Z"⟩, 4), (⟨"SaidMine", "noteAct", "()V"⟩, 18), (⟨"SaidMine", "passes", "(LSaidMine$Shore;II)Z"⟩, 18), (⟨"SaidMine", "isSetOfThings", "(I)Z"⟩, 18), (⟨"SaidMine$Keeping", "wantedTops", "(LSaidMine$Coast;LSaidMine$Shore;I)I"⟩, 4), (⟨"SaidMine$Keeping", "canKeep", "(LSaidMine$Coast;LSaidMine$Shore;I)Z"⟩, 4)]
theorem lw_r1 : ∀ q ∈ lw_privs_1, lw_okq q := List.forall_mem_cons.mpr ⟨lw_p0, List.forall_mem_cons.mpr ⟨lw_p1, List.forall_mem_cons.mpr ⟨lw_p2, List.forall_mem_cons.mpr ⟨lw_p3, List.forall_mem_cons.mpr ⟨lw_p4, List.forall_mem_cons.mpr ⟨lw_p5, List.forall_mem_cons.mpr ⟨lw_p6, List.forall_mem_cons.mpr ⟨lw_p7, List.forall_mem_cons.mpr ⟨lw_p8, List.forall_mem_cons.mpr ⟨lw_p9, List.forall_mem_cons.mpr ⟨lw_p10, List.forall_mem_cons.mpr ⟨lw_p11, List.forall_mem_cons.mpr ⟨lw_p12, List.forall_mem_cons.mpr ⟨lw_p13, List.forall_mem_cons.mpr ⟨lw_p14, List.forall_mem_cons.mpr ⟨lw_p15, fun _ h => absurd h List.not_mem_nil⟩⟩⟩⟩⟩⟩⟩⟩⟩⟩⟩⟩⟩⟩⟩⟩
theorem lw_p16 : lw_okq (⟨"SaidMine$Keeping", "purseOf", "(LSaidMine$Coast;LSaidMine$Shore;I)I"⟩, 4) := ⟨⟨by decide +kernel, by decide +kernel⟩, List.mem_of_getElem? (i := 145) (by decide +kernel), List.mem_of_getElem? (i := 490) (by decide +kernel), List.mem_of_getElem? (i := 491) (by decide +kernel)⟩
theorem lw_p17 : lw_okq (⟨"SaidMine$Keeping", "findWaysIfWanted", "(LSaidMine$Coast;LSaidMine$Shore;II)V"⟩, 4) := ⟨⟨by decide +kernel, by decide +kernel⟩, List.mem_of_getElem? (i := 145) (by decide +kernel), List.mem_of_getElem? (i := 496) (by decide +kernel), List.mem_of_getElem? (i := 497) (by decide +kernel)⟩
theorem lw_p18 : lw_okq (⟨"SaidMine$Keeping", "findWays", "(LSaidMine$Coast;LSaidMine$Shore;I)V"⟩, 4) := ⟨⟨by decide +kernel, by decide +kernel⟩, List.mem_of_getElem? (i := 145) (by decide +kernel), List.mem_of_getElem? (i := 500) (by decide +kernel), List.mem_of_getElem? (i := 501) (by decide +kernel)⟩
theorem lw_p19 : lw_okq (⟨"SaidMine$Keeping", "freeFor", "(LSaidMine$Coast;LSaidMine$Shore;I)I"⟩, 4) := ⟨⟨by decide +kernel, by decide +kernel⟩, List.mem_of_getElem? (i := 145) (by decide +kernel), List.mem_of_getElem? (i := 505) (by decide +kernel), List.mem_of_getElem? (i := 506) (by decide +kernel)⟩
theorem lw_p20 : lw_okq (⟨"SaidMine$Keeping", "lacking", "(LSaidMine$Coast;I)I"⟩, 4) := ⟨⟨by decide +kernel, by decide +kernel⟩, List.mem_of_getElem? (i := 145) (by decide +kernel), List.mem_of_getElem? (i := 510) (by decide +kernel), List.mem_of_getElem? (i := 511) (by decide +kernel)⟩
theorem lw_p21 : lw_okq (⟨"SaidMine$Keeping", "firstFitting", "(II)I"⟩, 4) := ⟨⟨by decide +kernel, by decide +kernel⟩, List.mem_of_getElem? (i := 145) (by decide +kernel), List.mem_of_getElem? (i := 516) (by decide +kernel), List.mem_of_getElem? (i := 517) (by decide +kernel)⟩
theorem lw_p22 : lw_okq (⟨"SaidMine$Keeping", "affords", "(II)Z"⟩, 4) := ⟨⟨by decide +kernel, by decide +kernel⟩, List.mem_of_getElem? (i := 145) (by decide +kernel), List.mem_of_getElem? (i := 520) (by decide +kernel), List.mem_of_getElem? (i := 521) (by decide +kernel)⟩
theorem lw_p23 : lw_okq (⟨"SaidMine$Keeping", "leastWay", "(LSaidMine$Coast;LSaidMine$Shore;III)I"⟩, 4) := ⟨⟨by decide +kernel, by decide +kernel⟩, List.mem_of_getElem? (i := 145) (by decide +kernel), List.mem_of_getElem? (i := 532) (by decide +kernel), List.mem_of_getElem? (i := 533) (by decide +kernel)⟩
theorem lw_p24 : lw_okq (⟨"SaidMine$Keeping", "worthWithin", "(LSaidMine$Coast;I)I"⟩, 4) := ⟨⟨by decide +kernel, by decide +kernel⟩, List.mem_of_getElem? (i := 145) (by decide +kernel), List.mem_of_getElem? (i := 546) (by decide +kernel), List.mem_of_getElem? (i := 547) (by decide +kernel)⟩
theorem lw_p25 : lw_okq (⟨"SaidMine$Keeping", "addWorth", "(II)V"⟩, 4) := ⟨⟨by decide +kernel, by decide +kernel⟩, List.mem_of_getElem? (i := 145) (by decide +kernel), List.mem_of_getElem? (i := 550) (by decide +kernel), List.mem_of_getElem? (i := 551) (by decide +kernel)⟩
theorem lw_p26 : lw_okq (⟨"SaidMine", "ordersWith", "(I)I"⟩, 18) := ⟨⟨by decide +kernel, by decide +kernel⟩, List.mem_of_getElem? (i := 11) (by decide +kernel), List.mem_of_getElem? (i := 568) (by decide +kernel), List.mem_of_getElem? (i := 569) (by decide +kernel)⟩
theorem lw_p27 : lw_okq (⟨"SaidMine", "isAtRest", "(IIIII)Z"⟩, 18) := ⟨⟨by decide +kernel, by decide +kernel⟩, List.mem_of_getElem? (i := 11) (by decide +kernel), List.mem_of_getElem? (i := 581) (by decide +kernel), List.mem_of_getElem? (i := 582) (by decide +kernel)⟩
theorem lw_p28 : lw_okq (⟨"SaidMine", "worthKept", "(IIII)I"⟩, 18) := ⟨⟨by decide +kernel, by decide +kernel⟩, List.mem_of_getElem? (i := 11) (by decide +kernel), List.mem_of_getElem? (i := 585) (by decide +kernel), List.mem_of_getElem? (i := 586) (by decide +kernel)⟩
theorem lw_p29 : lw_okq (⟨"SaidMine", "agreesWithLessons", "(I)Z"⟩, 18) := ⟨⟨by decide +kernel, by decide +kernel⟩, List.mem_of_getElem? (i := 11) (by decide +kernel), List.mem_of_getElem? (i := 613) (by decide +kernel), List.mem_of_getElem? (i := 614) (by decide +kernel)⟩
theorem lw_p30 : lw_okq (⟨"SaidMine", "isAsSeen", "(LSaidMine$Shore;I)Z"⟩, 18) := ⟨⟨by decide +kernel, by decide +kernel⟩, List.mem_of_getElem? (i := 11) (by decide +kernel), List.mem_of_getElem? (i := 639) (by decide +kernel), List.mem_of_getElem? (i := 640) (by decide +kernel)⟩
theorem lw_p31 : lw_okq (⟨"SaidMineModel", "readText", "()I"⟩, 45) := ⟨⟨by decide +kernel, by decide +kernel⟩, List.mem_of_getElem? (i := 675) (by decide +kernel), List.mem_of_getElem? (i := 834) (by decide +kernel), List.mem_of_getElem? (i := 835) (by decide +kernel)⟩
def lw_privs_2 : List (MethodName × Nat) := [(⟨"SaidMine$Keeping", "purseOf", "(LSaidMine$Coast;LSaidMine$Shore;I)I"⟩, 4), (⟨"SaidMine$Keeping", "findWaysIfWanted", "(LSaidMine$Coast;LSaidMine$Shore;II)V"⟩, 4), (⟨"SaidMine$Keeping", "findWays", "(LSaidMine$Coast;LSaidMine$Shore;I)V"⟩, 4), (⟨"SaidMine$Keeping", "freeFor", "(LSaidMine$Coast;LSaidMine$Shore;I)I"⟩, 4), (⟨"SaidMine$Keeping", "lacking", "(LSaidMine$Coast;I)I"⟩, 4), (⟨"SaidMine$Keeping", "firstFitting", "(II)I"⟩, 4), (⟨"SaidMine$Keeping", "affords", "(II)Z"⟩, 4), (⟨"SaidMine$Keeping", "leastWay", "(LSaidMine$Coast;LSaidMine$Shore;III)I"⟩, 4), (⟨"SaidMine$Keeping", "worthWithin", "(LSaidMine$Coast;I)I"⟩, 4), (⟨"SaidMine$Keeping", "addWorth", "(II)V"⟩, 4), (⟨"SaidMine", "ordersWith", "(I)I"⟩, 18), (⟨"SaidMine", "isAtRest", "(IIIII)Z"⟩, 18), (⟨"SaidMine", "worthKept", "(IIII)I"⟩, 18), (⟨"SaidMine", "agreesWithLessons", "(I)Z"⟩, 18), (⟨"SaidMine", "isAsSeen", "(LSaidMine$Shore;I)Z"⟩, 18), (⟨"SaidMineModel", "readText", "()I"⟩, 45)]
theorem lw_r2 : ∀ q ∈ lw_privs_2, lw_okq q := List.forall_mem_cons.mpr ⟨lw_p16, List.forall_mem_cons.mpr ⟨lw_p17, List.forall_mem_cons.mpr ⟨lw_p18, List.forall_mem_cons.mpr ⟨lw_p19, List.forall_mem_cons.mpr ⟨lw_p20, List.forall_mem_cons.mpr ⟨lw_p21, List.forall_mem_cons.mpr ⟨lw_p22, List.forall_mem_cons.mpr ⟨lw_p23, List.forall_mem_cons.mpr ⟨lw_p24, List.forall_mem_cons.mpr ⟨lw_p25, List.forall_mem_cons.mpr ⟨lw_p26, List.forall_mem_cons.mpr ⟨lw_p27, List.forall_mem_cons.mpr ⟨lw_p28, List.forall_mem_cons.mpr ⟨lw_p29, List.forall_mem_cons.mpr ⟨lw_p30, List.forall_mem_cons.mpr ⟨lw_p31, fun _ h => absurd h List.not_mem_nil⟩⟩⟩⟩⟩⟩⟩⟩⟩⟩⟩⟩⟩⟩⟩⟩
theorem lw_p32 : lw_okq (⟨"SaidMineModel", "figure", "(II)I"⟩, 45) := ⟨⟨by decide +kernel, by decide +kernel⟩, List.mem_of_getElem? (i := 675) (by decide +kernel), List.mem_of_getElem? (i := 838) (by decide +kernel), List.mem_of_getElem? (i := 839) (by decide +kernel)⟩
theorem lw_p33 : lw_okq (⟨"SaidMineModel", "readPart", "(I)V"⟩, 45) := ⟨⟨by decide +kernel, by decide +kernel⟩, List.mem_of_getElem? (i := 675) (by decide +kernel), List.mem_of_getElem? (i := 842) (by decide +kernel), List.mem_of_getElem? (i := 843) (by decide +kernel)⟩
theorem lw_p34 : lw_okq (⟨"SaidMineModel", "begins", "()I"⟩, 45) := ⟨⟨by decide +kernel, by decide +kernel⟩, List.mem_of_getElem? (i := 675) (by decide +kernel), List.mem_of_getElem? (i := 846) (by decide +kernel), List.mem_of_getElem? (i := 847) (by decide +kernel)⟩
theorem lw_p35 : lw_okq (⟨"SaidMineModel", "mayLie", "(I)I"⟩, 45) := ⟨⟨by decide +kernel, by decide +kernel⟩, List.mem_of_getElem? (i := 675) (by decide +kernel), List.mem_of_getElem? (i := 850) (by decide +kernel), List.mem_of_getElem? (i := 851) (by decide +kernel)⟩
theorem lw_p36 : lw_okq (⟨"SaidMineModel", "figureOf", "(I)I"⟩, 45) := ⟨⟨by decide +kernel, by decide +kernel⟩, List.mem_of_getElem? (i := 675) (by decide +kernel), List.mem_of_getElem? (i := 854) (by decide +kernel), List.mem_of_getElem? (i := 855) (by decide +kernel)⟩
theorem lw_p37 : lw_okq (⟨"SaidMineModel", "isHouse", "(I)Z"⟩, 45) := ⟨⟨by decide +kernel, by decide +kernel⟩, List.mem_of_getElem? (i := 675) (by decide +kernel), List.mem_of_getElem? (i := 870) (by decide +kernel), List.mem_of_getElem? (i := 871) (by decide +kernel)⟩
theorem lw_p38 : lw_okq (⟨"SaidMineModel", "leftOf", "(I)I"⟩, 45) := ⟨⟨by decide +kernel, by decide +kernel⟩, List.mem_of_getElem? (i := 675) (by decide +kernel), List.mem_of_getElem? (i := 874) (by decide +kernel), List.mem_of_getElem? (i := 875) (by decide +kernel)⟩
theorem lw_p39 : lw_okq (⟨"SaidMineModel", "nearOf", "(I)I"⟩, 45) := ⟨⟨by decide +kernel, by decide +kernel⟩, List.mem_of_getElem? (i := 675) (by decide +kernel), List.mem_of_getElem? (i := 881) (by decide +kernel), List.mem_of_getElem? (i := 882) (by decide +kernel)⟩
theorem lw_p40 : lw_okq (⟨"SaidMineModel", "isNear", "(II)Z"⟩, 45) := ⟨⟨by decide +kernel, by decide +kernel⟩, List.mem_of_getElem? (i := 675) (by decide +kernel), List.mem_of_getElem? (i := 885) (by decide +kernel), List.mem_of_getElem? (i := 886) (by decide +kernel)⟩
theorem lw_p41 : lw_okq (⟨"SaidMineModel", "isThing", "(I)Z"⟩, 45) := ⟨⟨by decide +kernel, by decide +kernel⟩, List.mem_of_getElem? (i := 675) (by decide +kernel), List.mem_of_getElem? (i := 894) (by decide +kernel), List.mem_of_getElem? (i := 895) (by decide +kernel)⟩
theorem lw_p42 : lw_okq (⟨"SaidMineModel", "counted", "(II)I"⟩, 45) := ⟨⟨by decide +kernel, by decide +kernel⟩, List.mem_of_getElem? (i := 675) (by decide +kernel), List.mem_of_getElem? (i := 898) (by decide +kernel), List.mem_of_getElem? (i := 899) (by decide +kernel)⟩
theorem lw_p43 : lw_okq (⟨"SaidMineModel", "saidTo", "(II)I"⟩, 45) := ⟨⟨by decide +kernel, by decide +kernel⟩, List.mem_of_getElem? (i := 675) (by decide +kernel), List.mem_of_getElem? (i := 902) (by decide +kernel), List.mem_of_getElem? (i := 903) (by decide +kernel)⟩
theorem lw_p44 : lw_okq (⟨"SaidMineModel", "stays", "(II)Z"⟩, 45) := ⟨⟨by decide +kernel, by decide +kernel⟩, List.mem_of_getElem? (i := 675) (by decide +kernel), List.mem_of_getElem? (i := 906) (by decide +kernel), List.mem_of_getElem? (i := 907) (by decide +kernel)⟩
theorem lw_p45 : lw_okq (⟨"SaidMineModel", "outermost", "(I)I"⟩, 45) := ⟨⟨by decide +kernel, by decide +kernel⟩, List.mem_of_getElem? (i := 675) (by decide +kernel), List.mem_of_getElem? (i := 910) (by decide +kernel), List.mem_of_getElem? (i := 911) (by decide +kernel)⟩
theorem lw_p46 : lw_okq (⟨"SaidMineModel", "isHeld", "(II)Z"⟩, 45) := ⟨⟨by decide +kernel, by decide +kernel⟩, List.mem_of_getElem? (i := 675) (by decide +kernel), List.mem_of_getElem? (i := 914) (by decide +kernel), List.mem_of_getElem? (i := 915) (by decide +kernel)⟩
theorem lw_p47 : lw_okq (⟨"SaidMineModel", "keepAct", "()V"⟩, 45) := ⟨⟨by decide +kernel, by decide +kernel⟩, List.mem_of_getElem? (i := 675) (by decide +kernel), List.mem_of_getElem? (i := 925) (by decide +kernel), List.mem_of_getElem? (i := 926) (by decide +kernel)⟩
def lw_privs_3 : List (MethodName × Nat) := [(⟨"SaidMineModel", "figure", "(II)I"⟩, 45), (⟨"SaidMineModel", "readPart", "(I)V"⟩, 45), (⟨"SaidMineModel", "begins", "()I"⟩, 45), (⟨"SaidMineModel", "mayLie", "(I)I"⟩, 45), (⟨"SaidMineModel", "figureOf", "(I)I"⟩, 45), (⟨"SaidMineModel", "isHouse", "(I)Z"⟩, 45), (⟨"SaidMineModel", "leftOf", "(I)I"⟩, 45), (⟨"SaidMineModel", "nearOf", "(I)I"⟩, 45), (⟨"SaidMineModel", "isNear", "(II)Z"⟩, 45), (⟨"SaidMineModel", "isThing", "(I)Z"⟩, 45), (⟨"SaidMineModel", "counted", "(II)I"⟩, 45), (⟨"SaidMineModel", "saidTo", "(II)I"⟩, 45), (⟨"SaidMineModel", "stays", "(II)Z"⟩, 45), (⟨"SaidMineModel", "outermost", "(I)I"⟩, 45), (⟨"SaidMineModel", "isHeld", "(II)Z"⟩, 45), (⟨"SaidMineModel", "keepAct", "()V"⟩, 45)]
theorem lw_r3 : ∀ q ∈ lw_privs_3, lw_okq q := List.forall_mem_cons.mpr ⟨lw_p32, List.forall_mem_cons.mpr ⟨lw_p33, List.forall_mem_cons.mpr ⟨lw_p34, List.forall_mem_cons.mpr ⟨lw_p35, List.forall_mem_cons.mpr ⟨lw_p36, List.forall_mem_cons.mpr ⟨lw_p37, List.forall_mem_cons.mpr ⟨lw_p38, List.forall_mem_cons.mpr ⟨lw_p39, List.forall_mem_cons.mpr ⟨lw_p40, List.forall_mem_cons.mpr ⟨lw_p41, List.forall_mem_cons.mpr ⟨lw_p42, List.forall_mem_cons.mpr ⟨lw_p43, List.forall_mem_cons.mpr ⟨lw_p44, List.forall_mem_cons.mpr ⟨lw_p45, List.forall_mem_cons.mpr ⟨lw_p46, List.forall_mem_cons.mpr ⟨lw_p47, fun _ h => absurd h List.not_mem_nil⟩⟩⟩⟩⟩⟩⟩⟩⟩⟩⟩⟩⟩⟩⟩⟩
theorem lw_p48 : lw_okq (⟨"SaidMineModel", "staying", "(I)I"⟩, 45) := ⟨⟨by decide +kernel, by decide +kernel⟩, List.mem_of_getElem? (i := 675) (by decide +kernel), List.mem_of_getElem? (i := 937) (by decide +kernel), List.mem_of_getElem? (i := 938) (by decide +kernel)⟩
theorem lw_p49 : lw_okq (⟨"SaidMineModel", "pass", "(I)I"⟩, 45) := ⟨⟨by decide +kernel, by decide +kernel⟩, List.mem_of_getElem? (i := 675) (by decide +kernel), List.mem_of_getElem? (i := 945) (by decide +kernel), List.mem_of_getElem? (i := 946) (by decide +kernel)⟩
theorem lw_p50 : lw_okq (⟨"SaidMineModel", "allSaid", "()I"⟩, 45) := ⟨⟨by decide +kernel, by decide +kernel⟩, List.mem_of_getElem? (i := 675) (by decide +kernel), List.mem_of_getElem? (i := 953) (by decide +kernel), List.mem_of_getElem? (i := 954) (by decide +kernel)⟩
theorem lw_p51 : lw_okq (⟨"SaidMineModel", "layTrial", "()V"⟩, 45) := ⟨⟨by decide +kernel, by decide +kernel⟩, List.mem_of_getElem? (i := 675) (by decide +kernel), List.mem_of_getElem? (i := 970) (by decide +kernel), List.mem_of_getElem? (i := 971) (by decide +kernel)⟩
theorem lw_p52 : lw_okq (⟨"SaidMineModel", "atLast", "(I)I"⟩, 45) := ⟨⟨by decide +kernel, by decide +kernel⟩, List.mem_of_getElem? (i := 675) (by decide +kernel), List.mem_of_getElem? (i := 975) (by decide +kernel), List.mem_of_getElem? (i := 976) (by decide +kernel)⟩
theorem lw_p53 : lw_okq (⟨"SaidMineModel", "trySay", "(II)Z"⟩, 45) := ⟨⟨by decide +kernel, by decide +kernel⟩, List.mem_of_getElem? (i := 675) (by decide +kernel), List.mem_of_getElem? (i := 979) (by decide +kernel), List.mem_of_getElem? (i := 980) (by decide +kernel)⟩
theorem lw_p54 : lw_okq (⟨"SaidMineModel", "begin", "(ZIIZ)V"⟩, 45) := ⟨⟨by decide +kernel, by decide +kernel⟩, List.mem_of_getElem? (i := 675) (by decide +kernel), List.mem_of_getElem? (i := 987) (by decide +kernel), List.mem_of_getElem? (i := 988) (by decide +kernel)⟩
theorem lw_p55 : lw_okq (⟨"SaidMineModel", "outermostOf", "(I)I"⟩, 45) := ⟨⟨by decide +kernel, by decide +kernel⟩, List.mem_of_getElem? (i := 675) (by decide +kernel), List.mem_of_getElem? (i := 991) (by decide +kernel), List.mem_of_getElem? (i := 992) (by decide +kernel)⟩
theorem lw_p56 : lw_okq (⟨"SaidMineModel", "layBest", "()V"⟩, 45) := ⟨⟨by decide +kernel, by decide +kernel⟩, List.mem_of_getElem? (i := 675) (by decide +kernel), List.mem_of_getElem? (i := 995) (by decide +kernel), List.mem_of_getElem? (i := 996) (by decide +kernel)⟩
theorem lw_p57 : lw_okq (⟨"SaidMineModel", "leftNow", "()I"⟩, 45) := ⟨⟨by decide +kernel, by decide +kernel⟩, List.mem_of_getElem? (i := 675) (by decide +kernel), List.mem_of_getElem? (i := 999) (by decide +kernel), List.mem_of_getElem? (i := 1000) (by decide +kernel)⟩
theorem lw_p58 : lw_okq (⟨"SaidMineModel", "choice", "(III)I"⟩, 45) := ⟨⟨by decide +kernel, by decide +kernel⟩, List.mem_of_getElem? (i := 675) (by decide +kernel), List.mem_of_getElem? (i := 1009) (by decide +kernel), List.mem_of_getElem? (i := 1010) (by decide +kernel)⟩
theorem lw_p59 : lw_okq (⟨"SaidMineModel", "maySay", "(III)Z"⟩, 45) := ⟨⟨by decide +kernel, by decide +kernel⟩, List.mem_of_getElem? (i := 675) (by decide +kernel), List.mem_of_getElem? (i := 1013) (by decide +kernel), List.mem_of_getElem? (i := 1014) (by decide +kernel)⟩
theorem lw_p60 : lw_okq (⟨"SaidMineModel", "staysWith", "(II)Z"⟩, 45) := ⟨⟨by decide +kernel, by decide +kernel⟩, List.mem_of_getElem? (i := 675) (by decide +kernel), List.mem_of_getElem? (i := 1017) (by decide +kernel), List.mem_of_getElem? (i := 1018) (by decide +kernel)⟩
theorem lw_p61 : lw_okq (⟨"SaidMineModel", "worthIn", "(I)I"⟩, 45) := ⟨⟨by decide +kernel, by decide +kernel⟩, List.mem_of_getElem? (i := 675) (by decide +kernel), List.mem_of_getElem? (i := 1024) (by decide +kernel), List.mem_of_getElem? (i := 1025) (by decide +kernel)⟩
theorem lw_p62 : lw_okq (⟨"SaidMineModel", "isBetter", "(II)Z"⟩, 45) := ⟨⟨by decide +kernel, by decide +kernel⟩, List.mem_of_getElem? (i := 675) (by decide +kernel), List.mem_of_getElem? (i := 1028) (by decide +kernel), List.mem_of_getElem? (i := 1029) (by decide +kernel)⟩
theorem lw_p63 : lw_okq (⟨"SaidMineModel", "mostBy", "(IZ)I"⟩, 45) := ⟨⟨by decide +kernel, by decide +kernel⟩, List.mem_of_getElem? (i := 675) (by decide +kernel), List.mem_of_getElem? (i := 1040) (by decide +kernel), List.mem_of_getElem? (i := 1041) (by decide +kernel)⟩
def lw_privs_4 : List (MethodName × Nat) := [(⟨"SaidMineModel", "staying", "(I)I"⟩, 45), (⟨"SaidMineModel", "pass", "(I)I"⟩, 45), (⟨"SaidMineModel", "allSaid", "()I"⟩, 45), (⟨"SaidMineModel", "layTrial", "()V"⟩, 45), (⟨"SaidMineModel", "atLast", "(I)I"⟩, 45), (⟨"SaidMineModel", "trySay", "(II)Z"⟩, 45), (⟨"SaidMineModel", "begin", "(ZIIZ)V"⟩, 45), (⟨"SaidMineModel", "outermostOf", "(I)I"⟩, 45), (⟨"SaidMineModel", "layBest", "()V"⟩, 45), (⟨"SaidMineModel", "leftNow", "()I"⟩, 45), (⟨"SaidMineModel", "choice", "(III)I"⟩, 45), (⟨"SaidMineModel", "maySay", "(III)Z"⟩, 45), (⟨"SaidMineModel", "staysWith", "(II)Z"⟩, 45), (⟨"SaidMineModel", "worthIn", "(I)I"⟩, 45), (⟨"SaidMineModel", "isBetter", "(II)Z"⟩, 45), (⟨"SaidMineModel", "mostBy", "(IZ)I"⟩, 45)]
theorem lw_r4 : ∀ q ∈ lw_privs_4, lw_okq q := List.forall_mem_cons.mpr ⟨lw_p48, List.forall_mem_cons.mpr ⟨lw_p49, List.forall_mem_cons.mpr ⟨lw_p50, List.forall_mem_cons.mpr ⟨lw_p51, List.forall_mem_cons.mpr ⟨lw_p52, List.forall_mem_cons.mpr ⟨lw_p53, List.forall_mem_cons.mpr ⟨lw_p54, List.forall_mem_cons.mpr ⟨lw_p55, List.forall_mem_cons.mpr ⟨lw_p56, List.forall_mem_cons.mpr ⟨lw_p57, List.forall_mem_cons.mpr ⟨lw_p58, List.forall_mem_cons.mpr ⟨lw_p59, List.forall_mem_cons.mpr ⟨lw_p60, List.forall_mem_cons.mpr ⟨lw_p61, List.forall_mem_cons.mpr ⟨lw_p62, List.forall_mem_cons.mpr ⟨lw_p63, fun _ h => absurd h List.not_mem_nil⟩⟩⟩⟩⟩⟩⟩⟩⟩⟩⟩⟩⟩⟩⟩⟩
theorem lw_p64 : lw_okq (⟨"SaidMineModel", "gain", "(IIIIZ)I"⟩, 45) := ⟨⟨by decide +kernel, by decide +kernel⟩, List.mem_of_getElem? (i := 675) (by decide +kernel), List.mem_of_getElem? (i := 1058) (by decide +kernel), List.mem_of_getElem? (i := 1059) (by decide +kernel)⟩
theorem lw_p65 : lw_okq (⟨"SaidMineModel", "passes", "(I)V"⟩, 45) := ⟨⟨by decide +kernel, by decide +kernel⟩, List.mem_of_getElem? (i := 675) (by decide +kernel), List.mem_of_getElem? (i := 1066) (by decide +kernel), List.mem_of_getElem? (i := 1067) (by decide +kernel)⟩
theorem lw_p66 : lw_okq (⟨"SaidMineModel", "quayOf", "()I"⟩, 45) := ⟨⟨by decide +kernel, by decide +kernel⟩, List.mem_of_getElem? (i := 675) (by decide +kernel), List.mem_of_getElem? (i := 1074) (by decide +kernel), List.mem_of_getElem? (i := 1075) (by decide +kernel)⟩
theorem lw_p67 : lw_okq (⟨"SaidMineModel", "isSeen", "(III)Z"⟩, 45) := ⟨⟨by decide +kernel, by decide +kernel⟩, List.mem_of_getElem? (i := 675) (by decide +kernel), List.mem_of_getElem? (i := 1112) (by decide +kernel), List.mem_of_getElem? (i := 1113) (by decide +kernel)⟩
def lw_privs_5 : List (MethodName × Nat) := [(⟨"SaidMineModel", "gain", "(IIIIZ)I"⟩, 45), (⟨"SaidMineModel", "passes", "(I)V"⟩, 45), (⟨"SaidMineModel", "quayOf", "()I"⟩, 45), (⟨"SaidMineModel", "isSeen", "(III)Z"⟩, 45)]
theorem lw_r5 : ∀ q ∈ lw_privs_5, lw_okq q := List.forall_mem_cons.mpr ⟨lw_p64, List.forall_mem_cons.mpr ⟨lw_p65, List.forall_mem_cons.mpr ⟨lw_p66, List.forall_mem_cons.mpr ⟨lw_p67, fun _ h => absurd h List.not_mem_nil⟩⟩⟩⟩
def lw_privs : List (MethodName × Nat) := lw_privs_1 ++ (lw_privs_2 ++ (lw_privs_3 ++ (lw_privs_4 ++ (lw_privs_5))))
def lw_tbl : List Cond := k2_sels lw_privs ++ tables_1
theorem lw_privs_ok : ∀ q ∈ lw_privs, lw_okq q := by
  show ∀ q ∈ lw_privs_1 ++ (lw_privs_2 ++ (lw_privs_3 ++ (lw_privs_4 ++ (lw_privs_5)))), lw_okq q
  exact List.forall_mem_append.mpr ⟨lw_r1, List.forall_mem_append.mpr ⟨lw_r2, List.forall_mem_append.mpr ⟨lw_r3, List.forall_mem_append.mpr ⟨lw_r4, lw_r5⟩⟩⟩⟩

-- names and field tables of the classes (as the claim's NAMES text prints them)
def RX0 : String := "SaidMine$Coast"
def TX0 : u_T := fun k => match k with
  | 0 => ("SaidMine$Coast", "home", "[I", true)
  | 1 => ("SaidMine$Coast", "breaths", "[I", true)
  | 2 => ("SaidMine$Coast", "start", "[I", true)
  | 3 => ("SaidMine$Coast", "pace", "[I", true)
  | 4 => ("SaidMine$Coast", "worth", "[I", true)
  | 5 => ("SaidMine$Coast", "owner", "[I", true)
  | 6 => ("SaidMine$Coast", "inside", "[I", true)
  | 7 => ("SaidMine$Coast", "houses", "I", false)
  | 8 => ("SaidMine$Coast", "things", "I", false)
  | 9 => ("SaidMine$Coast", "law", "I", false)
  | 10 => ("SaidMine$Coast", "last", "I", false)
  | _ => ("SaidMine$Coast", "debts", "I", false)
def tyX0 : Nat → FieldType := fun k => match k with
  | 0 => .array .int
  | 1 => .array .int
  | 2 => .array .int
  | 3 => .array .int
  | 4 => .array .int
  | 5 => .array .int
  | 6 => .array .int
  | 7 => .int
  | 8 => .int
  | 9 => .int
  | 10 => .int
  | _ => .int
theorem nmX0 : ∀ a, a < 12 → ∀ b, b < 12 → a ≠ b → (TX0 a).2.1 ≠ (TX0 b).2.1 := by decide +kernel
theorem tyX0_ok : ∀ k, k < 12 → parseFieldDescriptor (TX0 k).2.2.1 = some (tyX0 k) := by decide +kernel
def RX1 : String := "SaidMine$Keeping"
def TX1 : u_T := fun k => match k with
  | 0 => ("SaidMine$Keeping", "breathing", "[I", true)
  | 1 => ("SaidMine$Keeping", "table", "[I", true)
  | 2 => ("SaidMine$Keeping", "ways", "[I", true)
  | _ => ("SaidMine$Keeping", "wayCount", "I", false)
def tyX1 : Nat → FieldType := fun k => match k with
  | 0 => .array .int
  | 1 => .array .int
  | 2 => .array .int
  | _ => .int
theorem nmX1 : ∀ a, a < 4 → ∀ b, b < 4 → a ≠ b → (TX1 a).2.1 ≠ (TX1 b).2.1 := by decide +kernel
theorem tyX1_ok : ∀ k, k < 4 → parseFieldDescriptor (TX1 k).2.2.1 = some (tyX1 k) := by decide +kernel
def RX2 : String := "SaidMine$Reader"
def TX2 : u_T := fun k => match k with
  | 0 => ("SaidMine$Reader", "coast", "LSaidMine$Coast;", false)
  | 1 => ("SaidMine$Reader", "part", "I", false)
  | 2 => ("SaidMine$Reader", "step", "I", false)
  | _ => ("SaidMine$Reader", "lying", "I", false)
def tyX2 : Nat → FieldType := fun k => match k with
  | 0 => .object "SaidMine$Coast"
  | 1 => .int
  | 2 => .int
  | _ => .int
theorem nmX2 : ∀ a, a < 4 → ∀ b, b < 4 → a ≠ b → (TX2 a).2.1 ≠ (TX2 b).2.1 := by decide +kernel
theorem tyX2_ok : ∀ k, k < 4 → parseFieldDescriptor (TX2 k).2.2.1 = some (tyX2 k) := by decide +kernel
def RX3 : String := "SaidMine$Shore"
def TX3 : u_T := fun k => match k with
  | 0 => ("SaidMine$Shore", "place", "[I", true)
  | 1 => ("SaidMine$Shore", "said", "[I", true)
  | 2 => ("SaidMine$Shore", "stones", "I", false)
  | 3 => ("SaidMine$Shore", "owes", "I", false)
  | _ => ("SaidMine$Shore", "blows", "I", false)
def tyX3 : Nat → FieldType := fun k => match k with
  | 0 => .array .int
  | 1 => .array .int
  | 2 => .int
  | 3 => .int
  | _ => .int
theorem nmX3 : ∀ a, a < 5 → ∀ b, b < 5 → a ≠ b → (TX3 a).2.1 ≠ (TX3 b).2.1 := by decide +kernel
theorem tyX3_ok : ∀ k, k < 5 → parseFieldDescriptor (TX3 k).2.2.1 = some (tyX3 k) := by decide +kernel
def RX4 : String := "SaidMine"
def TX4 : u_T := fun k => match k with
  | 0 => ("SaidMine", "text", "[I", true)
  | 1 => ("SaidMine", "letters", "I", false)
  | 2 => ("SaidMine", "reader", "LSaidMine$Reader;", true)
  | 3 => ("SaidMine", "told", "LSaidMine$Coast;", false)
  | 4 => ("SaidMine", "draft", "LSaidMine$Coast;", false)
  | 5 => ("SaidMine", "now", "LSaidMine$Shore;", true)
  | 6 => ("SaidMine", "trial", "LSaidMine$Shore;", true)
  | 7 => ("SaidMine", "past", "[LSaidMine$Shore;", true)
  | 8 => ("SaidMine", "pastEnd", "I", false)
  | 9 => ("SaidMine", "acts", "I", false)
  | 10 => ("SaidMine", "slots", "[LSaidMine$Shore;", true)
  | 11 => ("SaidMine", "keptSlots", "I", false)
  | 12 => ("SaidMine", "keeping", "LSaidMine$Keeping;", true)
  | 13 => ("SaidMine", "lessons", "[I", true)
  | 14 => ("SaidMine", "lessonCount", "I", false)
  | 15 => ("SaidMine", "seen", "[I", true)
  | 16 => ("SaidMine", "seenCount", "I", false)
  | _ => ("SaidMine", "theSeed", "J", false)
def tyX4 : Nat → FieldType := fun k => match k with
  | 0 => .array .int
  | 1 => .int
  | 2 => .object "SaidMine$Reader"
  | 3 => .object "SaidMine$Coast"
  | 4 => .object "SaidMine$Coast"
  | 5 => .object "SaidMine$Shore"
  | 6 => .object "SaidMine$Shore"
  | 7 => .array (.object "SaidMine$Shore")
  | 8 => .int
  | 9 => .int
  | 10 => .array (.object "SaidMine$Shore")
  | 11 => .int
  | 12 => .object "SaidMine$Keeping"
  | 13 => .array .int
  | 14 => .int
  | 15 => .array .int
  | 16 => .int
  | _ => .long
theorem nmX4 : ∀ a, a < 18 → ∀ b, b < 18 → a ≠ b → (TX4 a).2.1 ≠ (TX4 b).2.1 := by decide +kernel
theorem tyX4_ok : ∀ k, k < 18 → parseFieldDescriptor (TX4 k).2.2.1 = some (tyX4 k) := by decide +kernel
def RX5 : String := "SaidMineModel"
def TX5 : u_T := fun k => match k with
  | 0 => ("SaidMineModel", "law", "I", false)
  | 1 => ("SaidMineModel", "last", "I", false)
  | 2 => ("SaidMineModel", "houses", "I", false)
  | 3 => ("SaidMineModel", "things", "I", false)
  | 4 => ("SaidMineModel", "home", "[I", true)
  | 5 => ("SaidMineModel", "breaths", "[I", true)
  | 6 => ("SaidMineModel", "far", "[I", true)
  | 7 => ("SaidMineModel", "worth", "[I", true)
  | 8 => ("SaidMineModel", "owner", "[I", true)
  | 9 => ("SaidMineModel", "inside", "[I", true)
  | 10 => ("SaidMineModel", "now", "[I", true)
  | 11 => ("SaidMineModel", "readLaw", "I", false)
  | 12 => ("SaidMineModel", "readLast", "I", false)
  | 13 => ("SaidMineModel", "readHouses", "I", false)
  | 14 => ("SaidMineModel", "readThings", "I", false)
  | 15 => ("SaidMineModel", "readOwes", "I", false)
  | 16 => ("SaidMineModel", "readHome", "[I", true)
  | 17 => ("SaidMineModel", "readBreaths", "[I", true)
  | 18 => ("SaidMineModel", "readAt", "[I", true)
  | 19 => ("SaidMineModel", "readFar", "[I", true)
  | 20 => ("SaidMineModel", "readWorth", "[I", true)
  | 21 => ("SaidMineModel", "readOwner", "[I", true)
  | 22 => ("SaidMineModel", "readIn", "[I", true)
  | 23 => ("SaidMineModel", "text", "[I", true)
  | 24 => ("SaidMineModel", "length", "I", false)
  | 25 => ("SaidMineModel", "at", "I", false)
  | 26 => ("SaidMineModel", "faultAt", "I", false)
  | 27 => ("SaidMineModel", "acts", "I", false)
  | 28 => ("SaidMineModel", "nextAct", "I", false)
  | 29 => ("SaidMineModel", "row", "[I", true)
  | 30 => ("SaidMineModel", "best", "[I", true)
  | 31 => ("SaidMineModel", "wanted", "I", false)
  | 32 => ("SaidMineModel", "counts", "Z", false)
  | 33 => ("SaidMineModel", "who", "I", false)
  | 34 => ("SaidMineModel", "anew", "Z", false)
  | 35 => ("SaidMineModel", "mosts", "[I", true)
  | 36 => ("SaidMineModel", "lessons", "I", false)
  | 37 => ("SaidMineModel", "caseOf", "[I", true)
  | 38 => ("SaidMineModel", "wasHeld", "[Z", true)
  | 39 => ("SaidMineModel", "seen", "I", false)
  | 40 => ("SaidMineModel", "seenOf", "[I", true)
  | 41 => ("SaidMineModel", "seenThere", "[Z", true)
  | 42 => ("SaidMineModel", "seed", "J", false)
  | 43 => ("SaidMineModel", "isKept", "[Z", true)
  | _ => ("SaidMineModel", "kept", "[I", true)
def tyX5 : Nat → FieldType := fun k => match k with
  | 0 => .int
  | 1 => .int
  | 2 => .int
  | 3 => .int
  | 4 => .array .int
  | 5 => .array .int
  | 6 => .array .int
  | 7 => .array .int
  | 8 => .array .int
  | 9 => .array .int
  | 10 => .array .int
  | 11 => .int
  | 12 => .int
  | 13 => .int
  | 14 => .int
  | 15 => .int
  | 16 => .array .int
  | 17 => .array .int
  | 18 => .array .int
  | 19 => .array .int
  | 20 => .array .int
  | 21 => .array .int
  | 22 => .array .int
  | 23 => .array .int
  | 24 => .int
  | 25 => .int
  | 26 => .int
  | 27 => .int
  | 28 => .int
  | 29 => .array .int
  | 30 => .array .int
  | 31 => .int
  | 32 => .boolean
  | 33 => .int
  | 34 => .boolean
  | 35 => .array .int
  | 36 => .int
  | 37 => .array .int
  | 38 => .array .boolean
  | 39 => .int
  | 40 => .array .int
  | 41 => .array .boolean
  | 42 => .long
  | 43 => .array .boolean
  | _ => .array .int
theorem nmX5 : ∀ a, a < 45 → ∀ b, b < 45 → a ≠ b → (TX5 a).2.1 ≠ (TX5 b).2.1 := by decide +kernel
theorem tyX5_ok : ∀ k, k < 45 → parseFieldDescriptor (TX5 k).2.2.1 = some (tyX5 k) := by decide +kernel
abbrev vwCl : List vw_C := [(RX0, TX0, 12), (RX1, TX1, 4), (RX2, TX2, 4), (RX3, TX3, 5), (RX4, TX4, 18), (RX5, TX5, 45)]
-- own tables
def ab_cls : List String := ["SaidMine$Coast", "SaidMine$Keeping", "SaidMine$Reader", "SaidMine$Shore", "SaidMine", "SaidMineModel", "java/lang/Integer", "java/lang/Math", "SaidMineLaw"]
/-- a method: name, code, locals, answer, its class, parameters, depth, words of locals that its calls need, cells, slots -/
abbrev ab_MT : Type := MethodName × ByteArray × Nat × Option FieldType × Nat × Nat × Nat × Nat × Nat × Nat
def ab_ms_0 : List ab_MT := [(⟨"SaidMine$Coast", "<init>", "()V"⟩, prog_2_method_1_code, 1, none, 0, 0, 1, 20, 7, 38),
  (⟨"SaidMine$Coast", "clear", "()V"⟩, prog_2_method_2_code, 1, none, 0, 0, 0, 0, 0, 0),
  (⟨"SaidMine$Coast", "anyMayLie", "()Z"⟩, prog_2_method_22_code, 3, some .boolean, 0, 0, 2, 45, 0, 0),
  (⟨"SaidMine$Coast", "mayLieIn", "(II)Z"⟩, prog_2_method_20_code, 5, some .boolean, 0, 2, 1, 21, 0, 0),
  (⟨"SaidMine$Coast", "hasThing", "(I)Z"⟩, prog_2_method_4_code, 2, some .boolean, 0, 1, 0, 0, 0, 0),
  (⟨"SaidMine$Coast", "allHouses", "()I"⟩, prog_2_method_5_code, 1, some .int, 0, 0, 0, 0, 0, 0),
  (⟨"SaidMine$Coast", "hasHouse", "(I)Z"⟩, prog_2_method_3_code, 2, some .boolean, 0, 1, 0, 0, 0, 0),
  (⟨"SaidMine$Coast", "mayLie", "(I)Z"⟩, prog_2_method_21_code, 3, some .boolean, 0, 1, 2, 45, 0, 0),
  (⟨"SaidMine$Coast", "breathsLeft", "(LSaidMine$Shore;I)I"⟩, prog_2_method_14_code, 3, some .int, 0, 2, 1, 40, 0, 0),
  (⟨"SaidMine$Coast", "near", "(LSaidMine$Shore;I)I"⟩, prog_2_method_13_code, 5, some .int, 0, 2, 2, 63, 0, 0),
  (⟨"SaidMine$Coast", "isNear", "(LSaidMine$Shore;II)Z"⟩, prog_2_method_12_code, 4, some .boolean, 0, 3, 1, 40, 0, 0),
  (⟨"SaidMine$Coast", "counted", "(LSaidMine$Shore;I)I"⟩, prog_2_method_8_code, 5, some .int, 0, 2, 1, 21, 0, 0),
  (⟨"SaidMine$Coast", "stays", "(LSaidMine$Shore;I)Z"⟩, prog_2_method_10_code, 4, some .boolean, 0, 2, 2, 45, 0, 0),
  (⟨"SaidMine$Coast", "top", "(I)I"⟩, prog_2_method_7_code, 4, some .int, 0, 1, 1, 21, 0, 0),
  (⟨"SaidMine$Coast", "held", "(II)Z"⟩, prog_2_method_9_code, 4, some .boolean, 0, 2, 1, 22, 0, 0),
  (⟨"SaidMine$Coast", "whyNotSaid", "(LSaidMine$Shore;II)I"⟩, prog_2_method_15_code, 4, some .int, 0, 3, 2, 63, 0, 0),
  (⟨"SaidMine$Coast", "staying", "(LSaidMine$Shore;)I"⟩, prog_2_method_11_code, 4, some .int, 0, 1, 3, 68, 0, 0),
  (⟨"SaidMine$Coast", "drift", "(LSaidMine$Shore;)I"⟩, prog_2_method_18_code, 5, some .int, 0, 1, 4, 92, 0, 0),
  (⟨"SaidMine$Coast", "placeBehind", "(LSaidMine$Shore;II)I"⟩, prog_2_method_16_code, 5, some .int, 0, 3, 3, 68, 0, 0),
  (⟨"SaidMine$Coast", "atLastBehind", "(LSaidMine$Shore;I)I"⟩, prog_2_method_17_code, 5, some .int, 0, 2, 4, 92, 0, 0),
  (⟨"SaidMine$Coast", "allThings", "()I"⟩, prog_2_method_6_code, 1, some .int, 0, 0, 0, 0, 0, 0),
  (⟨"SaidMine$Coast", "worthOf", "(I)I"⟩, prog_2_method_19_code, 4, some .int, 0, 1, 1, 21, 0, 0),
  (⟨"SaidMine$Keeping", "<init>", "()V"⟩, prog_3_method_1_code, 4, none, 1, 0, 1, 20, 3, 1266),
  (⟨"SaidMine$Keeping", "fewest", "(LSaidMine$Coast;LSaidMine$Shore;I)I"⟩, prog_3_method_2_code, 7, some .int, 1, 3, 6, 167, 0, 0),
  (⟨"SaidMine$Keeping", "wantedTops", "(LSaidMine$Coast;LSaidMine$Shore;I)I"⟩, prog_3_method_15_code, 6, some .int, 1, 3, 3, 68, 0, 0),
  (⟨"SaidMine$Keeping", "canKeep", "(LSaidMine$Coast;LSaidMine$Shore;I)Z"⟩, prog_3_method_7_code, 7, some .boolean, 1, 3, 5, 141, 0, 0),
  (⟨"SaidMine$Keeping", "purseOf", "(LSaidMine$Coast;LSaidMine$Shore;I)I"⟩, prog_3_method_17_code, 6, some .int, 1, 3, 2, 62, 0, 0),
  (⟨"SaidMine$Keeping", "findWaysIfWanted", "(LSaidMine$Coast;LSaidMine$Shore;II)V"⟩, prog_3_method_11_code, 5, none, 1, 4, 4, 117, 0, 0),
  (⟨"SaidMine$Keeping", "findWays", "(LSaidMine$Coast;LSaidMine$Shore;I)V"⟩, prog_3_method_12_code, 9, none, 1, 3, 3, 89, 0, 0),
  (⟨"SaidMine$Keeping", "freeFor", "(LSaidMine$Coast;LSaidMine$Shore;I)I"⟩, prog_3_method_14_code, 7, some .int, 1, 3, 2, 63, 0, 0),
  (⟨"SaidMine$Keeping", "lacking", "(LSaidMine$Coast;I)I"⟩, prog_3_method_13_code, 3, some .int, 1, 2, 1, 20, 0, 0),
  (⟨"SaidMine$Keeping", "firstFitting", "(II)I"⟩, prog_3_method_9_code, 4, some .int, 1, 2, 1, 22, 0, 0),
  (⟨"SaidMine$Keeping", "affords", "(II)Z"⟩, prog_3_method_10_code, 3, some .boolean, 1, 2, 0, 0, 0, 0),
  (⟨"SaidMine$Keeping", "firstWay", "(LSaidMine$Coast;LSaidMine$Shore;II)I"⟩, prog_3_method_3_code, 8, some .int, 1, 4, 6, 167, 0, 0),
  (⟨"SaidMine$Keeping", "leastWay", "(LSaidMine$Coast;LSaidMine$Shore;III)I"⟩, prog_3_method_8_code, 6, some .int, 1, 5, 5, 141, 0, 0),
  (⟨"SaidMine$Keeping", "fillWorth", "(LSaidMine$Coast;LSaidMine$Shore;)V"⟩, prog_3_method_4_code, 6, none, 1, 2, 4, 117, 0, 0),
  (⟨"SaidMine$Keeping", "worthWithin", "(LSaidMine$Coast;I)I"⟩, prog_3_method_16_code, 5, some .int, 1, 2, 2, 44, 0, 0),
  (⟨"SaidMine$Keeping", "addWorth", "(II)V"⟩, prog_3_method_6_code, 6, none, 1, 2, 1, 40, 0, 0),
  (⟨"SaidMine$Keeping", "worthBy", "(LSaidMine$Coast;LSaidMine$Shore;I)I"⟩, prog_3_method_5_code, 4, some .int, 1, 3, 3, 87, 0, 0),
  (⟨"SaidMine$Reader", "<init>", "()V"⟩, prog_4_method_1_code, 1, none, 2, 0, 1, 20, 0, 0)]
def ab_ms_1 : List ab_MT := [(⟨"SaidMine$Reader", "read", "([IILSaidMine$Coast;)I"⟩, prog_4_method_2_code, 6, some .int, 2, 3, 5, 110, 0, 0),
  (⟨"SaidMine$Reader", "takes", "(I)Z"⟩, prog_4_method_3_code, 3, some .boolean, 2, 1, 4, 88, 0, 0),
  (⟨"SaidMine$Reader", "opens", "(IZ)Z"⟩, prog_4_method_4_code, 3, some .boolean, 2, 2, 0, 0, 0, 0),
  (⟨"SaidMine$Reader", "mayOpen", "(I)Z"⟩, prog_4_method_6_code, 2, some .boolean, 2, 1, 3, 67, 0, 0),
  (⟨"SaidMine$Reader", "takesOfWind", "(I)Z"⟩, prog_4_method_7_code, 2, some .boolean, 2, 1, 1, 20, 0, 0),
  (⟨"SaidMine$Reader", "closes", "()Z"⟩, prog_4_method_5_code, 1, some .boolean, 2, 0, 0, 0, 0, 0),
  (⟨"SaidMine$Reader", "takesOfHouse", "(I)Z"⟩, prog_4_method_8_code, 3, some .boolean, 2, 1, 1, 20, 0, 0),
  (⟨"SaidMine$Reader", "takesNobody", "()Z"⟩, prog_4_method_10_code, 1, some .boolean, 2, 0, 2, 41, 0, 0),
  (⟨"SaidMine$Reader", "ownedBy", "(I)Z"⟩, prog_4_method_11_code, 2, some .boolean, 2, 1, 1, 20, 0, 0),
  (⟨"SaidMine$Reader", "takesOfThing", "(I)Z"⟩, prog_4_method_9_code, 3, some .boolean, 2, 1, 2, 41, 0, 0),
  (⟨"SaidMine$Reader", "takesOfLying", "(I)Z"⟩, prog_4_method_12_code, 2, some .boolean, 2, 1, 3, 67, 0, 0),
  (⟨"SaidMine$Reader", "takesOfDebt", "(I)Z"⟩, prog_4_method_13_code, 2, some .boolean, 2, 1, 1, 21, 0, 0),
  (⟨"SaidMine$Shore", "<init>", "()V"⟩, prog_5_method_1_code, 1, none, 3, 0, 1, 20, 2, 10),
  (⟨"SaidMine$Shore", "begin", "(LSaidMine$Coast;)V"⟩, prog_5_method_2_code, 2, none, 3, 1, 1, 40, 0, 0),
  (⟨"SaidMine$Shore", "unsay", "()V"⟩, prog_5_method_4_code, 2, none, 3, 0, 0, 0, 0, 0),
  (⟨"SaidMine$Shore", "copy", "(LSaidMine$Shore;)V"⟩, prog_5_method_3_code, 2, none, 3, 1, 1, 40, 0, 0),
  (⟨"SaidMine$Shore", "saidCount", "()I"⟩, prog_5_method_5_code, 3, some .int, 3, 0, 1, 20, 0, 0),
  (⟨"SaidMine", "<init>", "()V"⟩, prog_1_method_1_code, 2, none, 4, 0, 2, 43, 86, 1760),
  (⟨"SaidMine", "write", "(I)I"⟩, prog_1_method_2_code, 2, some .int, 4, 1, 0, 0, 0, 0),
  (⟨"SaidMine", "wipe", "()I"⟩, prog_1_method_3_code, 2, some .int, 4, 0, 0, 0, 0, 0),
  (⟨"SaidMine", "fault", "()I"⟩, prog_1_method_4_code, 1, some .int, 4, 0, 6, 135, 0, 0),
  (⟨"SaidMine", "bit", "(II)I"⟩, prog_1_method_47_code, 2, some .int, 4, 2, 0, 0, 0, 0),
  (⟨"SaidMine", "coast", "()I"⟩, prog_1_method_5_code, 2, some .int, 4, 0, 6, 135, 0, 0),
  (⟨"SaidMine", "house", "(II)I"⟩, prog_1_method_6_code, 3, some .int, 4, 2, 3, 87, 0, 0),
  (⟨"SaidMine", "thing", "(II)I"⟩, prog_1_method_7_code, 3, some .int, 4, 2, 3, 68, 0, 0),
  (⟨"SaidMine", "holds", "(IIZ)Z"⟩, prog_1_method_46_code, 3, some .boolean, 4, 3, 0, 0, 0, 0),
  (⟨"SaidMine", "say", "(II)I"⟩, prog_1_method_8_code, 4, some .int, 4, 2, 3, 86, 0, 0),
  (⟨"SaidMine", "noteAct", "()V"⟩, prog_1_method_35_code, 1, none, 4, 0, 2, 61, 0, 0),
  (⟨"SaidMine", "stone", "(I)I"⟩, prog_1_method_9_code, 2, some .int, 4, 1, 3, 81, 0, 0),
  (⟨"SaidMine", "pay", "(I)I"⟩, prog_1_method_10_code, 2, some .int, 4, 1, 4, 91, 0, 0),
  (⟨"SaidMine", "blow", "()I"⟩, prog_1_method_11_code, 1, some .int, 4, 0, 5, 116, 0, 0),
  (⟨"SaidMine", "dawn", "()I"⟩, prog_1_method_12_code, 2, some .int, 4, 0, 3, 81, 0, 0),
  (⟨"SaidMine", "undo", "()I"⟩, prog_1_method_13_code, 1, some .int, 4, 0, 2, 61, 0, 0),
  (⟨"SaidMine", "judge", "(IJ)I"⟩, prog_1_method_14_code, 6, some .int, 4, 2, 6, 140, 0, 0),
  (⟨"SaidMine", "upperFigures", "(JI)J"⟩, prog_1_method_36_code, 6, some .long, 4, 2, 0, 0, 0, 0),
  (⟨"SaidMine", "passes", "(LSaidMine$Shore;II)Z"⟩, prog_1_method_37_code, 5, some .boolean, 4, 3, 5, 116, 0, 0),
  (⟨"SaidMine", "toKeep", "(I)I"⟩, prog_1_method_15_code, 2, some .int, 4, 1, 7, 193, 0, 0),
  (⟨"SaidMine", "isSetOfThings", "(I)Z"⟩, prog_1_method_38_code, 2, some .boolean, 4, 1, 1, 20, 0, 0),
  (⟨"SaidMine", "by", "(II)I"⟩, prog_1_method_16_code, 3, some .int, 4, 2, 7, 194, 0, 0),
  (⟨"SaidMine", "most", "()I"⟩, prog_1_method_17_code, 1, some .int, 4, 0, 5, 142, 0, 0)]
def ab_ms_2 : List ab_MT := [(⟨"SaidMine", "share", "(IZ)I"⟩, prog_1_method_18_code, 6, some .int, 4, 2, 5, 142, 0, 0),
  (⟨"SaidMine", "ordersWith", "(I)I"⟩, prog_1_method_40_code, 3, some .int, 4, 1, 0, 0, 0, 0),
  (⟨"SaidMine", "fraction", "(IIZ)I"⟩, prog_1_method_49_code, 7, some .int, 4, 3, 0, 0, 0, 0),
  (⟨"SaidMine", "rests", "(III)I"⟩, prog_1_method_19_code, 7, some .int, 4, 3, 5, 121, 0, 0),
  (⟨"SaidMine", "isAtRest", "(IIIII)Z"⟩, prog_1_method_41_code, 10, some .boolean, 4, 5, 4, 92, 0, 0),
  (⟨"SaidMine", "worthKept", "(IIII)I"⟩, prog_1_method_42_code, 5, some .int, 4, 4, 3, 68, 0, 0),
  (⟨"SaidMine", "behind", "(II)I"⟩, prog_1_method_20_code, 3, some .int, 4, 2, 4, 92, 0, 0),
  (⟨"SaidMine", "isNumberOfBlows", "(I)Z"⟩, prog_1_method_39_code, 1, some .boolean, 4, 1, 0, 0, 0, 0),
  (⟨"SaidMine", "quay", "(I)I"⟩, prog_1_method_21_code, 2, some .int, 4, 1, 5, 116, 0, 0),
  (⟨"SaidMine", "learn", "(IZZ)I"⟩, prog_1_method_22_code, 4, some .int, 4, 3, 0, 0, 0, 0),
  (⟨"SaidMine", "unlearn", "()I"⟩, prog_1_method_23_code, 2, some .int, 4, 0, 0, 0, 0, 0),
  (⟨"SaidMine", "laws", "()I"⟩, prog_1_method_24_code, 3, some .int, 4, 0, 2, 45, 0, 0),
  (⟨"SaidMine", "agreesWithLessons", "(I)Z"⟩, prog_1_method_43_code, 4, some .boolean, 4, 1, 1, 22, 0, 0),
  (⟨"SaidMine", "next", "()I"⟩, prog_1_method_25_code, 7, some .int, 4, 0, 3, 67, 0, 0),
  (⟨"SaidMine", "greaterPart", "(IIZ)I"⟩, prog_1_method_44_code, 5, some .int, 4, 3, 1, 40, 0, 0),
  (⟨"SaidMine", "see", "(IZ)I"⟩, prog_1_method_26_code, 3, some .int, 4, 2, 1, 21, 0, 0),
  (⟨"SaidMine", "unsee", "()I"⟩, prog_1_method_27_code, 2, some .int, 4, 0, 0, 0, 0, 0),
  (⟨"SaidMine", "heard", "(III)I"⟩, prog_1_method_28_code, 10, some .int, 4, 3, 6, 141, 0, 0),
  (⟨"SaidMine", "isAsSeen", "(LSaidMine$Shore;I)Z"⟩, prog_1_method_45_code, 6, some .boolean, 4, 2, 5, 116, 0, 0),
  (⟨"SaidMine", "forgotten", "(IIZ)I"⟩, prog_1_method_29_code, 10, some .int, 4, 3, 2, 45, 0, 0),
  (⟨"SaidMine", "power", "(II)I"⟩, prog_1_method_48_code, 4, some .int, 4, 2, 0, 0, 0, 0),
  (⟨"SaidMine", "seed", "(J)J"⟩, prog_1_method_30_code, 5, some .long, 4, 1, 0, 0, 0, 0),
  (⟨"SaidMine", "winds", "(I)I"⟩, prog_1_method_31_code, 4, some .int, 4, 1, 5, 116, 0, 0),
  (⟨"SaidMine", "keep", "(I)I"⟩, prog_1_method_32_code, 2, some .int, 4, 1, 2, 61, 0, 0),
  (⟨"SaidMine", "again", "(I)I"⟩, prog_1_method_33_code, 2, some .int, 4, 1, 2, 61, 0, 0),
  (⟨"SaidMine", "count", "(I)I"⟩, prog_1_method_34_code, 2, some .int, 4, 1, 5, 116, 0, 0),
  (⟨"SaidMineModel", "<init>", "()V"⟩, prog_7_method_1_code, 1, none, 5, 0, 1, 20, 24, 4803),
  (⟨"SaidMineModel", "write", "(I)I"⟩, prog_7_method_6_code, 2, some .int, 5, 1, 1, 25, 0, 0),
  (⟨"SaidMineModel", "in", "(JJJ)Z"⟩, prog_7_method_3_code, 6, some .boolean, 5, 3, 0, 0, 0, 0),
  (⟨"SaidMineModel", "wipe", "()I"⟩, prog_7_method_7_code, 2, some .int, 5, 0, 0, 0, 0, 0),
  (⟨"SaidMineModel", "fault", "()I"⟩, prog_7_method_14_code, 1, some .int, 5, 0, 4, 91, 0, 0),
  (⟨"SaidMineModel", "readText", "()I"⟩, prog_7_method_12_code, 1, some .int, 5, 0, 3, 71, 0, 0),
  (⟨"SaidMineModel", "figure", "(II)I"⟩, prog_7_method_8_code, 4, some .int, 5, 2, 1, 25, 0, 0),
  (⟨"SaidMineModel", "readPart", "(I)V"⟩, prog_7_method_13_code, 4, none, 5, 1, 2, 48, 0, 0),
  (⟨"SaidMineModel", "begins", "()I"⟩, prog_7_method_11_code, 3, some .int, 5, 0, 1, 24, 0, 0),
  (⟨"SaidMineModel", "mayLie", "(I)I"⟩, prog_7_method_10_code, 5, some .int, 5, 1, 0, 0, 0, 0),
  (⟨"SaidMineModel", "figureOf", "(I)I"⟩, prog_7_method_9_code, 3, some .int, 5, 1, 1, 25, 0, 0),
  (⟨"SaidMineModel", "has", "(II)Z"⟩, prog_7_method_4_code, 2, some .boolean, 5, 2, 0, 0, 0, 0),
  (⟨"SaidMineModel", "coast", "()I"⟩, prog_7_method_15_code, 2, some .int, 5, 0, 4, 91, 0, 0),
  (⟨"SaidMineModel", "house", "(II)I"⟩, prog_7_method_28_code, 3, some .int, 5, 2, 3, 70, 0, 0)]
def ab_ms_3 : List ab_MT := [(⟨"SaidMineModel", "isHouse", "(I)Z"⟩, prog_7_method_16_code, 2, some .boolean, 5, 1, 1, 25, 0, 0),
  (⟨"SaidMineModel", "leftOf", "(I)I"⟩, prog_7_method_21_code, 2, some .int, 5, 1, 1, 22, 0, 0),
  (⟨"SaidMineModel", "ones", "(I)I"⟩, prog_7_method_5_code, 3, some .int, 5, 1, 0, 0, 0, 0),
  (⟨"SaidMineModel", "nearOf", "(I)I"⟩, prog_7_method_20_code, 4, some .int, 5, 1, 2, 47, 0, 0),
  (⟨"SaidMineModel", "isNear", "(II)Z"⟩, prog_7_method_19_code, 3, some .boolean, 5, 2, 1, 25, 0, 0),
  (⟨"SaidMineModel", "thing", "(II)I"⟩, prog_7_method_29_code, 3, some .int, 5, 2, 4, 90, 0, 0),
  (⟨"SaidMineModel", "isThing", "(I)Z"⟩, prog_7_method_17_code, 2, some .boolean, 5, 1, 1, 25, 0, 0),
  (⟨"SaidMineModel", "counted", "(II)I"⟩, prog_7_method_25_code, 3, some .int, 5, 2, 2, 45, 0, 0),
  (⟨"SaidMineModel", "saidTo", "(II)I"⟩, prog_7_method_24_code, 5, some .int, 5, 2, 1, 21, 0, 0),
  (⟨"SaidMineModel", "stays", "(II)Z"⟩, prog_7_method_26_code, 4, some .boolean, 5, 2, 3, 67, 0, 0),
  (⟨"SaidMineModel", "outermost", "(I)I"⟩, prog_7_method_18_code, 3, some .int, 5, 1, 0, 0, 0, 0),
  (⟨"SaidMineModel", "isHeld", "(II)Z"⟩, prog_7_method_23_code, 3, some .boolean, 5, 2, 1, 22, 0, 0),
  (⟨"SaidMineModel", "lawful", "(IIZ)Z"⟩, prog_7_method_22_code, 3, some .boolean, 5, 3, 0, 0, 0, 0),
  (⟨"SaidMineModel", "say", "(II)I"⟩, prog_7_method_32_code, 3, some .int, 5, 2, 4, 90, 0, 0),
  (⟨"SaidMineModel", "keepAct", "()V"⟩, prog_7_method_30_code, 2, none, 5, 0, 0, 0, 0, 0),
  (⟨"SaidMineModel", "stone", "(I)I"⟩, prog_7_method_33_code, 2, some .int, 5, 1, 2, 46, 0, 0),
  (⟨"SaidMineModel", "pay", "(I)I"⟩, prog_7_method_34_code, 2, some .int, 5, 1, 5, 113, 0, 0),
  (⟨"SaidMineModel", "staying", "(I)I"⟩, prog_7_method_27_code, 4, some .int, 5, 1, 4, 90, 0, 0),
  (⟨"SaidMineModel", "blow", "()I"⟩, prog_7_method_35_code, 1, some .int, 5, 0, 6, 139, 0, 0),
  (⟨"SaidMineModel", "pass", "(I)I"⟩, prog_7_method_31_code, 7, some .int, 5, 1, 5, 113, 0, 0),
  (⟨"SaidMineModel", "dawn", "()I"⟩, prog_7_method_37_code, 3, some .int, 5, 0, 2, 44, 0, 0),
  (⟨"SaidMineModel", "allSaid", "()I"⟩, prog_7_method_36_code, 3, some .int, 5, 0, 1, 22, 0, 0),
  (⟨"SaidMineModel", "undo", "()I"⟩, prog_7_method_38_code, 2, some .int, 5, 0, 0, 0, 0, 0),
  (⟨"SaidMineModel", "judge", "(IJ)I"⟩, prog_7_method_43_code, 8, some .int, 5, 2, 6, 139, 0, 0),
  (⟨"SaidMineModel", "tenTo", "(I)J"⟩, prog_7_method_41_code, 4, some .long, 5, 1, 0, 0, 0, 0),
  (⟨"SaidMineModel", "layTrial", "()V"⟩, prog_7_method_39_code, 2, none, 5, 0, 0, 0, 0, 0),
  (⟨"SaidMineModel", "atLast", "(I)I"⟩, prog_7_method_40_code, 4, some .int, 5, 1, 0, 0, 0, 0),
  (⟨"SaidMineModel", "trySay", "(II)Z"⟩, prog_7_method_42_code, 4, some .boolean, 5, 2, 2, 46, 0, 0),
  (⟨"SaidMineModel", "toKeep", "(I)I"⟩, prog_7_method_56_code, 3, some .int, 5, 1, 6, 149, 0, 0),
  (⟨"SaidMineModel", "begin", "(ZIIZ)V"⟩, prog_7_method_55_code, 5, none, 5, 4, 5, 125, 0, 0),
  (⟨"SaidMineModel", "outermostOf", "(I)I"⟩, prog_7_method_54_code, 4, some .int, 5, 1, 1, 22, 0, 0),
  (⟨"SaidMineModel", "layBest", "()V"⟩, prog_7_method_52_code, 7, none, 5, 0, 4, 99, 0, 0),
  (⟨"SaidMineModel", "leftNow", "()I"⟩, prog_7_method_46_code, 4, some .int, 5, 0, 2, 43, 0, 0),
  (⟨"SaidMineModel", "isWithin", "(II)Z"⟩, prog_7_method_53_code, 4, some .boolean, 5, 2, 1, 21, 0, 0),
  (⟨"SaidMineModel", "breathOf", "(II)I"⟩, prog_7_method_44_code, 2, some .int, 5, 2, 0, 0, 0, 0),
  (⟨"SaidMineModel", "choice", "(III)I"⟩, prog_7_method_50_code, 7, some .int, 5, 3, 3, 73, 0, 0),
  (⟨"SaidMineModel", "maySay", "(III)Z"⟩, prog_7_method_47_code, 7, some .boolean, 5, 3, 2, 47, 0, 0),
  (⟨"SaidMineModel", "staysWith", "(II)Z"⟩, prog_7_method_48_code, 4, some .boolean, 5, 2, 2, 45, 0, 0),
  (⟨"SaidMineModel", "lessBy", "(I)I"⟩, prog_7_method_45_code, 1, some .int, 5, 1, 0, 0, 0, 0),
  (⟨"SaidMineModel", "worthIn", "(I)I"⟩, prog_7_method_49_code, 4, some .int, 5, 1, 1, 22, 0, 0)]
def ab_ms_4 : List ab_MT := [(⟨"SaidMineModel", "isBetter", "(II)Z"⟩, prog_7_method_51_code, 3, some .boolean, 5, 2, 0, 0, 0, 0),
  (⟨"SaidMineModel", "by", "(II)I"⟩, prog_7_method_57_code, 6, some .int, 5, 2, 6, 149, 0, 0),
  (⟨"SaidMineModel", "most", "()I"⟩, prog_7_method_59_code, 1, some .int, 5, 0, 7, 171, 0, 0),
  (⟨"SaidMineModel", "mostBy", "(IZ)I"⟩, prog_7_method_58_code, 3, some .int, 5, 2, 6, 149, 0, 0),
  (⟨"SaidMineModel", "share", "(IZ)I"⟩, prog_7_method_62_code, 6, some .int, 5, 2, 7, 171, 0, 0),
  (⟨"SaidMineModel", "factorial", "(I)I"⟩, prog_7_method_60_code, 3, some .int, 5, 1, 0, 0, 0, 0),
  (⟨"SaidMineModel", "common", "(II)I"⟩, prog_7_method_61_code, 5, some .int, 5, 2, 0, 0, 0, 0),
  (⟨"SaidMineModel", "rests", "(III)I"⟩, prog_7_method_64_code, 8, some .int, 5, 3, 3, 73, 0, 0),
  (⟨"SaidMineModel", "gain", "(IIIIZ)I"⟩, prog_7_method_63_code, 9, some .int, 5, 5, 2, 45, 0, 0),
  (⟨"SaidMineModel", "behind", "(II)I"⟩, prog_7_method_66_code, 3, some .int, 5, 2, 7, 161, 0, 0),
  (⟨"SaidMineModel", "passes", "(I)V"⟩, prog_7_method_65_code, 3, none, 5, 1, 6, 139, 0, 0),
  (⟨"SaidMineModel", "quay", "(I)I"⟩, prog_7_method_68_code, 2, some .int, 5, 1, 7, 161, 0, 0),
  (⟨"SaidMineModel", "quayOf", "()I"⟩, prog_7_method_67_code, 3, some .int, 5, 0, 0, 0, 0, 0),
  (⟨"SaidMineModel", "learn", "(IZZ)I"⟩, prog_7_method_69_code, 4, some .int, 5, 3, 1, 25, 0, 0),
  (⟨"SaidMineModel", "unlearn", "()I"⟩, prog_7_method_70_code, 2, some .int, 5, 0, 0, 0, 0, 0),
  (⟨"SaidMineModel", "laws", "()I"⟩, prog_7_method_72_code, 5, some .int, 5, 0, 2, 43, 0, 0),
  (⟨"SaidMineModel", "byLaw", "(II)Z"⟩, prog_7_method_71_code, 2, some .boolean, 5, 2, 1, 22, 0, 0),
  (⟨"SaidMineModel", "next", "()I"⟩, prog_7_method_73_code, 8, some .int, 5, 0, 3, 67, 0, 0),
  (⟨"SaidMineModel", "see", "(IZ)I"⟩, prog_7_method_74_code, 3, some .int, 5, 2, 2, 46, 0, 0),
  (⟨"SaidMineModel", "unsee", "()I"⟩, prog_7_method_75_code, 2, some .int, 5, 0, 0, 0, 0, 0),
  (⟨"SaidMineModel", "heard", "(III)I"⟩, prog_7_method_77_code, 8, some .int, 5, 3, 7, 164, 0, 0),
  (⟨"SaidMineModel", "isSeen", "(III)Z"⟩, prog_7_method_76_code, 6, some .boolean, 5, 3, 6, 139, 0, 0),
  (⟨"SaidMineModel", "forgotten", "(IIZ)I"⟩, prog_7_method_78_code, 11, some .int, 5, 3, 3, 67, 0, 0),
  (⟨"SaidMineModel", "seed", "(J)J"⟩, prog_7_method_79_code, 5, some .long, 5, 1, 0, 0, 0, 0),
  (⟨"SaidMineModel", "winds", "(I)I"⟩, prog_7_method_80_code, 4, some .int, 5, 1, 6, 139, 0, 0),
  (⟨"SaidMineModel", "keep", "(I)I"⟩, prog_7_method_81_code, 3, some .int, 5, 1, 1, 25, 0, 0),
  (⟨"SaidMineModel", "again", "(I)I"⟩, prog_7_method_82_code, 3, some .int, 5, 1, 1, 25, 0, 0),
  (⟨"SaidMineModel", "count", "(I)I"⟩, prog_7_method_83_code, 2, some .int, 5, 1, 5, 113, 0, 0),
  (⟨"java/lang/Integer", "bitCount", "(I)I"⟩, prog_8_method_49_code, 1, some .int, 6, 1, 0, 0, 0, 0),
  (⟨"java/lang/Math", "min", "(II)I"⟩, prog_9_method_69_code, 2, some .int, 7, 2, 0, 0, 0, 0),
  (⟨"java/lang/Math", "max", "(II)I"⟩, prog_9_method_65_code, 2, some .int, 7, 2, 0, 0, 0, 0),
  (⟨"java/lang/Math", "abs", "(I)I"⟩, prog_9_method_59_code, 1, some .int, 7, 1, 0, 0, 0, 0),
  (⟨"SaidMineLaw", "law", "([I)Z"⟩, code, 4, some .boolean, 8, 1, 8, 216, 112, 6626)]
def ab_ms : List ab_MT := ab_ms_0 ++ (ab_ms_1 ++ (ab_ms_2 ++ (ab_ms_3 ++ (ab_ms_4))))
def ab_site : List (Nat × Nat × Nat × Nat) := [(0, 3, 6, 0), (0, 46, 0, 4), (0, 55, 4, 61), (0, 62, 0, 6), (0, 68, 1, 188), (0, 74, 4, 65), (0, 78, 0, 13), (0, 84, 0, 11), (0, 88, 0, 14), (0, 92, 0, 12), (0, 99, 10, 191), (0, 104, 0, 10), (0, 108, 8, 190), (0, 111, 0, 8), (0, 114, 9, 189), (0, 117, 0, 18), (0, 124, 0, 3), (1, 3, 6, 0), (1, 24, 0, 24), (1, 28, 0, 25), (1, 38, 4, 61), (1, 42, 0, 11), (1, 46, 0, 30), (1, 50, 0, 5), (1, 54, 0, 26), (1, 57, 0, 34), (1, 61, 0, 20), (1, 64, 0, 28), (1, 68, 0, 36), (1, 71, 0, 37), (1, 78, 0, 32), (1, 82, 8, 190), (1, 87, 0, 27), (1, 91, 0, 31), (1, 94, 0, 29), (1, 97, 1, 188), (1, 103, 0, 14), (1, 112, 0, 10), (1, 124, 0, 12), (1, 128, 0, 13), (1, 134, 0, 8), (1, 137, 9, 189), (2, 3, 6, 0), (2, 15, 0, 1), (2, 24, 9, 189), (2, 30, 0, 41), (2, 37, 0, 42), (2, 41, 0, 43), (2, 44, 0, 44), (2, 47, 0, 46), (2, 50, 0, 47), (2, 54, 0, 49), (2, 57, 0, 50), (2, 60, 0, 51), (2, 69, 0, 2), (2, 75, 0, 5), (2, 85, 0, 45), (2, 104, 0, 6), (2, 107, 0, 48), (2, 119, 0, 7), (2, 122, 0, 3), (2, 126, 4, 61), (3, 3, 6, 0), (3, 23, 7, 0), (3, 29, 0, 54), (3, 45, 1, 188), (4, 1, 6, 0), (4, 15, 5, 39), (4, 22, 5, 0), (4, 32, 5, 52), (4, 49, 2, 22), (4, 64, 0, 40), (4, 68, 0, 53), (4, 84, 0, 6), (4, 91, 0, 8), (4, 101, 1, 61), (4, 105, 0, 9), (4, 108, 0, 4), (4, 126, 0, 11), (4, 132, 0, 12), (4, 136, 0, 15), (4, 140, 0, 67), (4, 143, 0, 16), (4, 147, 0, 17), (4, 150, 0, 56), (4, 154, 0, 54), (4, 160, 0, 55), (4, 164, 1, 74), (4, 170, 0, 75), (4, 174, 0, 77), (4, 177, 0, 23), (4, 181, 0, 33), (4, 185, 0, 35), (4, 189, 0, 21), (4, 193, 0, 5), (4, 196, 0, 38), (4, 199, 1, 188), (4, 204, 0, 81), (4, 210, 1, 82), (4, 214, 0, 84), (4, 218, 1, 87), (4, 221, 0, 18), (4, 224, 0, 19), (4, 230, 0, 92), (4, 233, 0, 91), (4, 236, 9, 189), (4, 241, 1, 94), (4, 247, 0, 20), (4, 253, 0, 98), (4, 256, 0, 13), (4, 259, 1, 100), (4, 262, 0, 14), (4, 285, 0, 85), (4, 289, 1, 65), (4, 293, 8, 190), (5, 1, 6, 0), (5, 89, 1, 108), (5, 104, 1, 117), (5, 111, 0, 115), (5, 121, 0, 112), (5, 131, 0, 113), (5, 135, 0, 114), (5, 139, 0, 116), (5, 142, 0, 111), (5, 159, 0, 124), (5, 162, 1, 122), (5, 165, 1, 132), (5, 169, 0, 128), (5, 172, 0, 130), (5, 175, 0, 127), (5, 178, 0, 131), (5, 181, 0, 129), (5, 184, 0, 120), (5, 188, 0, 121), (5, 191, 0, 123), (5, 194, 0, 126), (5, 200, 0, 137), (5, 203, 0, 134), (5, 206, 0, 139), (5, 209, 0, 141), (5, 216, 1, 144), (5, 220, 0, 145), (5, 225, 0, 146), (5, 228, 0, 147), (5, 238, 1, 154), (5, 241, 0, 156), (5, 245, 0, 157), (5, 248, 1, 158), (5, 257, 0, 159), (5, 260, 0, 152), (5, 263, 1, 153), (5, 266, 0, 155), (5, 270, 0, 160), (5, 273, 0, 150), (5, 276, 0, 151), (5, 279, 0, 149), (5, 283, 0, 163), (5, 287, 1, 165), (5, 290, 1, 166), (5, 293, 0, 168), (5, 297, 0, 170), (5, 300, 0, 172), (5, 308, 1, 176), (5, 311, 0, 175), (5, 319, 0, 181), (8, 9, 2, 57), (8, 12, 2, 106), (8, 13, 0, 58), (8, 17, 0, 107), (8, 18, 0, 59), (8, 22, 0, 109), (8, 23, 0, 60), (8, 26, 0, 110), (8, 27, 0, 62), (8, 30, 0, 118), (8, 31, 0, 63), (8, 35, 0, 119), (8, 36, 0, 64), (8, 39, 0, 125), (8, 40, 0, 66), (8, 43, 0, 133), (8, 44, 0, 68), (8, 47, 0, 135), (8, 48, 0, 69), (8, 51, 0, 136), (8, 52, 0, 70), (8, 55, 0, 138), (8, 56, 0, 71), (8, 59, 0, 140), (8, 60, 0, 72), (8, 63, 0, 142), (8, 66, 0, 73), (8, 70, 0, 143), (8, 71, 0, 76), (8, 74, 0, 148), (8, 75, 0, 78), (8, 78, 0, 161), (8, 79, 0, 79), (8, 82, 0, 162), (8, 83, 0, 80), (8, 87, 0, 164), (8, 88, 0, 83), (8, 92, 0, 167), (8, 93, 0, 86), (8, 96, 0, 169), (8, 97, 0, 88), (8, 100, 0, 171), (8, 101, 0, 89), (8, 105, 0, 173), (8, 106, 0, 90), (8, 109, 0, 174), (8, 110, 0, 91), (8, 113, 0, 175), (8, 114, 0, 93), (8, 117, 0, 177), (8, 118, 0, 95), (8, 121, 0, 178), (8, 122, 0, 96), (8, 125, 0, 179), (8, 126, 0, 97), (8, 129, 0, 180), (8, 130, 0, 99), (8, 134, 0, 182), (8, 135, 0, 101), (8, 139, 0, 183), (8, 140, 0, 102), (8, 143, 0, 184), (8, 144, 0, 103), (8, 147, 0, 185), (8, 148, 0, 104), (8, 151, 0, 186), (8, 152, 0, 105), (8, 155, 0, 187)]
def ab_fld : List (Nat × Nat × Nat × Nat) := [(0, 9, 0, 0), (0, 15, 0, 1), (0, 18, 0, 2), (0, 21, 0, 3), (0, 24, 0, 4), (0, 27, 0, 5), (0, 30, 0, 6), (0, 33, 0, 10), (0, 37, 0, 7), (0, 40, 0, 8), (0, 43, 0, 11), (0, 50, 3, 1), (0, 59, 3, 3), (0, 65, 0, 9), (0, 81, 3, 2), (0, 96, 3, 0), (0, 121, 3, 4), (1, 11, 1, 0), (1, 15, 1, 1), (1, 21, 1, 2), (1, 32, 0, 8), (1, 75, 1, 3), (1, 106, 0, 9), (1, 109, 0, 7), (1, 116, 3, 1), (1, 121, 3, 3), (1, 131, 0, 4), (2, 9, 2, 0), (2, 20, 2, 1), (2, 34, 2, 2), (2, 63, 0, 7), (2, 66, 0, 8), (2, 72, 0, 11), (2, 79, 0, 9), (2, 82, 0, 10), (2, 88, 0, 0), (2, 92, 0, 1), (2, 95, 0, 2), (2, 98, 0, 3), (2, 101, 0, 4), (2, 110, 0, 5), (2, 113, 0, 6), (2, 116, 2, 3), (3, 9, 3, 0), (3, 15, 3, 1), (3, 18, 0, 2), (3, 32, 3, 2), (3, 36, 0, 11), (3, 39, 3, 3), (3, 42, 3, 4), (4, 9, 4, 0), (4, 16, 4, 2), (4, 23, 4, 3), (4, 27, 4, 4), (4, 33, 4, 5), (4, 37, 4, 6), (4, 40, 4, 7), (4, 44, 4, 10), (4, 50, 4, 12), (4, 54, 4, 13), (4, 57, 4, 15), (4, 60, 4, 1), (4, 72, 4, 9), (4, 75, 4, 11), (4, 78, 0, 7), (4, 81, 0, 8), (4, 88, 0, 0), (4, 95, 3, 1), (4, 98, 3, 3), (4, 111, 3, 0), (4, 114, 0, 3), (4, 117, 0, 4), (4, 120, 0, 5), (4, 123, 0, 6), (4, 129, 3, 2), (4, 157, 4, 8), (4, 227, 4, 14), (4, 244, 4, 16), (4, 250, 0, 1), (4, 266, 4, 17), (4, 276, 3, 4), (4, 279, 0, 9), (4, 282, 0, 10), (5, 7, 5, 4), (5, 13, 5, 5), (5, 16, 5, 6), (5, 19, 5, 7), (5, 22, 5, 8), (5, 25, 5, 9), (5, 28, 5, 10), (5, 31, 5, 16), (5, 34, 5, 17), (5, 37, 5, 18), (5, 40, 5, 19), (5, 43, 5, 20), (5, 46, 5, 21), (5, 49, 5, 22), (5, 52, 5, 23), (5, 55, 5, 29), (5, 58, 5, 30), (5, 61, 5, 35), (5, 64, 5, 37), (5, 67, 5, 38), (5, 71, 5, 40), (5, 74, 5, 41), (5, 77, 5, 43), (5, 80, 5, 44), (5, 83, 5, 1), (5, 93, 5, 24), (5, 96, 5, 26), (5, 99, 5, 25), (5, 108, 5, 14), (5, 115, 5, 13), (5, 118, 5, 15), (5, 125, 5, 11), (5, 128, 5, 12), (5, 145, 5, 0), (5, 148, 5, 2), (5, 151, 5, 3), (5, 154, 5, 27), (5, 197, 5, 28), (5, 231, 5, 33), (5, 234, 5, 34), (5, 251, 5, 32), (5, 254, 5, 31), (5, 305, 5, 36), (5, 314, 5, 39), (5, 322, 5, 42)]
def ab_stat : List (Nat × Nat × Nat) := [(1, 18, 1001), (4, 207, 1002)]
def ab_lits : List (Nat × Nat × Int32) := [(6, 265, 1431655765), (6, 266, 858993459), (6, 267, 252645135)]
def ab_litl : List (Nat × Nat × Int64) := [(4, 168, 100), (4, 270, 6364136223846793005), (4, 272, 1442695040888963407), (4, 274, 8), (5, 87, 255), (5, 102, 9), (5, 157, -1), (5, 214, 5), (5, 212, 10), (5, 223, 100), (5, 303, 4), (5, 317, 2), (5, 326, 20), (5, 328, 6364136223846793005), (5, 330, 1442695040888963407), (5, 332, 8), (8, 64, 4294967295)]
def ab_news : List (Nat × Nat × Nat) := [(8, 7, 4), (4, 13, 2), (4, 20, 0), (4, 30, 3), (4, 47, 1), (8, 10, 5)]
/-- what a field holds: 0 an int, 1 a reference, 2 a long, 3 a boolean -/
def ab_fks : List (List Nat) := [[1, 1, 1, 1, 1, 1, 1, 0, 0, 0, 0, 0], [1, 1, 1, 0], [1, 0, 0, 0], [1, 1, 0, 0, 0], [1, 0, 1, 1, 1, 1, 1, 1, 0, 0, 1, 0, 1, 1, 0, 1, 0, 2], [0, 0, 0, 0, 1, 1, 1, 1, 1, 1, 1, 0, 0, 0, 0, 0, 1, 1, 1, 1, 1, 1, 1, 1, 0, 0, 0, 0, 0, 1, 1, 0, 3, 0, 3, 1, 0, 1, 1, 0, 1, 1, 2, 1, 1]]
def ab_ffs : List (List Bool) := [[true, true, true, true, true, true, true, false, false, false, false, false], [true, true, true, false], [false, false, false, false], [true, true, false, false, false], [true, false, true, false, false, true, true, true, false, false, true, false, true, true, false, true, false, false], [false, false, false, false, true, true, true, true, true, true, true, false, false, false, false, false, true, true, true, true, true, true, true, true, false, false, false, false, false, true, true, false, false, false, false, true, false, true, true, false, true, true, false, true, true]]
