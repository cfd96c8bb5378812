section
-- ===== PART A: goes FIRST, ahead of the names: the tables' words, and 'selects' of the private methods out of them =====
/-- a private method of a class that the tables say can be made, by its rows of tables_1 -/
def lw_okq (q : MethodName × Nat) : Prop := (q.1.cls ≠ "java/lang/invoke/MethodHandle" ∧ q.1.cls ≠ "java/lang/invoke/VarHandle") ∧ Cond.instantiable q.1.cls q.2 ∈ tables_1 ∧ Cond.privateMethod q.1 ∈ tables_1 ∧ Cond.instanceMethod q.1 ∈ tables_1
theorem lw_p0 : lw_okq (⟨"Submodulary", "endOfPath", "(I)I"⟩, 12) := ⟨⟨by decide +kernel, by decide +kernel⟩, List.mem_of_getElem? (i := 13) (by decide +kernel), List.mem_of_getElem? (i := 66) (by decide +kernel), List.mem_of_getElem? (i := 67) (by decide +kernel)⟩
theorem lw_p1 : lw_okq (⟨"Submodulary", "reachFirst", "(I)I"⟩, 12) := ⟨⟨by decide +kernel, by decide +kernel⟩, List.mem_of_getElem? (i := 13) (by decide +kernel), List.mem_of_getElem? (i := 70) (by decide +kernel), List.mem_of_getElem? (i := 71) (by decide +kernel)⟩
theorem lw_p2 : lw_okq (⟨"Submodulary", "hasRoom", "(III)Z"⟩, 12) := ⟨⟨by decide +kernel, by decide +kernel⟩, List.mem_of_getElem? (i := 13) (by decide +kernel), List.mem_of_getElem? (i := 74) (by decide +kernel), List.mem_of_getElem? (i := 75) (by decide +kernel)⟩
theorem lw_p3 : lw_okq (⟨"Submodulary", "colourOf", "(II)I"⟩, 12) := ⟨⟨by decide +kernel, by decide +kernel⟩, List.mem_of_getElem? (i := 13) (by decide +kernel), List.mem_of_getElem? (i := 78) (by decide +kernel), List.mem_of_getElem? (i := 79) (by decide +kernel)⟩
theorem lw_p4 : lw_okq (⟨"Submodulary", "countOf", "(III)I"⟩, 12) := ⟨⟨by decide +kernel, by decide +kernel⟩, List.mem_of_getElem? (i := 13) (by decide +kernel), List.mem_of_getElem? (i := 88) (by decide +kernel), List.mem_of_getElem? (i := 89) (by decide +kernel)⟩
theorem lw_p5 : lw_okq (⟨"Submodulary", "roomOf", "(II)I"⟩, 12) := ⟨⟨by decide +kernel, by decide +kernel⟩, List.mem_of_getElem? (i := 13) (by decide +kernel), List.mem_of_getElem? (i := 92) (by decide +kernel), List.mem_of_getElem? (i := 93) (by decide +kernel)⟩
theorem lw_p6 : lw_okq (⟨"Submodulary", "reachFrom", "(III)I"⟩, 12) := ⟨⟨by decide +kernel, by decide +kernel⟩, List.mem_of_getElem? (i := 13) (by decide +kernel), List.mem_of_getElem? (i := 99) (by decide +kernel), List.mem_of_getElem? (i := 100) (by decide +kernel)⟩
theorem lw_p7 : lw_okq (⟨"Submodulary", "isStep", "(III)Z"⟩, 12) := ⟨⟨by decide +kernel, by decide +kernel⟩, List.mem_of_getElem? (i := 13) (by decide +kernel), List.mem_of_getElem? (i := 103) (by decide +kernel), List.mem_of_getElem? (i := 104) (by decide +kernel)⟩
theorem lw_p8 : lw_okq (⟨"Submodulary", "flippedAlong", "(II)I"⟩, 12) := ⟨⟨by decide +kernel, by decide +kernel⟩, List.mem_of_getElem? (i := 13) (by decide +kernel), List.mem_of_getElem? (i := 113) (by decide +kernel), List.mem_of_getElem? (i := 114) (by decide +kernel)⟩
theorem lw_p9 : lw_okq (⟨"Submodulary", "sets", "()I"⟩, 12) := ⟨⟨by decide +kernel, by decide +kernel⟩, List.mem_of_getElem? (i := 13) (by decide +kernel), List.mem_of_getElem? (i := 121) (by decide +kernel), List.mem_of_getElem? (i := 122) (by decide +kernel)⟩
theorem lw_p10 : lw_okq (⟨"Submodulary", "isFair", "(II)Z"⟩, 12) := ⟨⟨by decide +kernel, by decide +kernel⟩, List.mem_of_getElem? (i := 13) (by decide +kernel), List.mem_of_getElem? (i := 125) (by decide +kernel), List.mem_of_getElem? (i := 126) (by decide +kernel)⟩
theorem lw_p11 : lw_okq (⟨"java/lang/Throwable", "fillInStackTrace", "(I)Ljava/lang/Throwable;"⟩, 6) := ⟨⟨by decide +kernel, by decide +kernel⟩, List.mem_of_getElem? (i := 184) (by decide +kernel), List.mem_of_getElem? (i := 182) (by decide +kernel), List.mem_of_getElem? (i := 183) (by decide +kernel)⟩
theorem lw_p12 : lw_okq (⟨"Submodulary", "isElement", "(I)Z"⟩, 12) := ⟨⟨by decide +kernel, by decide +kernel⟩, List.mem_of_getElem? (i := 13) (by decide +kernel), List.mem_of_getElem? (i := 222) (by decide +kernel), List.mem_of_getElem? (i := 223) (by decide +kernel)⟩
theorem lw_p13 : lw_okq (⟨"Submodulary", "edgeWeight", "(II)I"⟩, 12) := ⟨⟨by decide +kernel, by decide +kernel⟩, List.mem_of_getElem? (i := 13) (by decide +kernel), List.mem_of_getElem? (i := 258) (by decide +kernel), List.mem_of_getElem? (i := 259) (by decide +kernel)⟩
theorem lw_p14 : lw_okq (⟨"Submodulary", "needPlace", "()V"⟩, 12) := ⟨⟨by decide +kernel, by decide +kernel⟩, List.mem_of_getElem? (i := 13) (by decide +kernel), List.mem_of_getElem? (i := 297) (by decide +kernel), List.mem_of_getElem? (i := 298) (by decide +kernel)⟩
theorem lw_p15 : lw_okq (⟨"Submodulary", "toldValue", "(II)I"⟩, 12) := ⟨⟨by decide +kernel, by decide +kernel⟩, List.mem_of_getElem? (i := 13) (by decide +kernel), List.mem_of_getElem? (i := 320) (by decide +kernel), List.mem_of_getElem? (i := 321) (by decide +kernel)⟩
def lw_privs_1 : List (MethodName × Nat) := [(⟨"Submodulary", "endOfPath", "(I)I"⟩, 12), (⟨"Submodulary", "reachFirst", "(I)I"⟩, 12), (⟨"Submodulary", "hasRoom", "(III)Z"⟩, 12), (⟨"Submodulary", "colourOf", "(II)I"⟩, 12), (⟨"Submodulary", "countOf", "(III)I"⟩, 12), (⟨"Submodulary", "roomOf", "(II)I"⟩, 12), (⟨"Submodulary", "reachFrom", "(III)I"⟩, 12), (⟨"Submodulary", "isStep", "(III)Z"⟩, 12), (⟨"Submodulary", "flippedAlong", "(II)I"⟩, 12), (⟨"Submodulary", "sets", "()I"⟩, 12), (⟨"Submodulary", "isFair", "(II)Z"⟩, 12), (⟨"java/lang/Throwable", "fillInStackTrace", "(I)Ljava/lang/Throwable;"⟩, 6), (⟨"Submodulary", "isElement", "(I)Z"⟩, 12), (⟨"Submodulary", "edgeWeight", "(II)I"⟩, 12), (⟨"Submodulary", "needPlace", "()V"⟩, 12), (⟨"Submodulary", "toldValue", "(II)I"⟩, 12)]
theorem lw_r1 : ∀ q ∈ lw_privs_1, lw_okq q := List.forall_mem_cons.mpr ⟨lw_p0, List.forall_mem_cons.mpr ⟨lw_p1, List.forall_mem_cons.mpr ⟨lw_p2, List.forall_mem_cons.mpr ⟨lw_p3, List.forall_mem_cons.mpr ⟨lw_p4, List.forall_mem_cons.mpr ⟨lw_p5, List.forall_mem_cons.mpr ⟨lw_p6, List.forall_mem_cons.mpr ⟨lw_p7, List.forall_mem_cons.mpr ⟨lw_p8, List.forall_mem_cons.mpr ⟨lw_p9, List.forall_mem_cons.mpr ⟨lw_p10, List.forall_mem_cons.mpr ⟨lw_p11, List.forall_mem_cons.mpr ⟨lw_p12, List.forall_mem_cons.mpr ⟨lw_p13, List.forall_mem_cons.mpr ⟨lw_p14, List.forall_mem_cons.mpr ⟨lw_p15, fun _ h => absurd h List.not_mem_nil⟩⟩⟩⟩⟩⟩⟩⟩⟩⟩⟩⟩⟩⟩⟩⟩
theorem lw_p16 : lw_okq (⟨"Submodulary", "coverValue", "(I)I"⟩, 12) := ⟨⟨by decide +kernel, by decide +kernel⟩, List.mem_of_getElem? (i := 13) (by decide +kernel), List.mem_of_getElem? (i := 324) (by decide +kernel), List.mem_of_getElem? (i := 325) (by decide +kernel)⟩
theorem lw_p17 : lw_okq (⟨"Submodulary", "cutValue", "(I)I"⟩, 12) := ⟨⟨by decide +kernel, by decide +kernel⟩, List.mem_of_getElem? (i := 13) (by decide +kernel), List.mem_of_getElem? (i := 328) (by decide +kernel), List.mem_of_getElem? (i := 329) (by decide +kernel)⟩
theorem lw_p18 : lw_okq (⟨"Submodulary", "rankValue", "(II)I"⟩, 12) := ⟨⟨by decide +kernel, by decide +kernel⟩, List.mem_of_getElem? (i := 13) (by decide +kernel), List.mem_of_getElem? (i := 332) (by decide +kernel), List.mem_of_getElem? (i := 333) (by decide +kernel)⟩
theorem lw_p19 : lw_okq (⟨"Submodulary", "weightsValue", "(I)I"⟩, 12) := ⟨⟨by decide +kernel, by decide +kernel⟩, List.mem_of_getElem? (i := 13) (by decide +kernel), List.mem_of_getElem? (i := 339) (by decide +kernel), List.mem_of_getElem? (i := 340) (by decide +kernel)⟩
theorem lw_p20 : lw_okq (⟨"Submodulary", "putNew", "(II)V"⟩, 12) := ⟨⟨by decide +kernel, by decide +kernel⟩, List.mem_of_getElem? (i := 13) (by decide +kernel), List.mem_of_getElem? (i := 343) (by decide +kernel), List.mem_of_getElem? (i := 344) (by decide +kernel)⟩
theorem lw_p21 : lw_okq (⟨"Submodulary", "countNew", "()I"⟩, 12) := ⟨⟨by decide +kernel, by decide +kernel⟩, List.mem_of_getElem? (i := 13) (by decide +kernel), List.mem_of_getElem? (i := 347) (by decide +kernel), List.mem_of_getElem? (i := 348) (by decide +kernel)⟩
theorem lw_p22 : lw_okq (⟨"Submodulary", "isFunction", "(I)Z"⟩, 12) := ⟨⟨by decide +kernel, by decide +kernel⟩, List.mem_of_getElem? (i := 13) (by decide +kernel), List.mem_of_getElem? (i := 358) (by decide +kernel), List.mem_of_getElem? (i := 359) (by decide +kernel)⟩
theorem lw_p23 : lw_okq (⟨"Submodulary", "valueOf", "(II)I"⟩, 12) := ⟨⟨by decide +kernel, by decide +kernel⟩, List.mem_of_getElem? (i := 13) (by decide +kernel), List.mem_of_getElem? (i := 362) (by decide +kernel), List.mem_of_getElem? (i := 363) (by decide +kernel)⟩
theorem lw_p24 : lw_okq (⟨"Submodulary", "isSet", "(I)Z"⟩, 12) := ⟨⟨by decide +kernel, by decide +kernel⟩, List.mem_of_getElem? (i := 13) (by decide +kernel), List.mem_of_getElem? (i := 373) (by decide +kernel), List.mem_of_getElem? (i := 374) (by decide +kernel)⟩
theorem lw_p25 : lw_okq (⟨"Submodulary", "hasLaw", "(I)Z"⟩, 12) := ⟨⟨by decide +kernel, by decide +kernel⟩, List.mem_of_getElem? (i := 13) (by decide +kernel), List.mem_of_getElem? (i := 398) (by decide +kernel), List.mem_of_getElem? (i := 399) (by decide +kernel)⟩
theorem lw_p26 : lw_okq (⟨"Submodulary", "hasLawAbove", "(II)Z"⟩, 12) := ⟨⟨by decide +kernel, by decide +kernel⟩, List.mem_of_getElem? (i := 13) (by decide +kernel), List.mem_of_getElem? (i := 402) (by decide +kernel), List.mem_of_getElem? (i := 403) (by decide +kernel)⟩
theorem lw_p27 : lw_okq (⟨"Submodulary", "gain", "(III)I"⟩, 12) := ⟨⟨by decide +kernel, by decide +kernel⟩, List.mem_of_getElem? (i := 13) (by decide +kernel), List.mem_of_getElem? (i := 406) (by decide +kernel), List.mem_of_getElem? (i := 407) (by decide +kernel)⟩
theorem lw_p28 : lw_okq (⟨"Submodulary", "leastBetween", "(IIIZI)I"⟩, 12) := ⟨⟨by decide +kernel, by decide +kernel⟩, List.mem_of_getElem? (i := 13) (by decide +kernel), List.mem_of_getElem? (i := 424) (by decide +kernel), List.mem_of_getElem? (i := 425) (by decide +kernel)⟩
theorem lw_p29 : lw_okq (⟨"Submodulary", "takenIn", "(IIIZ)I"⟩, 12) := ⟨⟨by decide +kernel, by decide +kernel⟩, List.mem_of_getElem? (i := 13) (by decide +kernel), List.mem_of_getElem? (i := 428) (by decide +kernel), List.mem_of_getElem? (i := 429) (by decide +kernel)⟩
theorem lw_p30 : lw_okq (⟨"Submodulary", "takenOut", "(IIIZ)I"⟩, 12) := ⟨⟨by decide +kernel, by decide +kernel⟩, List.mem_of_getElem? (i := 13) (by decide +kernel), List.mem_of_getElem? (i := 432) (by decide +kernel), List.mem_of_getElem? (i := 433) (by decide +kernel)⟩
theorem lw_p31 : lw_okq (⟨"Submodulary", "lowest", "(I)I"⟩, 12) := ⟨⟨by decide +kernel, by decide +kernel⟩, List.mem_of_getElem? (i := 13) (by decide +kernel), List.mem_of_getElem? (i := 436) (by decide +kernel), List.mem_of_getElem? (i := 437) (by decide +kernel)⟩
def lw_privs_2 : List (MethodName × Nat) := [(⟨"Submodulary", "coverValue", "(I)I"⟩, 12), (⟨"Submodulary", "cutValue", "(I)I"⟩, 12), (⟨"Submodulary", "rankValue", "(II)I"⟩, 12), (⟨"Submodulary", "weightsValue", "(I)I"⟩, 12), (⟨"Submodulary", "putNew", "(II)V"⟩, 12), (⟨"Submodulary", "countNew", "()I"⟩, 12), (⟨"Submodulary", "isFunction", "(I)Z"⟩, 12), (⟨"Submodulary", "valueOf", "(II)I"⟩, 12), (⟨"Submodulary", "isSet", "(I)Z"⟩, 12), (⟨"Submodulary", "hasLaw", "(I)Z"⟩, 12), (⟨"Submodulary", "hasLawAbove", "(II)Z"⟩, 12), (⟨"Submodulary", "gain", "(III)I"⟩, 12), (⟨"Submodulary", "leastBetween", "(IIIZI)I"⟩, 12), (⟨"Submodulary", "takenIn", "(IIIZ)I"⟩, 12), (⟨"Submodulary", "takenOut", "(IIIZ)I"⟩, 12), (⟨"Submodulary", "lowest", "(I)I"⟩, 12)]
theorem lw_r2 : ∀ q ∈ lw_privs_2, lw_okq q := List.forall_mem_cons.mpr ⟨lw_p16, List.forall_mem_cons.mpr ⟨lw_p17, List.forall_mem_cons.mpr ⟨lw_p18, List.forall_mem_cons.mpr ⟨lw_p19, List.forall_mem_cons.mpr ⟨lw_p20, List.forall_mem_cons.mpr ⟨lw_p21, List.forall_mem_cons.mpr ⟨lw_p22, List.forall_mem_cons.mpr ⟨lw_p23, List.forall_mem_cons.mpr ⟨lw_p24, List.forall_mem_cons.mpr ⟨lw_p25, List.forall_mem_cons.mpr ⟨lw_p26, List.forall_mem_cons.mpr ⟨lw_p27, List.forall_mem_cons.mpr ⟨lw_p28, List.forall_mem_cons.mpr ⟨lw_p29, List.forall_mem_cons.mpr ⟨lw_p30, List.forall_mem_cons.mpr ⟨lw_p31, fun _ h => absurd h List.not_mem_nil⟩⟩⟩⟩⟩⟩⟩⟩⟩⟩⟩⟩⟩⟩⟩⟩
theorem lw_p32 : lw_okq (⟨"Submodulary", "isTold", "(I)Z"⟩, 12) := ⟨⟨by decide +kernel, by decide +kernel⟩, List.mem_of_getElem? (i := 13) (by decide +kernel), List.mem_of_getElem? (i := 461) (by decide +kernel), List.mem_of_getElem? (i := 462) (by decide +kernel)⟩
theorem lw_p33 : lw_okq (⟨"Submodulary", "aheadOf", "(I)I"⟩, 12) := ⟨⟨by decide +kernel, by decide +kernel⟩, List.mem_of_getElem? (i := 13) (by decide +kernel), List.mem_of_getElem? (i := 472) (by decide +kernel), List.mem_of_getElem? (i := 473) (by decide +kernel)⟩
theorem lw_p34 : lw_okq (⟨"Submodulary", "greediest", "(II)I"⟩, 12) := ⟨⟨by decide +kernel, by decide +kernel⟩, List.mem_of_getElem? (i := 13) (by decide +kernel), List.mem_of_getElem? (i := 483) (by decide +kernel), List.mem_of_getElem? (i := 484) (by decide +kernel)⟩
theorem lw_p35 : lw_okq (⟨"Submodulary", "gainsOverOrders", "(IIIII)I"⟩, 12) := ⟨⟨by decide +kernel, by decide +kernel⟩, List.mem_of_getElem? (i := 13) (by decide +kernel), List.mem_of_getElem? (i := 511) (by decide +kernel), List.mem_of_getElem? (i := 512) (by decide +kernel)⟩
theorem lw_p36 : lw_okq (⟨"SubmodularyModel", "forgets", "()V"⟩, 11) := ⟨⟨by decide +kernel, by decide +kernel⟩, List.mem_of_getElem? (i := 515) (by decide +kernel), List.mem_of_getElem? (i := 521) (by decide +kernel), List.mem_of_getElem? (i := 522) (by decide +kernel)⟩
theorem lw_p37 : lw_okq (⟨"SubmodularyModel", "isElement", "(I)Z"⟩, 11) := ⟨⟨by decide +kernel, by decide +kernel⟩, List.mem_of_getElem? (i := 515) (by decide +kernel), List.mem_of_getElem? (i := 574) (by decide +kernel), List.mem_of_getElem? (i := 575) (by decide +kernel)⟩
theorem lw_p38 : lw_okq (⟨"SubmodularyModel", "isSet", "(I)Z"⟩, 11) := ⟨⟨by decide +kernel, by decide +kernel⟩, List.mem_of_getElem? (i := 515) (by decide +kernel), List.mem_of_getElem? (i := 601) (by decide +kernel), List.mem_of_getElem? (i := 602) (by decide +kernel)⟩
theorem lw_p39 : lw_okq (⟨"SubmodularyModel", "covered", "(I)I"⟩, 11) := ⟨⟨by decide +kernel, by decide +kernel⟩, List.mem_of_getElem? (i := 515) (by decide +kernel), List.mem_of_getElem? (i := 605) (by decide +kernel), List.mem_of_getElem? (i := 606) (by decide +kernel)⟩
theorem lw_p40 : lw_okq (⟨"SubmodularyModel", "cutBy", "(I)I"⟩, 11) := ⟨⟨by decide +kernel, by decide +kernel⟩, List.mem_of_getElem? (i := 515) (by decide +kernel), List.mem_of_getElem? (i := 612) (by decide +kernel), List.mem_of_getElem? (i := 613) (by decide +kernel)⟩
theorem lw_p41 : lw_okq (⟨"SubmodularyModel", "weight", "(I)I"⟩, 11) := ⟨⟨by decide +kernel, by decide +kernel⟩, List.mem_of_getElem? (i := 515) (by decide +kernel), List.mem_of_getElem? (i := 616) (by decide +kernel), List.mem_of_getElem? (i := 617) (by decide +kernel)⟩
theorem lw_p42 : lw_okq (⟨"SubmodularyModel", "rank", "(II)I"⟩, 11) := ⟨⟨by decide +kernel, by decide +kernel⟩, List.mem_of_getElem? (i := 515) (by decide +kernel), List.mem_of_getElem? (i := 620) (by decide +kernel), List.mem_of_getElem? (i := 621) (by decide +kernel)⟩
theorem lw_p43 : lw_okq (⟨"SubmodularyModel", "ofColour", "(III)I"⟩, 11) := ⟨⟨by decide +kernel, by decide +kernel⟩, List.mem_of_getElem? (i := 515) (by decide +kernel), List.mem_of_getElem? (i := 624) (by decide +kernel), List.mem_of_getElem? (i := 625) (by decide +kernel)⟩
theorem lw_p44 : lw_okq (⟨"SubmodularyModel", "isFunction", "(I)Z"⟩, 11) := ⟨⟨by decide +kernel, by decide +kernel⟩, List.mem_of_getElem? (i := 515) (by decide +kernel), List.mem_of_getElem? (i := 632) (by decide +kernel), List.mem_of_getElem? (i := 633) (by decide +kernel)⟩
theorem lw_p45 : lw_okq (⟨"SubmodularyModel", "hasLaw", "(I)Z"⟩, 11) := ⟨⟨by decide +kernel, by decide +kernel⟩, List.mem_of_getElem? (i := 515) (by decide +kernel), List.mem_of_getElem? (i := 652) (by decide +kernel), List.mem_of_getElem? (i := 653) (by decide +kernel)⟩
theorem lw_p46 : lw_okq (⟨"SubmodularyModel", "leastOf", "(I)I"⟩, 11) := ⟨⟨by decide +kernel, by decide +kernel⟩, List.mem_of_getElem? (i := 515) (by decide +kernel), List.mem_of_getElem? (i := 664) (by decide +kernel), List.mem_of_getElem? (i := 665) (by decide +kernel)⟩
theorem lw_p47 : lw_okq (⟨"SubmodularyModel", "leastSets", "(IZ)I"⟩, 11) := ⟨⟨by decide +kernel, by decide +kernel⟩, List.mem_of_getElem? (i := 515) (by decide +kernel), List.mem_of_getElem? (i := 672) (by decide +kernel), List.mem_of_getElem? (i := 673) (by decide +kernel)⟩
def lw_privs_3 : List (MethodName × Nat) := [(⟨"Submodulary", "isTold", "(I)Z"⟩, 12), (⟨"Submodulary", "aheadOf", "(I)I"⟩, 12), (⟨"Submodulary", "greediest", "(II)I"⟩, 12), (⟨"Submodulary", "gainsOverOrders", "(IIIII)I"⟩, 12), (⟨"SubmodularyModel", "forgets", "()V"⟩, 11), (⟨"SubmodularyModel", "isElement", "(I)Z"⟩, 11), (⟨"SubmodularyModel", "isSet", "(I)Z"⟩, 11), (⟨"SubmodularyModel", "covered", "(I)I"⟩, 11), (⟨"SubmodularyModel", "cutBy", "(I)I"⟩, 11), (⟨"SubmodularyModel", "weight", "(I)I"⟩, 11), (⟨"SubmodularyModel", "rank", "(II)I"⟩, 11), (⟨"SubmodularyModel", "ofColour", "(III)I"⟩, 11), (⟨"SubmodularyModel", "isFunction", "(I)Z"⟩, 11), (⟨"SubmodularyModel", "hasLaw", "(I)Z"⟩, 11), (⟨"SubmodularyModel", "leastOf", "(I)I"⟩, 11), (⟨"SubmodularyModel", "leastSets", "(IZ)I"⟩, 11)]
theorem lw_r3 : ∀ q ∈ lw_privs_3, lw_okq q := List.forall_mem_cons.mpr ⟨lw_p32, List.forall_mem_cons.mpr ⟨lw_p33, List.forall_mem_cons.mpr ⟨lw_p34, List.forall_mem_cons.mpr ⟨lw_p35, List.forall_mem_cons.mpr ⟨lw_p36, List.forall_mem_cons.mpr ⟨lw_p37, List.forall_mem_cons.mpr ⟨lw_p38, List.forall_mem_cons.mpr ⟨lw_p39, List.forall_mem_cons.mpr ⟨lw_p40, List.forall_mem_cons.mpr ⟨lw_p41, List.forall_mem_cons.mpr ⟨lw_p42, List.forall_mem_cons.mpr ⟨lw_p43, List.forall_mem_cons.mpr ⟨lw_p44, List.forall_mem_cons.mpr ⟨lw_p45, List.forall_mem_cons.mpr ⟨lw_p46, List.forall_mem_cons.mpr ⟨lw_p47, fun _ h => absurd h List.not_mem_nil⟩⟩⟩⟩⟩⟩⟩⟩⟩⟩⟩⟩⟩⟩⟩⟩
theorem lw_p48 : lw_okq (⟨"SubmodularyModel", "placeOf", "(I)I"⟩, 11) := ⟨⟨by decide +kernel, by decide +kernel⟩, List.mem_of_getElem? (i := 515) (by decide +kernel), List.mem_of_getElem? (i := 684) (by decide +kernel), List.mem_of_getElem? (i := 685) (by decide +kernel)⟩
theorem lw_p49 : lw_okq (⟨"SubmodularyModel", "commonSize", "()I"⟩, 11) := ⟨⟨by decide +kernel, by decide +kernel⟩, List.mem_of_getElem? (i := 515) (by decide +kernel), List.mem_of_getElem? (i := 704) (by decide +kernel), List.mem_of_getElem? (i := 705) (by decide +kernel)⟩
theorem lw_p50 : lw_okq (⟨"SubmodularyModel", "isFair", "(II)Z"⟩, 11) := ⟨⟨by decide +kernel, by decide +kernel⟩, List.mem_of_getElem? (i := 515) (by decide +kernel), List.mem_of_getElem? (i := 708) (by decide +kernel), List.mem_of_getElem? (i := 709) (by decide +kernel)⟩
theorem lw_p51 : lw_okq (⟨"SubmodularyModel", "shares", "(II)I"⟩, 11) := ⟨⟨by decide +kernel, by decide +kernel⟩, List.mem_of_getElem? (i := 515) (by decide +kernel), List.mem_of_getElem? (i := 720) (by decide +kernel), List.mem_of_getElem? (i := 721) (by decide +kernel)⟩
def lw_privs_4 : List (MethodName × Nat) := [(⟨"SubmodularyModel", "placeOf", "(I)I"⟩, 11), (⟨"SubmodularyModel", "commonSize", "()I"⟩, 11), (⟨"SubmodularyModel", "isFair", "(II)Z"⟩, 11), (⟨"SubmodularyModel", "shares", "(II)I"⟩, 11)]
theorem lw_r4 : ∀ q ∈ lw_privs_4, lw_okq q := List.forall_mem_cons.mpr ⟨lw_p48, List.forall_mem_cons.mpr ⟨lw_p49, List.forall_mem_cons.mpr ⟨lw_p50, List.forall_mem_cons.mpr ⟨lw_p51, fun _ h => absurd h List.not_mem_nil⟩⟩⟩⟩
def lw_privs : List (MethodName × Nat) := lw_privs_1 ++ (lw_privs_2 ++ (lw_privs_3 ++ (lw_privs_4)))
def lw_tbl : List Cond := k2_sels lw_privs ++ tables_1
theorem lw_privs_ok : ∀ q ∈ lw_privs, lw_okq q := by
  show ∀ q ∈ lw_privs_1 ++ (lw_privs_2 ++ (lw_privs_3 ++ (lw_privs_4))), lw_okq q
  exact List.forall_mem_append.mpr ⟨lw_r1, List.forall_mem_append.mpr ⟨lw_r2, List.forall_mem_append.mpr ⟨lw_r3, lw_r4⟩⟩⟩
end
section
/-! ===== BEGIN words of one list among another's, by their places ===== -/
theorem goodIn_r {big : List Cond} (ws : List Cond) (ps : List Nat) (hp : ws = ps.filterMap (fun i => big[i]?)) (h : ws.all goodWord = true) : GoodIn big ws := by
  intro w hw
  have h1 := List.all_eq_true.mp h w hw
  rw [hp] at hw
  obtain ⟨i, -, hi⟩ := List.mem_filterMap.mp hw
  have hm : w ∈ big := by first | exact List.mem_of_getElem? hi | exact List.getElem?_mem hi
  exact ⟨hm, good_of_word h1⟩
theorem goodIn_app {big a b : List Cond} (ha : GoodIn big a) (hb : GoodIn big b) : GoodIn big (a ++ b) := fun w h => (List.mem_append.mp h).elim (ha w) (hb w)
theorem goodIn_ca {big a b : List Cond} {c : Cond} (ha : GoodIn big (c :: a)) (hb : GoodIn big b) : GoodIn big (c :: (a ++ b)) := fun w h => (List.mem_cons.mp h).elim (fun e => ha w (List.mem_cons.mpr (Or.inl e))) (fun h => (List.mem_append.mp h).elim (fun h => ha w (List.mem_cons.mpr (Or.inr h))) (hb w))
theorem goodIn_sub {big ws : List Cond} (hm : ∀ w ∈ ws, w ∈ big) (h : ws.all goodWord = true) : GoodIn big ws := fun w hw => ⟨hm w hw, good_of_word (List.all_eq_true.mp h w hw)⟩
/-! ===== END ===== -/

/-! ===== BEGIN exceptions that leave a method, and their catching by the caller (launches without stack traces) ===== -/
section VXA
/-! The laws vx_back, vx_callV, vx_callS, vx_callSW, vx_throw0, vx_throwS follow proofs of the library, with one case more: JvmDerived/Free/Laws.lean (Back.of_free), Shelf42/LK1.lean (callV, callS), Shelf/KitTraced.lean (throwNew0V, throwNewS). -/
/-- where a method has thrown q: the class by its name, the cell, what was written, the world -/
def vx_T (XC : String → State → State → Prop) (st : State) (q : Addr) (t : State) (mc ms : Nat) (free : Addr → Prop) : Prop :=
  ∃ (E : String) (ce : Cell) (L : List Loc), XC E st t ∧ t.heap[q]? = some ce ∧ ce.vm = .none ∧ st.vm.findClass E = some ce.cls ∧ st.WarmedH t.vm ∧ st.sameButNew ({ t with vm := st.vm } : State) L mc ms ∧ ∀ z ∈ L, free z.base
def vx_Q (Qc : Array Value → State → Outcome → State → Prop) (XC : String → State → State → Prop) (mc ms : Nat) (free : Addr → Prop) : Array Value → State → Outcome → State → Prop := fun a st o t =>
  (Qc a st o t ∧ ∃ L, FrameEnd st o t L mc ms ∧ ∀ q ∈ L, free q.base) ∨ ∃ q, o = .threw q ∧ vx_T XC st q t mc ms free
/-- a callee that returns or throws -/
def vx_Met (l : Launch) (y : MethodName) (ws : List Cond) (rm : Room) (Pc : Array Value → State → Prop) (Qc : Array Value → State → Outcome → State → Prop) (XC : String → State → State → Prop) (mc ms : Nat) (free : Addr → Prop) : Prop :=
  MetFree l y (headSpec ws rm) Pc (fun _ _ _ _ _ => True) (vx_Q Qc XC mc ms free)
def vx_Post (XC : String → State → State → Prop) (mc ms : Nat) (free : Addr → Prop) : Pt → Array Value → Addr → Pt → Prop := fun A a q B =>
  ∃ (g : JFrame) (mk : MethodId) (t : State) (L : List Loc) (E : String) (ce : Cell), B.U.heap = t.heap ∧ B.U.vm = t.vm ∧ XC E (A.U.calling g mk a) t ∧ t.heap[q]? = some ce ∧ ce.vm = .none ∧ A.U.vm.findClass E = some ce.cls ∧ B.locs = A.locs ++ L ∧ (∀ z ∈ L, free z.base) ∧ B.cells = A.cells + mc ∧ B.slots = A.slots + ms
def vx_Back (l : Launch) (R : Room) (p : Program) (e : Env) (below : List Frame) (s : State) (sargs : Array Value) (y : MethodName) (len W9 : Nat)
    (Pre : Pt → Array Value → Prop) (Post : Pt → Array Value → Option Value → Pt → Prop) (PostX : Pt → Array Value → Addr → Pt → Prop) : Prop :=
  ∀ (m : MethodId) (meth : Method) (c : Code) (A : Pt) (g : JFrame) (ig : Instr) (mk : MethodId) (a : Array Value),
    Stand p l e R s m sargs below meth c A.U A.locs A.cells A.slots → g.method = m → g.locals.size = c.maxLocals → decode c.code g.pc = .ok (ig, len) →
    2 * g.monitorRoom + (g.stack.map fun v => v.category).sum ≤ W9 → A.U.methodNamed? y = some mk → Pre A a →
    (∃ (v : Option Value) (B : Pt), Stand p l e R s m sargs below meth c B.U B.locs B.cells B.slots ∧ Post A a v B ∧
      Steps p.tables e below (doInvoke e (A.U.setTop g) [] mk a).1 (B.U.setTop { g with pc := g.pc + len, stack := v.toList ++ g.stack })) ∨
    (∃ (q : Addr) (B : Pt), Stand p l e R s m sargs below meth c B.U B.locs B.cells B.slots ∧ PostX A a q B ∧
      Steps p.tables e below (doInvoke e (A.U.setTop g) [] mk a).1 ((B.U.setTop g).pushFrame (.throwing q)))
section Payer
variable {l : Launch} {R : Room} {p : Program} {e : Env} {below : List Frame} {s : State} {sargs : Array Value} {y : MethodName} {len W9 : Nat}
theorem vx_back {ws : List Cond} {rm : Room} {Pc : Array Value → State → Prop} {Qc : Array Value → State → Outcome → State → Prop} {XC : String → State → State → Prop} {mc ms : Nat} {free : Addr → Prop} {bytes : ByteArray} {maxL : Nat} {ret : Option FieldType}
    (hM : vx_Met l y ws rm Pc Qc XC mc ms free) (hblind : FrameBlind Pc) (hrc : rm.cells = mc) (hrs : rm.slots = ms)
    (hframes : rm.frames + 1 ≤ R.frames) (hlocals : W9 + (maxL + 11) + rm.locals ≤ R.locals)
    (hws : ∀ w ∈ ws, ∀ a' U, s.WarmedH U.vm → w.before a' U = true) (hcode : Cond.code y bytes maxL ret ∈ ws) (hinit : ∀ a' U, s.WarmedH U.vm → (Cond.initialized y.cls).before a' U = true) :
    vx_Back l R p e below s sargs y len W9 (PreOf R mc ms Pc) (PostOf Qc mc ms free) (vx_Post XC mc ms free) := by
  intro m meth c A g ig mk a X hg hsize hdg hW hn hp
  have h1 : (headSpec ws rm).pre.before a A.U = true := atoms_intro fun w hw => hws w hw _ _ X.warmed
  have h2 : (Cond.code y bytes maxL ret).before a A.U = true := hws _ hcode _ _ X.warmed
  have h3 : (Cond.initialized y.cls).before a A.U = true := hinit _ _ X.warmed
  have h4 : A.cells + (headSpec ws rm).room.cells ≤ R.cells := by rw [show (headSpec ws rm).room.cells = mc from hrc]; exact hp.1
  have h5 : A.slots + (headSpec ws rm).room.slots ≤ R.slots := by rw [show (headSpec ws rm).room.slots = ms from hrs]; exact hp.2.1
  have hPc : Pc a (A.U.calling g mk a) := hblind _ _ _ _ hp.2.2
  obtain ⟨U, Ls, c0, s0⟩ := A
  dsimp only [Pt.U, Pt.locs, Pt.cells, Pt.slots] at h1 h2 h3 h4 h5 X hn hPc ⊢
  obtain ⟨methY, cY, hmY, hcY, -, hlY, -, -, -, -⟩ := Cond.code_spec hn h2
  obtain ⟨kY, hkY, -⟩ := className_of_methodNamed hn
  have hinitY : kY.init = .initialized := Cond.initialized_spec (findClass_of_methodNamed hn) hkY h3
  have h : At U g.method c below := by rw [hg]; exact X.here
  have hlocals9 : W9 + (maxL + 11) + (headSpec ws rm).room.locals ≤ R.locals := hlocals
  have happ : (headSpec ws rm).appliesLoose y e.platform (U.calling g mk a) = true :=
    Spec.appliesLoose_calling (g := g) h hdg hn hkY hinitY
      (X.room_calling (g := g) (R' := (headSpec ws rm).room) hsize hmY hcY hframes (by rw [hlY]; omega) h4 h5) h1
  obtain ⟨mid, hmid⟩ := h.above
  have hfr : (U.setTop g).frames = (.java g :: mid) ++ below := by rw [State.frames_setTop' g h.top, hmid]; rfl
  obtain ⟨o, s₂, hsteps, -, hend, hq⟩ := Steps.callFree hM p X.admits X.cas X.clock (acts := []) hfr happ hPc trivial
  have hq' : vx_Q Qc XC mc ms free a (U.calling g mk a) o s₂ := hq
  rw [State.frames_setTop' g h.top] at hend
  obtain ⟨g₀, hg0⟩ := Option.isSome_iff_exists.mp h.top
  obtain ⟨r, hr⟩ := State.topJava?_eq_some.mp hg0
  have hr' : (({ U with heap := s₂.heap, slotsUsed := s₂.slotsUsed } : State).setVm s₂.vm).frames = .java g₀ :: r := hr
  rcases hq' with ⟨hqc, L, hfe, hL⟩ | ⟨q, rfl, E, ce, L, hx, hce, hcv, hcl, hW₂, hsm, hL⟩
  · obtain ⟨⟨v, rfl⟩, hW₂, e2, q2, q3, q4, q5, q6⟩ := id hfe
    have e3 : s₂ = ({ (U.calling g mk a).setFrames s₂.frames with heap := s₂.heap, slotsUsed := s₂.slotsUsed } : State).setVm s₂.vm := by
      have : s₂ = ({ s₂ with vm := (U.calling g mk a).vm } : State).setVm s₂.vm := rfl
      rw [e2] at this
      exact this
    obtain ⟨c₂, i₂, len₂, hc₂, hd₂, hf₂⟩ := hend
    have hW' : U.WarmedH s₂.vm := hW₂
    have hcc : c₂ = c := by
      have h1 : s₂.code? g.method = U.code? g.method := by
        rw [State.code?_eq, State.code?_eq, hW'.alike.method?]
      exact Option.some.inj (hc₂.symm.trans (h1.trans h.code))
    subst hcc
    have hlen : len₂ = len := by rw [hdg] at hd₂; cases hd₂; rfl
    subst hlen
    have hs₂ : s₂ = (({ U with heap := s₂.heap, slotsUsed := s₂.slotsUsed } : State).setVm s₂.vm).setTop { g with pc := g.pc + len₂, stack := v.toList ++ g.stack } := by
      refine e3.trans ?_
      rw [hf₂, State.calling_eq h.top, State.setFrames_setFrames, State.setTop_of_frames _ hr', hr]
      rfl
    have hsame : U.sameButNew ({ U with heap := s₂.heap, slotsUsed := s₂.slotsUsed } : State) L mc ms := by
      refine ⟨?_, q2, q3, q4, q5, q6⟩
      obtain ⟨t, ht, -⟩ := State.frames_cons hr
      show ({ U with heap := s₂.heap, slotsUsed := s₂.slotsUsed } : State) = { U.setFrames U.frames with heap := s₂.heap, slotsUsed := s₂.slotsUsed }
      rw [State.setFrames_self ht]
    subst hg
    refine Or.inl ⟨v, ⟨(({ U with heap := s₂.heap, slotsUsed := s₂.slotsUsed } : State).setVm s₂.vm), Ls ++ L, c0 + mc, s0 + ms⟩,
      ⟨X.admits, X.cas, X.clock, X.frames, X.room, X.hears, X.method, X.code, (X.here.setHeapUsed s₂.heap s₂.slotsUsed).setVm hW'.alike, X.tail, State.WarmedH.trans X.warmed hW', X.limits, X.bytes, X.same.trans (hsame.setVm s.vm)⟩,
      ⟨g, mk, s₂, L, rfl, rfl, hqc, rfl, hL, rfl, rfl⟩, ?_⟩
    show Steps p.tables e below _ ((({ U with heap := s₂.heap, slotsUsed := s₂.slotsUsed } : State).setVm s₂.vm).setTop { g with pc := g.pc + len₂, stack := v.toList ++ g.stack })
    rw [← hs₂]
    exact hsteps
  · obtain ⟨e2, q2, q3, q4, q5, q6⟩ := id hsm
    have e3 : s₂ = ({ (U.calling g mk a).setFrames s₂.frames with heap := s₂.heap, slotsUsed := s₂.slotsUsed } : State).setVm s₂.vm := by
      have : s₂ = ({ s₂ with vm := (U.calling g mk a).vm } : State).setVm s₂.vm := rfl
      rw [e2] at this
      exact this
    have hf₂ : s₂.frames = .throwing q :: .java g :: U.frames.tail := hend
    have hW' : U.WarmedH s₂.vm := hW₂
    have hs₂ : s₂ = ((({ U with heap := s₂.heap, slotsUsed := s₂.slotsUsed } : State).setVm s₂.vm).setTop g).pushFrame (.throwing q) := by
      refine e3.trans ?_
      rw [hf₂, State.calling_eq h.top, State.setFrames_setFrames, State.pushFrame, State.frames_setTop _ hr', State.setTop_of_frames _ hr', State.setFrames_setFrames, hr]
      rfl
    have hsame : U.sameButNew ({ U with heap := s₂.heap, slotsUsed := s₂.slotsUsed } : State) L mc ms := by
      refine ⟨?_, q2, q3, q4, q5, q6⟩
      obtain ⟨t, ht, -⟩ := State.frames_cons hr
      show ({ U with heap := s₂.heap, slotsUsed := s₂.slotsUsed } : State) = { U.setFrames U.frames with heap := s₂.heap, slotsUsed := s₂.slotsUsed }
      rw [State.setFrames_self ht]
    subst hg
    refine Or.inr ⟨q, ⟨(({ U with heap := s₂.heap, slotsUsed := s₂.slotsUsed } : State).setVm s₂.vm), Ls ++ L, c0 + mc, s0 + ms⟩,
      ⟨X.admits, X.cas, X.clock, X.frames, X.room, X.hears, X.method, X.code, (X.here.setHeapUsed s₂.heap s₂.slotsUsed).setVm hW'.alike, X.tail, State.WarmedH.trans X.warmed hW', X.limits, X.bytes, X.same.trans (hsame.setVm s.vm)⟩,
      ⟨g, mk, s₂, L, E, ce, rfl, rfl, hx, hce, hcv, hcl, rfl, hL, rfl, rfl⟩, ?_⟩
    show Steps p.tables e below _ (((({ U with heap := s₂.heap, slotsUsed := s₂.slotsUsed } : State).setVm s₂.vm).setTop g).pushFrame (.throwing q))
    rw [← hs₂]
    exact hsteps
end Payer
section Calls
variable {p : Program} {l : Launch} {e : Env} {R : Room} {s : State} {m : MethodId} {args : Array Value} {below : List Frame} {meth : Method} {c : Code} {T : State} {locs : List Loc} {cells slots : Nat}
theorem vx_callV (X : Stand p l e R s m args below meth c T locs cells slots) (hexec : p.tables.exec = Jvm.exec) {own C : String} {index : Nat} {y : MethodName} {bytes : ByteArray} {maxL : Nat} {ret : Option FieldType}
    (hown : s.vm.findClass own = some m.cls) (hlink : (Cond.methodLink own index y).before args s = true) (hinst : (Cond.instanceMethod y).before args s = true) (hsel : (Cond.selects C y y).before args s = true)
    (hcode : (Cond.code y bytes maxL ret).before args s = true) (hy : y.cls ≠ "java/lang/invoke/MethodHandle" ∧ y.cls ≠ "java/lang/invoke/VarHandle")
    {W9 : Nat} {Pre : Pt → Array Value → Prop} {Post : Pt → Array Value → Option Value → Pt → Prop} {PostX : Pt → Array Value → Addr → Pt → Prop} (hK : vx_Back l R p e below s args y 3 W9 Pre Post PostX)
    {b : Addr} {cellB : Cell} (hcell : T.heap[b]? = some cellB) (hobj : cellB.vm.isStatics = false) (hcls : s.vm.findClass C = some cellB.cls)
    {g : JFrame} (hg : g.method = m) (hsize : g.locals.size = c.maxLocals) {argsL rest : List Value} (hlen : ∀ sig, parseMethodDescriptor y.desc = some sig → argsL.length = sig.parameters.length)
    (hstack : g.stack = argsL.reverse ++ .ref b :: rest) (hW : 2 * g.monitorRoom + (rest.map fun v => v.category).sum ≤ W9) (hdg : decode c.code g.pc = .ok (.invokevirtual index, 3))
    (hpre : ∀ vm₁, s.WarmedH vm₁ → Pre ⟨T.setVm vm₁, locs, cells, slots⟩ (Value.ref b :: argsL).toArray) :
    (∃ (v : Option Value) (vm₁ : Vm) (B : Pt), s.WarmedH vm₁ ∧ Stand p l e R s m args below meth c B.U B.locs B.cells B.slots ∧ Post ⟨T.setVm vm₁, locs, cells, slots⟩ (Value.ref b :: argsL).toArray v B ∧
      ∀ target, Steps p.tables e below (B.U.setTop { g with pc := g.pc + 3, stack := v.toList ++ rest }) target → Steps p.tables e below (T.setTop g) target) ∨
    (∃ (q : Addr) (vm₁ : Vm) (B : Pt), s.WarmedH vm₁ ∧ Stand p l e R s m args below meth c B.U B.locs B.cells B.slots ∧ PostX ⟨T.setVm vm₁, locs, cells, slots⟩ (Value.ref b :: argsL).toArray q B ∧
      Steps p.tables e below (T.setTop g) ((B.U.setTop { g with stack := rest }).pushFrame (.throwing q))) := by
  obtain ⟨mk, methM, hnamed, hmethM, hstM, habM⟩ := Cond.instanceMethod_spec hinst
  obtain ⟨methM', cM, hmethM', -, -, -, -, -, -, hsigM⟩ := Cond.code_spec hnamed hcode
  cases hmethM.symm.trans hmethM'
  obtain ⟨c2, r2, m2, q1, q2, q3, q4, kP, hkP, hkPi⟩ := Cond.selects_spec hsel
  cases hcls.symm.trans q1
  cases (State.methodFound?_of_named hnamed hy).symm.trans q2
  cases hnamed.symm.trans q3
  have hselP : selectMethod e.platform s.vm cellB.cls mk = .method mk := by rw [Launch.admits_selectMethod X.admits]; exact q4
  obtain ⟨vm₁, X₁, hstep₁⟩ := X.invokevirtual hexec hown hlink hnamed hmethM hstM hkP hkPi hy (a := b) (cell := cellB) hcell
    (fun z h => by rw [h] at hobj; cases hobj) hselP hmethM habM hkP hkPi (g := g) hg (argsL := argsL) (rest := rest) (hlen _ hsigM) hstack hdg
  rcases hK m meth c ⟨T.setVm vm₁, locs, cells, slots⟩ { g with stack := rest } (.invokevirtual index) mk (Value.ref b :: argsL).toArray X₁ hg hsize hdg hW (X₁.named hnamed) (hpre vm₁ X₁.warmed) with ⟨v, B, X', hpost, hsteps⟩ | ⟨q, B, X', hpost, hsteps⟩
  · exact Or.inl ⟨v, vm₁, B, X₁.warmed, X', hpost, fun target h => hstep₁ _ fun acts => by rw [doInvoke_state]; exact hsteps.trans h⟩
  · exact Or.inr ⟨q, vm₁, B, X₁.warmed, X', hpost, hstep₁ _ fun acts => by rw [doInvoke_state]; exact hsteps⟩
theorem vx_callS (X : Stand p l e R s m args below meth c T locs cells slots) (hexec : p.tables.exec = Jvm.exec) {own : String} {index : Nat} {y : MethodName} {bytes : ByteArray} {maxL : Nat} {ret : Option FieldType}
    (hown : s.vm.findClass own = some m.cls) (hlink : (Cond.methodLink own index y).before args s = true) (hstat : (Cond.static y).before args s = true) (hinit : (Cond.initialized y.cls).before args s = true)
    (hcode : (Cond.code y bytes maxL ret).before args s = true) (hy : y.cls ≠ "java/lang/invoke/MethodHandle" ∧ y.cls ≠ "java/lang/invoke/VarHandle")
    {W9 : Nat} {Pre : Pt → Array Value → Prop} {Post : Pt → Array Value → Option Value → Pt → Prop} {PostX : Pt → Array Value → Addr → Pt → Prop} (hK : vx_Back l R p e below s args y 3 W9 Pre Post PostX)
    {g : JFrame} (hg : g.method = m) (hsize : g.locals.size = c.maxLocals) {argsL rest : List Value} (hlen : ∀ sig, parseMethodDescriptor y.desc = some sig → argsL.length = sig.parameters.length)
    (hstack : g.stack = argsL.reverse ++ rest) (hW : 2 * g.monitorRoom + (rest.map fun v => v.category).sum ≤ W9) (hdg : decode c.code g.pc = .ok (.invokestatic index, 3))
    (hpre : ∀ vm₁, s.WarmedH vm₁ → Pre ⟨T.setVm vm₁, locs, cells, slots⟩ argsL.toArray) :
    (∃ (v : Option Value) (vm₁ : Vm) (B : Pt), s.WarmedH vm₁ ∧ Stand p l e R s m args below meth c B.U B.locs B.cells B.slots ∧ Post ⟨T.setVm vm₁, locs, cells, slots⟩ argsL.toArray v B ∧
      ∀ target, Steps p.tables e below (B.U.setTop { g with pc := g.pc + 3, stack := v.toList ++ rest }) target → Steps p.tables e below (T.setTop g) target) ∨
    (∃ (q : Addr) (vm₁ : Vm) (B : Pt), s.WarmedH vm₁ ∧ Stand p l e R s m args below meth c B.U B.locs B.cells B.slots ∧ PostX ⟨T.setVm vm₁, locs, cells, slots⟩ argsL.toArray q B ∧
      Steps p.tables e below (T.setTop g) ((B.U.setTop { g with stack := rest }).pushFrame (.throwing q))) := by
  obtain ⟨mk, hnamed⟩ := Cond.code_named hcode
  obtain ⟨methM, cM, hmethM, -, -, -, -, -, -, hsigM⟩ := Cond.code_spec hnamed hcode
  have hstatic : methM.isStatic = true := Cond.static_spec hnamed hmethM hstat
  obtain ⟨kP, hkP, -⟩ := className_of_methodNamed hnamed
  have hinitP : kP.init = .initialized := Cond.initialized_spec (findClass_of_methodNamed hnamed) hkP hinit
  obtain ⟨vm₁, X₁, hstep₁⟩ := X.invokestatic hexec hown hlink hnamed hmethM hstatic hkP hinitP hy (g := g) hg (argsL := argsL) (rest := rest) (hlen _ hsigM) hstack hdg
  rcases hK m meth c ⟨T.setVm vm₁, locs, cells, slots⟩ { g with stack := rest } (.invokestatic index) mk argsL.toArray X₁ hg hsize hdg hW (X₁.named hnamed) (hpre vm₁ X₁.warmed) with ⟨v, B, X', hpost, hsteps⟩ | ⟨q, B, X', hpost, hsteps⟩
  · exact Or.inl ⟨v, vm₁, B, X₁.warmed, X', hpost, fun target h => hstep₁ _ fun acts => by rw [doInvoke_state]; exact hsteps.trans h⟩
  · exact Or.inr ⟨q, vm₁, B, X₁.warmed, X', hpost, hstep₁ _ fun acts => by rw [doInvoke_state]; exact hsteps⟩
end Calls
theorem vx_cls {s : State} {T : State} {vm₁ : Vm} {E : String} {k : ClassId} (hW : s.WarmedH vm₁) (h : (T.setVm vm₁).vm.findClass E = some k) : s.vm.findClass E = some k := by
  have h1 : vm₁.findClass E = some k := h
  rw [hW.alike.findClass] at h1
  exact h1
/-- the method's frame g, with q thrown over it -/
def vx_W (p : Program) (l : Launch) (e : Env) (R : Room) (s : State) (m : MethodId) (args : Array Value) (below : List Frame) (meth : Method) (c : Code) (H : Heap) (locs : List Loc) (cells slots : Nat) (Q : State → Prop) (g : JFrame) (q : Addr) : Prop :=
  ∀ T : State, T.heap = H → Stand p l e R s m args below meth c T locs cells slots → ∃ t, Steps p.tables e below ((T.setTop g).pushFrame (.throwing q)) t ∧ Q t
def vx_Run (p : Program) (l : Launch) (e : Env) (R : Room) (s : State) (m : MethodId) (args : Array Value) (below : List Frame) (meth : Method) (c : Code) (H : Heap) (locs : List Loc) (cells slots mc ms : Nat) (g : JFrame) (rest : List Value) (Qa : State → Outcome → State → Prop) (XC : String → State → State → Prop) (free : Addr → Prop) : Prop :=
  ∀ T : State, T.heap = H → Stand p l e R s m args below meth c T locs cells slots →
    (∃ (v : Option Value) (st₀ t T' : State) (L : List Loc), st₀.heap = H ∧ Stand p l e R s m args below meth c T' (locs ++ L) (cells + mc) (slots + ms) ∧ (∀ q ∈ L, free q.base) ∧ T'.heap = t.heap ∧ T'.vm = t.vm ∧ Qa st₀ (.returned v) t ∧
      Goes p e below T g T' { g with pc := g.pc + 3, stack := v.toList ++ rest }) ∨
    (∃ (q : Addr) (st₀ t T' : State) (L : List Loc) (E : String) (ce : Cell), st₀.heap = H ∧ Stand p l e R s m args below meth c T' (locs ++ L) (cells + mc) (slots + ms) ∧ (∀ z ∈ L, free z.base) ∧ T'.heap = t.heap ∧ T'.vm = t.vm ∧ XC E st₀ t ∧ t.heap[q]? = some ce ∧ ce.vm = .none ∧ s.vm.findClass E = some ce.cls ∧
      Steps p.tables e below (T.setTop g) ((T'.setTop { g with stack := rest }).pushFrame (.throwing q)))
def vx_X {S : Type} (px : S → Prop) (B : String → S → State → Prop) (A : Nat → Prop) : String → State → State → Prop := fun E st t => ∃ u : S, px u ∧ B E u t ∧ va_F A st t
section Runs
variable {p : Program} {l : Launch} {e : Env} {R : Room} {s : State} {m : MethodId} {args : Array Value} {below : List Frame} {meth : Method} {c : Code} {H : Heap} {locs : List Loc} {cells slots : Nat}
variable {y : MethodName} {bytes cc : ByteArray} {maxL nL mc ms n index : Nat} {ret : Option FieldType} {ws : List Cond} {rm : Room} {Pc : Array Value → State → Prop} {Qc : Array Value → State → Outcome → State → Prop} {XC : String → State → State → Prop} {free : Addr → Prop} {Ts : List Cond} {own C : String} {b : Addr} {As rest : List Value} {g : JFrame}
theorem vx_callBack (cb : CallB R s args own index y bytes maxL ret ws rm mc ms n) (hM : vx_Met l y ws rm Pc Qc XC mc ms free) (hbl : FrameBlind Pc) : vx_Back l R p e below s args y 3 8 (PreOf R mc ms Pc) (PostOf Qc mc ms free) (vx_Post XC mc ms free) := by
  obtain ⟨hrc, hrs, hfr, hlo, hws, hcw, -, hini, -⟩ := cb
  exact vx_back (bytes := bytes) (maxL := maxL) (ret := ret) hM hbl hrc hrs hfr hlo hws hcw (fun a' U hW => word_at hW (Or.inl (by first | rfl | simp [Cond.onTables, Cond.keeps, Cond.steady])) hini)
theorem vx_runV (S : CallFix p m c cc nL s args Ts own) (hM : vx_Met l y ws rm Pc Qc XC mc ms free) (cw : CallW R s args own C index y bytes maxL ret ws rm mc ms n) (hp : PreV s H C b Pc As)
    (hg : g.method = m) (hn : As.length = n) (hsize : g.locals.size = nL) (hstack : g.stack = As.reverse ++ .ref b :: rest) (hW : 2 * g.monitorRoom + (rest.map fun v => v.category).sum ≤ 8) (hdg : decode cc g.pc = .ok (.invokevirtual index, 3)) (hf : cells + mc ≤ R.cells ∧ slots + ms ≤ R.slots) :
    vx_Run p l e R s m args below meth c H locs cells slots mc ms g rest (Qc (Value.ref b :: As).toArray) XC free := by
  have hK : vx_Back l R p e below s args y 3 8 (PreOf R mc ms Pc) (PostOf Qc mc ms free) (vx_Post XC mc ms free) := vx_callBack cw.1 hM hp.1
  obtain ⟨⟨-, -, -, -, -, -, hcode, -, hy, hlen, hl⟩, hin, hse⟩ := cw
  obtain ⟨hx, hb, hml, ho, -⟩ := S
  obtain ⟨-, ⟨cellB, hcB, hoB, hclB⟩, hPc⟩ := hp
  intro T hT X
  rcases vx_callV X hx (C := C) (bytes := bytes) (maxL := maxL) (ret := ret) ho hl hin hse hcode hy hK (by rw [hT]; exact hcB) hoB hclB hg (hsize.trans hml.symm) (argsL := As) (rest := rest) (fun sig h => hn.trans (hlen sig h)) hstack hW (by rw [hb]; exact hdg)
    (fun vm₁ hW₁ => ⟨hf.1, hf.2, hPc (T.setVm vm₁) hT hW₁⟩) with ⟨v, vm₁, ⟨U', l2, c2, s2⟩, hW₁, X', ⟨g', mk, t, L, e1, e2, hq, h1, hL, h2, h3⟩, st⟩ | ⟨q, vm₁, ⟨U', l2, c2, s2⟩, hW₁, X', ⟨g', mk, t, L, E, ce, e1, e2, hq, hce, hcv, hcl, h1, hL, h2, h3⟩, st⟩
  · dsimp only [Pt.U, Pt.locs, Pt.cells, Pt.slots] at X' e1 e2 h1 h2 h3 st
    subst h1; subst h2; subst h3
    exact Or.inl ⟨v, (T.setVm vm₁).calling g' mk (Value.ref b :: As).toArray, t, U', L, hT, X', hL, e1, e2, hq, st⟩
  · dsimp only [Pt.U, Pt.locs, Pt.cells, Pt.slots] at X' e1 e2 h1 h2 h3 st hcl
    subst h1; subst h2; subst h3
    exact Or.inr ⟨q, (T.setVm vm₁).calling g' mk (Value.ref b :: As).toArray, t, U', L, E, ce, hT, X', hL, e1, e2, hq, hce, hcv, vx_cls hW₁ hcl, st⟩
theorem vx_runS (S : CallFix p m c cc nL s args Ts own) (hM : vx_Met l y ws rm Pc Qc XC mc ms free) (cw : CallB R s args own index y bytes maxL ret ws rm mc ms n ∧ (Cond.static y).before args s = true) (hp : PreS s H Pc As)
    (hg : g.method = m) (hn : As.length = n) (hsize : g.locals.size = nL) (hstack : g.stack = As.reverse ++ rest) (hW : 2 * g.monitorRoom + (rest.map fun v => v.category).sum ≤ 8) (hdg : decode cc g.pc = .ok (.invokestatic index, 3)) (hf : cells + mc ≤ R.cells ∧ slots + ms ≤ R.slots) :
    vx_Run p l e R s m args below meth c H locs cells slots mc ms g rest (Qc As.toArray) XC free := by
  have hK : vx_Back l R p e below s args y 3 8 (PreOf R mc ms Pc) (PostOf Qc mc ms free) (vx_Post XC mc ms free) := vx_callBack cw.1 hM hp.1
  obtain ⟨⟨-, -, -, -, -, -, hcode, hini, hy, hlen, hl⟩, hstt⟩ := cw
  obtain ⟨hx, hb, hml, ho, -⟩ := S
  intro T hT X
  rcases vx_callS X hx (bytes := bytes) (maxL := maxL) (ret := ret) ho hl hstt hini hcode hy hK hg (hsize.trans hml.symm) (argsL := As) (rest := rest) (fun sig h => hn.trans (hlen sig h)) hstack hW (by rw [hb]; exact hdg)
    (fun vm₁ hW₁ => ⟨hf.1, hf.2, hp.2 (T.setVm vm₁) hT hW₁⟩) with ⟨v, vm₁, ⟨U', l2, c2, s2⟩, hW₁, X', ⟨g', mk, t, L, e1, e2, hq, h1, hL, h2, h3⟩, st⟩ | ⟨q, vm₁, ⟨U', l2, c2, s2⟩, hW₁, X', ⟨g', mk, t, L, E, ce, e1, e2, hq, hce, hcv, hcl, h1, hL, h2, h3⟩, st⟩
  · dsimp only [Pt.U, Pt.locs, Pt.cells, Pt.slots] at X' e1 e2 h1 h2 h3 st
    subst h1; subst h2; subst h3
    exact Or.inl ⟨v, (T.setVm vm₁).calling g' mk As.toArray, t, U', L, hT, X', hL, e1, e2, hq, st⟩
  · dsimp only [Pt.U, Pt.locs, Pt.cells, Pt.slots] at X' e1 e2 h1 h2 h3 st hcl
    subst h1; subst h2; subst h3
    exact Or.inr ⟨q, (T.setVm vm₁).calling g' mk As.toArray, t, U', L, E, ce, hT, X', hL, e1, e2, hq, hce, hcv, vx_cls hW₁ hcl, st⟩
end Runs
section Rows
variable {p : Program} {l : Launch} {e : Env} {R : Room} {s : State} {m : MethodId} {args : Array Value} {below : List Frame} {meth : Method} {c : Code} {H : Heap} {locs : List Loc} {cells slots : Nat} {Q : State → Prop}
variable {mc ms : Nat} {free : Addr → Prop} {A0 A1 : Nat → Prop} {H0 : Heap} {a : Array Value} {pc : Nat} {ls : Array Slot} {st0 rest : List Value}
theorem vx_keep {st₀ t T' : State} {L : List Loc} (h0 : st₀.heap = H) (e1 : T'.heap = t.heap) (hS : va_S A0 H0 H locs) (hA : ∀ q, q < H.size → A1 q → A0 q) (hf : ∀ q, free q → A0 q) (hL : ∀ q ∈ L, free q.base) (hF : va_F A1 st₀ t) :
    H.size ≤ T'.heap.size ∧ (∀ q : Nat, q < H.size → ¬ A1 q → T'.heap[q]? = H[q]?) ∧ va_S A0 H0 T'.heap (locs ++ L) := by
  obtain ⟨hz, hk⟩ := hF
  rw [h0] at hz hk
  exact ⟨by rw [e1]; exact hz, fun q h1 h2 => by rw [e1]; exact hk q h1 h2,
    ⟨Nat.le_trans hS.1 (by rw [e1]; exact hz), fun q h1 h2 => by rw [e1, hk q (Nat.lt_of_lt_of_le h1 hS.1) (fun z => h2 (hA q (Nat.lt_of_lt_of_le h1 hS.1) z))]; exact hS.2.1 q h1 h2, fun q hq => by
      rcases List.mem_append.mp hq with h | h
      · exact hS.2.2 q h
      · exact hf _ (hL q h)⟩⟩
theorem vx_calli {S SX : Type} {post : Int32 → S → Prop} {px : SX → Prop} {B : S → State → Prop} {BX : String → SX → State → Prop} {AX : Nat → Prop} (hr : vx_Run p l e R s m args below meth c H locs cells slots mc ms (F0 m pc ls st0) rest (va_Qi post B A1 a) (vx_X px BX AX) free) (hS : va_S A0 H0 H locs) (hA : ∀ q, q < H.size → A1 q → A0 q) (hf : ∀ q, free q → A0 q) (hAX : ∀ q, q < H.size → AX q → A0 q)
    (kx : ∀ (E : String) (ce : Cell) (q9 : Addr) (u : SX) (t : State) (H1 : Heap) (locs1 : List Loc), t.heap = H1 → s.vm.Alike t.vm → px u → BX E u t → H.size ≤ H1.size → (∀ q : Nat, q < H.size → ¬ AX q → H1[q]? = H[q]?) → va_S A0 H0 H1 locs1 → H1[q9]? = some ce → ce.vm = .none → s.vm.findClass E = some ce.cls → vx_W p l e R s m args below meth c H1 locs1 (cells + mc) (slots + ms) Q (F0 m pc ls rest) q9)
    (kk : ∀ (r : Int32) (u : S) (t : State) (H1 : Heap) (locs1 : List Loc), t.heap = H1 → s.vm.Alike t.vm → post r u → B u t → H.size ≤ H1.size → (∀ q : Nat, q < H.size → ¬ A1 q → H1[q]? = H[q]?) → va_S A0 H0 H1 locs1 → W p l e R s m args below meth c H1 locs1 (cells + mc) (slots + ms) Q (F0 m (pc + 3) ls (.int r :: rest))) : W p l e R s m args below meth c H locs cells slots Q (F0 m pc ls st0) := by
  intro T hT X
  rcases hr T hT X with ⟨v, st₀, t, T', L, h0, X', hL, e1, e2, ⟨⟨r, u, hv, hp, hb⟩, hF⟩, st⟩ | ⟨q, st₀, t, T', L, E, ce, h0, X', hL, e1, e2, ⟨u, hp, hb, hF⟩, hce, hcv, hcl, st⟩
  · cases hv
    obtain ⟨k1, k2, k3⟩ := vx_keep h0 e1 hS hA hf hL hF
    obtain ⟨t2, a1, b1⟩ := kk r u t T'.heap (locs ++ L) e1.symm (by rw [← e2]; exact X'.warmed.alike) hp hb k1 k2 k3 T' rfl X'
    exact ⟨t2, st t2 a1, b1⟩
  · obtain ⟨k1, k2, k3⟩ := vx_keep h0 e1 hS hAX hf hL hF
    obtain ⟨t2, a1, b1⟩ := kx E ce q u t T'.heap (locs ++ L) e1.symm (by rw [← e2]; exact X'.warmed.alike) hp hb k1 k2 k3 (by rw [e1]; exact hce) hcv hcl T' rfl X'
    exact ⟨t2, st.trans a1, b1⟩
theorem vx_calll {S SX : Type} {post : Int64 → S → Prop} {px : SX → Prop} {B : S → State → Prop} {BX : String → SX → State → Prop} {AX : Nat → Prop} (hr : vx_Run p l e R s m args below meth c H locs cells slots mc ms (F0 m pc ls st0) rest (va_Ql post B A1 a) (vx_X px BX AX) free) (hS : va_S A0 H0 H locs) (hA : ∀ q, q < H.size → A1 q → A0 q) (hf : ∀ q, free q → A0 q) (hAX : ∀ q, q < H.size → AX q → A0 q)
    (kx : ∀ (E : String) (ce : Cell) (q9 : Addr) (u : SX) (t : State) (H1 : Heap) (locs1 : List Loc), t.heap = H1 → s.vm.Alike t.vm → px u → BX E u t → H.size ≤ H1.size → (∀ q : Nat, q < H.size → ¬ AX q → H1[q]? = H[q]?) → va_S A0 H0 H1 locs1 → H1[q9]? = some ce → ce.vm = .none → s.vm.findClass E = some ce.cls → vx_W p l e R s m args below meth c H1 locs1 (cells + mc) (slots + ms) Q (F0 m pc ls rest) q9)
    (kk : ∀ (r : Int64) (u : S) (t : State) (H1 : Heap) (locs1 : List Loc), t.heap = H1 → s.vm.Alike t.vm → post r u → B u t → H.size ≤ H1.size → (∀ q : Nat, q < H.size → ¬ A1 q → H1[q]? = H[q]?) → va_S A0 H0 H1 locs1 → W p l e R s m args below meth c H1 locs1 (cells + mc) (slots + ms) Q (F0 m (pc + 3) ls (.long r :: rest))) : W p l e R s m args below meth c H locs cells slots Q (F0 m pc ls st0) := by
  intro T hT X
  rcases hr T hT X with ⟨v, st₀, t, T', L, h0, X', hL, e1, e2, ⟨⟨r, u, hv, hp, hb⟩, hF⟩, st⟩ | ⟨q, st₀, t, T', L, E, ce, h0, X', hL, e1, e2, ⟨u, hp, hb, hF⟩, hce, hcv, hcl, st⟩
  · cases hv
    obtain ⟨k1, k2, k3⟩ := vx_keep h0 e1 hS hA hf hL hF
    obtain ⟨t2, a1, b1⟩ := kk r u t T'.heap (locs ++ L) e1.symm (by rw [← e2]; exact X'.warmed.alike) hp hb k1 k2 k3 T' rfl X'
    exact ⟨t2, st t2 a1, b1⟩
  · obtain ⟨k1, k2, k3⟩ := vx_keep h0 e1 hS hAX hf hL hF
    obtain ⟨t2, a1, b1⟩ := kx E ce q u t T'.heap (locs ++ L) e1.symm (by rw [← e2]; exact X'.warmed.alike) hp hb k1 k2 k3 (by rw [e1]; exact hce) hcv hcl T' rfl X'
    exact ⟨t2, st.trans a1, b1⟩
theorem vx_callf {S SX : Type} {post : UInt32 → S → Prop} {px : SX → Prop} {B : S → State → Prop} {BX : String → SX → State → Prop} {AX : Nat → Prop} (hr : vx_Run p l e R s m args below meth c H locs cells slots mc ms (F0 m pc ls st0) rest (va_Qf post B A1 a) (vx_X px BX AX) free) (hS : va_S A0 H0 H locs) (hA : ∀ q, q < H.size → A1 q → A0 q) (hf : ∀ q, free q → A0 q) (hAX : ∀ q, q < H.size → AX q → A0 q)
    (kx : ∀ (E : String) (ce : Cell) (q9 : Addr) (u : SX) (t : State) (H1 : Heap) (locs1 : List Loc), t.heap = H1 → s.vm.Alike t.vm → px u → BX E u t → H.size ≤ H1.size → (∀ q : Nat, q < H.size → ¬ AX q → H1[q]? = H[q]?) → va_S A0 H0 H1 locs1 → H1[q9]? = some ce → ce.vm = .none → s.vm.findClass E = some ce.cls → vx_W p l e R s m args below meth c H1 locs1 (cells + mc) (slots + ms) Q (F0 m pc ls rest) q9)
    (kk : ∀ (r : UInt32) (u : S) (t : State) (H1 : Heap) (locs1 : List Loc), t.heap = H1 → s.vm.Alike t.vm → post r u → B u t → H.size ≤ H1.size → (∀ q : Nat, q < H.size → ¬ A1 q → H1[q]? = H[q]?) → va_S A0 H0 H1 locs1 → W p l e R s m args below meth c H1 locs1 (cells + mc) (slots + ms) Q (F0 m (pc + 3) ls (.float r :: rest))) : W p l e R s m args below meth c H locs cells slots Q (F0 m pc ls st0) := by
  intro T hT X
  rcases hr T hT X with ⟨v, st₀, t, T', L, h0, X', hL, e1, e2, ⟨⟨r, u, hv, hp, hb⟩, hF⟩, st⟩ | ⟨q, st₀, t, T', L, E, ce, h0, X', hL, e1, e2, ⟨u, hp, hb, hF⟩, hce, hcv, hcl, st⟩
  · cases hv
    obtain ⟨k1, k2, k3⟩ := vx_keep h0 e1 hS hA hf hL hF
    obtain ⟨t2, a1, b1⟩ := kk r u t T'.heap (locs ++ L) e1.symm (by rw [← e2]; exact X'.warmed.alike) hp hb k1 k2 k3 T' rfl X'
    exact ⟨t2, st t2 a1, b1⟩
  · obtain ⟨k1, k2, k3⟩ := vx_keep h0 e1 hS hAX hf hL hF
    obtain ⟨t2, a1, b1⟩ := kx E ce q u t T'.heap (locs ++ L) e1.symm (by rw [← e2]; exact X'.warmed.alike) hp hb k1 k2 k3 (by rw [e1]; exact hce) hcv hcl T' rfl X'
    exact ⟨t2, st.trans a1, b1⟩
theorem vx_calld {S SX : Type} {post : UInt64 → S → Prop} {px : SX → Prop} {B : S → State → Prop} {BX : String → SX → State → Prop} {AX : Nat → Prop} (hr : vx_Run p l e R s m args below meth c H locs cells slots mc ms (F0 m pc ls st0) rest (va_Qd post B A1 a) (vx_X px BX AX) free) (hS : va_S A0 H0 H locs) (hA : ∀ q, q < H.size → A1 q → A0 q) (hf : ∀ q, free q → A0 q) (hAX : ∀ q, q < H.size → AX q → A0 q)
    (kx : ∀ (E : String) (ce : Cell) (q9 : Addr) (u : SX) (t : State) (H1 : Heap) (locs1 : List Loc), t.heap = H1 → s.vm.Alike t.vm → px u → BX E u t → H.size ≤ H1.size → (∀ q : Nat, q < H.size → ¬ AX q → H1[q]? = H[q]?) → va_S A0 H0 H1 locs1 → H1[q9]? = some ce → ce.vm = .none → s.vm.findClass E = some ce.cls → vx_W p l e R s m args below meth c H1 locs1 (cells + mc) (slots + ms) Q (F0 m pc ls rest) q9)
    (kk : ∀ (r : UInt64) (u : S) (t : State) (H1 : Heap) (locs1 : List Loc), t.heap = H1 → s.vm.Alike t.vm → post r u → B u t → H.size ≤ H1.size → (∀ q : Nat, q < H.size → ¬ A1 q → H1[q]? = H[q]?) → va_S A0 H0 H1 locs1 → W p l e R s m args below meth c H1 locs1 (cells + mc) (slots + ms) Q (F0 m (pc + 3) ls (.double r :: rest))) : W p l e R s m args below meth c H locs cells slots Q (F0 m pc ls st0) := by
  intro T hT X
  rcases hr T hT X with ⟨v, st₀, t, T', L, h0, X', hL, e1, e2, ⟨⟨r, u, hv, hp, hb⟩, hF⟩, st⟩ | ⟨q, st₀, t, T', L, E, ce, h0, X', hL, e1, e2, ⟨u, hp, hb, hF⟩, hce, hcv, hcl, st⟩
  · cases hv
    obtain ⟨k1, k2, k3⟩ := vx_keep h0 e1 hS hA hf hL hF
    obtain ⟨t2, a1, b1⟩ := kk r u t T'.heap (locs ++ L) e1.symm (by rw [← e2]; exact X'.warmed.alike) hp hb k1 k2 k3 T' rfl X'
    exact ⟨t2, st t2 a1, b1⟩
  · obtain ⟨k1, k2, k3⟩ := vx_keep h0 e1 hS hAX hf hL hF
    obtain ⟨t2, a1, b1⟩ := kx E ce q u t T'.heap (locs ++ L) e1.symm (by rw [← e2]; exact X'.warmed.alike) hp hb k1 k2 k3 (by rw [e1]; exact hce) hcv hcl T' rfl X'
    exact ⟨t2, st.trans a1, b1⟩
theorem vx_callv {S SX : Type} {post : S → Prop} {px : SX → Prop} {B : S → State → Prop} {BX : String → SX → State → Prop} {AX : Nat → Prop} (hr : vx_Run p l e R s m args below meth c H locs cells slots mc ms (F0 m pc ls st0) rest (va_Qv post B A1 a) (vx_X px BX AX) free) (hS : va_S A0 H0 H locs) (hA : ∀ q, q < H.size → A1 q → A0 q) (hf : ∀ q, free q → A0 q) (hAX : ∀ q, q < H.size → AX q → A0 q)
    (kx : ∀ (E : String) (ce : Cell) (q9 : Addr) (u : SX) (t : State) (H1 : Heap) (locs1 : List Loc), t.heap = H1 → s.vm.Alike t.vm → px u → BX E u t → H.size ≤ H1.size → (∀ q : Nat, q < H.size → ¬ AX q → H1[q]? = H[q]?) → va_S A0 H0 H1 locs1 → H1[q9]? = some ce → ce.vm = .none → s.vm.findClass E = some ce.cls → vx_W p l e R s m args below meth c H1 locs1 (cells + mc) (slots + ms) Q (F0 m pc ls rest) q9)
    (kk : ∀ (u : S) (t : State) (H1 : Heap) (locs1 : List Loc), t.heap = H1 → s.vm.Alike t.vm → post u → B u t → H.size ≤ H1.size → (∀ q : Nat, q < H.size → ¬ A1 q → H1[q]? = H[q]?) → va_S A0 H0 H1 locs1 → W p l e R s m args below meth c H1 locs1 (cells + mc) (slots + ms) Q (F0 m (pc + 3) ls (rest))) : W p l e R s m args below meth c H locs cells slots Q (F0 m pc ls st0) := by
  intro T hT X
  rcases hr T hT X with ⟨v, st₀, t, T', L, h0, X', hL, e1, e2, ⟨⟨u, hv, hp, hb⟩, hF⟩, st⟩ | ⟨q, st₀, t, T', L, E, ce, h0, X', hL, e1, e2, ⟨u, hp, hb, hF⟩, hce, hcv, hcl, st⟩
  · cases hv
    obtain ⟨k1, k2, k3⟩ := vx_keep h0 e1 hS hA hf hL hF
    obtain ⟨t2, a1, b1⟩ := kk u t T'.heap (locs ++ L) e1.symm (by rw [← e2]; exact X'.warmed.alike) hp hb k1 k2 k3 T' rfl X'
    exact ⟨t2, st t2 a1, b1⟩
  · obtain ⟨k1, k2, k3⟩ := vx_keep h0 e1 hS hAX hf hL hF
    obtain ⟨t2, a1, b1⟩ := kx E ce q u t T'.heap (locs ++ L) e1.symm (by rw [← e2]; exact X'.warmed.alike) hp hb k1 k2 k3 (by rw [e1]; exact hce) hcv hcl T' rfl X'
    exact ⟨t2, st.trans a1, b1⟩
/-- caught by the row x of this method's table; the rows ahead don't take it -/
theorem vx_catch {own name : String} {E : String} {ce : Cell} {q : Addr} (hown : s.vm.findClass own = some m.cls) (pre : List ExceptionTableEntry) (x : ExceptionTableEntry) (suf : List ExceptionTableEntry) (hsplit : c.exceptionTable.toList = pre ++ x :: suf)
    (hpass : ∀ z ∈ pre, covers z pc = false ∨ (z.catchType ≠ 0 ∧ ∃ nm : String, (Cond.classLink own z.catchType nm).before args s = true ∧ va_Nc E nm s)) (hx : covers x pc = true) (h0 : x.catchType ≠ 0)
    (hlink : (Cond.classLink own x.catchType name).before args s = true) (hcast : (Cond.castable E name).before args s = true) (hcell : H[q]? = some ce) (hv : ce.vm = .none) (hcl : s.vm.findClass E = some ce.cls)
    (kk : W p l e R s m args below meth c H locs cells slots Q (F0 m x.handlerPc ls [.ref q])) : vx_W p l e R s m args below meth c H locs cells slots Q (F0 m pc ls rest) q := by
  intro T hT X
  have hpl : e.platform.magicAccessors = ({} : Platform).magicAccessors := by rw [X.admits.platform]
  obtain ⟨c3, c4, hc3, hc4, hasg⟩ := Cond.castable_spec hcast
  cases Option.some.inj (hc3.symm.trans hcl)
  obtain ⟨c5, hc5, hcl5⟩ := Cond.classLink_spec hown hlink e.platform hpl
  cases Option.some.inj (hc4.symm.trans hc5)
  obtain ⟨vm', X', st⟩ := X.thenCaughtThrough q (g := F0 m pc ls rest) rfl (Steps.refl _) (by rw [hT]; exact hcell) (by rw [hv]; rfl) (by obtain ⟨k9, h9, -⟩ := Vm.findClass_spec hcl; exact ⟨k9, h9⟩) pre x suf hsplit
    (fun z hz => by
      rcases hpass z hz with h | ⟨hz0, nm, hl1, hn1⟩
      · exact Or.inl h
      · obtain ⟨c6, hc6, hcl6⟩ := Cond.classLink_spec hown hl1 e.platform hpl
        obtain ⟨a8, b8, h1, h2, h3⟩ := hn1
        cases Option.some.inj (h1.symm.trans hcl)
        cases Option.some.inj (h2.symm.trans hc6)
        exact Or.inr ⟨hz0, _, hcl6, h3⟩) hx (Or.inr ⟨h0, c4, hcl5, hasg⟩)
  obtain ⟨t, a1, b1⟩ := kk (T.setVm vm') hT X'
  exact ⟨t, st.trans a1, b1⟩
end Rows
section Ends
variable {p : Program} {l : Launch} {e : Env} {R : Room} {s : State} {m : MethodId} {args : Array Value} {below : List Frame} {meth : Method} {c : Code} {H : Heap} {locs : List Loc} {cells slots : Nat} {Q : State → Prop}
variable {mc ms : Nat} {free : Addr → Prop} {A0 A1 : Nat → Prop} {H0 : Heap} {a : Array Value} {ls : Array Slot} {st0 rest : List Value}
variable {Qc : Array Value → State → Outcome → State → Prop} {XC : String → State → State → Prop}
/-- what a body that may throw owes at its end -/
def vx_MQ (below : List Frame) (Qc : Array Value → State → Outcome → State → Prop) (XC : String → State → State → Prop) (a : Array Value) (s : State) (mc ms : Nat) (free : Addr → Prop) : State → Prop := fun t =>
  ∃ o, t.status = .running ∧ Ended t below o ∧ vx_Q Qc XC mc ms free a s o t
theorem vx_ret {g : JFrame} {mc ms : Nat} (k : W p l e R s m args below meth c H locs cells slots (MQ below Qc args s mc ms free) g) : W p l e R s m args below meth c H locs cells slots (vx_MQ below Qc XC args s mc ms free) g := by
  intro T hT X
  obtain ⟨t, a1, o, b1, b2, b3, b4⟩ := k T hT X
  exact ⟨t, a1, o, b1, b2, Or.inl ⟨b3, b4⟩⟩
/-- not caught here: it goes on to the caller -/
theorem vx_widen {g : JFrame} {q : Addr} {k n : Nat} (h1 : cells ≤ k) (h2 : slots ≤ n) (kk : vx_W p l e R s m args below meth c H locs k n Q g q) : vx_W p l e R s m args below meth c H locs cells slots Q g q := fun T hT X => kk T hT (stand_widen X h1 h2)
theorem vx_out {pc : Nat} {E : String} {ce : Cell} {q : Addr} {mc ms : Nat} (hout : ∀ x ∈ c.exceptionTable.toList, covers x pc = false) (hlocks : meth.locks = false) (hcell : H[q]? = some ce) (hv : ce.vm = .none) (hcl : s.vm.findClass E = some ce.cls)
    (hx : ∀ t : State, t.heap = H → s.vm.Alike t.vm → XC E s t) (hf : ∀ z ∈ locs, free z.base) (hc : cells ≤ mc) (hs : slots ≤ ms) :
    vx_W p l e R s m args below meth c H locs cells slots (vx_MQ below Qc XC args s mc ms free) (F0 m pc ls rest) q := by
  intro T hT X
  obtain ⟨st1, hrun, hend, hW, hsm⟩ := X.leaveThrown q (g := F0 m pc ls rest) rfl rfl rfl hout hlocks
  have hcell9 : (T.setFrames (.throwing q :: below)).heap[q]? = some ce := by
    show T.heap[q]? = some ce
    rw [hT]; exact hcell
  exact ⟨_, st1, .threw q, hrun, hend, Or.inr ⟨q, rfl, E, ce, locs, hx _ hT hW.alike, hcell9, hv, hcl, hW, hsm.mono hc hs, hf⟩⟩
theorem vx_frame {U : State} {k n : Nat} (h : s.sameButNew ({ U with vm := s.vm } : State) locs k n) : s.heap.size ≤ U.heap.size ∧ ∀ q : Nat, q < s.heap.size → (∀ z ∈ locs, z.base ≠ q) → U.heap[q]? = s.heap[q]? := by
  obtain ⟨-, h2, -, -, -, h6⟩ := h
  refine ⟨h2, fun q hq hz => ?_⟩
  obtain ⟨c9, e1, e2, e3, e4⟩ := h6 q _ (Array.getElem?_eq_getElem hq)
  have hs : c9.slots = (s.heap[q]).slots := Array.ext_getElem? fun i => e4 i fun hm => hz _ hm rfl
  have h9 : c9 = s.heap[q] := by
    rw [hs] at e2
    exact e2
  have e5 : U.heap[q]? = some c9 := e1
  rw [e5, h9, Array.getElem?_eq_getElem hq]
/-- the words of a throw but the four that speak of the heap -/
def vx_no (w : Cond) : Bool := decide (w ≠ .isRef (.static Bundle.tN "UNASSIGNED_STACK" Bundle.steD)) && decide (w ≠ .isRef (.static Bundle.tN "SUPPRESSED_SENTINEL" Bundle.listD)) && decide (w ≠ .laysStatic Bundle.tN "UNASSIGNED_STACK" Bundle.steD) && decide (w ≠ .laysStatic Bundle.tN "SUPPRESSED_SENTINEL" Bundle.listD)
def vx_at0 (own : String) (ic : Nat) (X : String) (names : List String) : List Cond := (Bundle.ownAtoms0 own ic X names).filter vx_no
def vx_atS (own : String) (ic : Nat) (X : String) (names : List String) : List Cond := (Bundle.ownAtoms own ic X names).filter vx_no
/-- a word that the tables alone decide, or a good one -/
def vx_ot (w : Cond) : Bool := w.onTables || goodWord w
theorem vx_ot_at {args a' : Array Value} {s U : State} {w : Cond} (hW : s.WarmedH U.vm) (hvm : s.vm = U.vm) (hg : vx_ot w = true) (h : w.before args s = true) : w.before a' U = true := by
  simp only [vx_ot, Bool.or_eq_true] at hg
  rcases hg with hg | hg
  · exact va_tabs hg hvm h
  · exact word_at hW (good_of_word hg) h
/-- a list's words: the good ones out of the method's own list, the others by premises of their own -/
theorem vx_hat {args : Array Value} {s : State} {L B : List Cond} (h1 : ∀ w ∈ L.filter goodWord, w.before args s = true) (h2 : ∀ w ∈ L.filter (fun w => !goodWord w), w ∈ B) (h3 : ∀ w ∈ B, w.before args s = true) : ∀ w ∈ L, w.before args s = true := by
  intro w hw
  by_cases g : goodWord w = true
  · exact h1 w (List.mem_filter.mpr ⟨hw, g⟩)
  · refine h3 w (h2 w (List.mem_filter.mpr ⟨hw, ?_⟩))
    show (!goodWord w) = true
    cases hgw : goodWord w
    · rfl
    · exact absurd hgw g
theorem vx_c {args : Array Value} {s : State} {w : Cond} {B : List Cond} (h : w.before args s = true) (t : ∀ w ∈ B, w.before args s = true) : ∀ w' ∈ w :: B, w'.before args s = true := fun w' h' => (List.mem_cons.mp h').elim (fun e => by rw [e]; exact h) (t w')
theorem vx_n {args : Array Value} {s : State} : ∀ w ∈ ([] : List Cond), w.before args s = true := fun _ h => nomatch h
theorem vx_own {args : Array Value} {s : State} {L : List Cond} (h1 : ∀ w ∈ L.filter vx_no, w.before args s = true)
    (hU : (Cond.isRef (.static Bundle.tN "UNASSIGNED_STACK" Bundle.steD)).before args s = true) (hN : (Cond.isRef (.static Bundle.tN "SUPPRESSED_SENTINEL" Bundle.listD)).before args s = true)
    (lU : (Cond.laysStatic Bundle.tN "UNASSIGNED_STACK" Bundle.steD).before args s = true) (lN : (Cond.laysStatic Bundle.tN "SUPPRESSED_SENTINEL" Bundle.listD).before args s = true) : ∀ w ∈ L, w.before args s = true := by
  intro w hw
  by_cases e1 : w = .isRef (.static Bundle.tN "UNASSIGNED_STACK" Bundle.steD)
  · rw [e1]; exact hU
  · by_cases e2 : w = .isRef (.static Bundle.tN "SUPPRESSED_SENTINEL" Bundle.listD)
    · rw [e2]; exact hN
    · by_cases e3 : w = .laysStatic Bundle.tN "UNASSIGNED_STACK" Bundle.steD
      · rw [e3]; exact lU
      · by_cases e4 : w = .laysStatic Bundle.tN "SUPPRESSED_SENTINEL" Bundle.listD
        · rw [e4]; exact lN
        · exact h1 w (List.mem_filter.mpr ⟨hw, by unfold vx_no; rw [decide_eq_true e1, decide_eq_true e2, decide_eq_true e3, decide_eq_true e4]; rfl⟩)
/-- where a static field lies, its class's statics cell in H -/
def vx_L (C n d : String) (A : Nat → Prop) (U : State) (H : Heap) : Prop := ∃ (c : ClassId) (k : Class) (i : Nat) (f : Field) (a : Nat) (cell : Cell), U.vm.findClass C = some c ∧ U.fieldFound? C n d = some (c, k, i, f) ∧ f.isStatic = true ∧ k.statics = some a ∧ H[a]? = some cell ∧ cell.vm.isStatics = true ∧ cell.cls = c ∧ f.slot < cell.slots.size ∧ k.staticTypes[f.slot]? = some f.type ∧ ¬ A a
theorem vx_L.moved {C n d : String} {A : Nat → Prop} {u U : State} {H : Heap} (hvm : u.vm.Alike U.vm) (h : vx_L C n d A u H) : vx_L C n d A U H := by
  obtain ⟨c, k, i, f, a, cell, h1, h2, h3, h4, h5, h6, h7, h8, h9, h10⟩ := h
  obtain ⟨k', hi', he⟩ := State.fieldFound?_setVm hvm h2
  exact ⟨c, k', i, f, a, cell, by rw [hvm.findClass]; exact h1, hi', h3, by rw [he]; exact h4, h5, h6, h7, h8, by rw [he]; exact h9, h10⟩
theorem vx_L.kept {C n d : String} {A : Nat → Prop} {U : State} {H H1 : Heap} (h : vx_L C n d A U H) (hq : ∀ a : Nat, a < H.size → ¬ A a → H1[a]? = H[a]?) : vx_L C n d A U H1 := by
  obtain ⟨c, k, i, f, a, cell, h1, h2, h3, h4, h5, h6, h7, h8, h9, h10⟩ := h
  exact ⟨c, k, i, f, a, cell, h1, h2, h3, h4, by rw [hq a (Array.getElem?_eq_some_iff.mp h5).1 h10]; exact h5, h6, h7, h8, h9, h10⟩
theorem vx_L.narrow {C n d : String} {A B : Nat → Prop} {U : State} {H : Heap} (h : vx_L C n d A U H) (hAB : ∀ q, B q → A q) : vx_L C n d B U H := by
  obtain ⟨c, k, i, f, a, cell, h1, h2, h3, h4, h5, h6, h7, h8, h9, h10⟩ := h
  exact ⟨c, k, i, f, a, cell, h1, h2, h3, h4, h5, h6, h7, h8, h9, fun z => h10 (hAB _ z)⟩
theorem vx_L.word {C n d : String} {A : Nat → Prop} {s : State} {args : Array Value} (h : vx_L C n d A s s.heap) : (Cond.laysStatic C n d).before args s = true := by
  obtain ⟨c, k, i, f, a, cell, h1, h2, h3, h4, h5, h6, h7, h8, h9, -⟩ := h
  show (Cond.laysStatic C n d).holds args s none s [] = true
  exact Cond.laysStatic_of h1 h2 h3 h4 h5 h6 h7 h8 h9
/-- .. and what it holds: null or some reference -/
def vx_Zq (C n d : String) (A : Nat → Prop) (U : State) (H : Heap) : Prop := va_Zq C n d A U H ∧ vx_L C n d A U H
theorem vx_Zq.moved {C n d : String} {A : Nat → Prop} {u U : State} {H : Heap} (hvm : u.vm.Alike U.vm) (h : vx_Zq C n d A u H) : vx_Zq C n d A U H := ⟨va_Zq.moved hvm h.1, vx_L.moved hvm h.2⟩
theorem vx_Zq.kept {C n d : String} {A : Nat → Prop} {U : State} {H H1 : Heap} (h : vx_Zq C n d A U H) (hq : ∀ a : Nat, a < H.size → ¬ A a → H1[a]? = H[a]?) : vx_Zq C n d A U H1 := ⟨va_Zq.kept h.1 hq, vx_L.kept h.2 hq⟩
theorem vx_Zq.narrow {C n d : String} {A B : Nat → Prop} {U : State} {H : Heap} (h : vx_Zq C n d A U H) (hAB : ∀ q, B q → A q) : vx_Zq C n d B U H := ⟨va_Zq.narrow h.1 hAB, vx_L.narrow h.2 hAB⟩
theorem vx_Zqof {args : Array Value} {s : State} {C n d : String} {A : Nat → Prop} (hl : (Cond.laysStatic C n d).before args s = true) (hini : (Cond.initialized C).before args s = true) (h : (Cond.isRef (.static C n d)).before args s = true) (hA : ∀ a : Nat, a < s.heap.size → ¬ A a) : vx_Zq C n d A s s.heap := by
  refine ⟨va_Zqof hl hini h hA, ?_⟩
  obtain ⟨c, k, i, f, a, cell, h1, h2, h3, h4, h5, h6, h7, h8, h9⟩ := Cond.laysStatic_spec hl
  exact ⟨c, k, i, f, a, cell, h1, h2, h3, h4, h5, h6, h7, h8, h9, hA a (Array.getElem?_eq_some_iff.mp h5).1⟩
theorem vx_isRef {C n d : String} {v : Value} {A : Nat → Prop} {s : State} {args : Array Value} (h : va_Z C n d v A s s.heap) (hv : v.isRef = true) : (Cond.isRef (.static C n d)).before args s = true := by
  obtain ⟨cf, kf, fi, f, a, cell, h1, h2, h3, h4, h5, h6, h7, -⟩ := h
  have he : (Term.static C n d).eval args s none [] s = some v := by
    simp [Term.eval, State.fieldNamed?, h1, h2, h4, h5, h6, h7]
  simp only [Cond.before, Cond.holds, Cond.value, he]
  cases v <;> simp_all [Value.isRef]
theorem vx_isRefq {C n d : String} {A : Nat → Prop} {s : State} {args : Array Value} (h : va_Zq C n d A s s.heap) : (Cond.isRef (.static C n d)).before args s = true := by
  rcases h with h | ⟨t, h⟩
  · exact vx_isRef h rfl
  · exact vx_isRef h rfl
/-- the same frame, seen from here: as if the method were called anew in this heap -/
theorem vx_rebase {T : State} (X : Stand p l e R s m args below meth c T locs cells slots) {R' : Room} (hf : R'.frames ≤ R.frames) (hl : R'.locals ≤ R.locals) (hc : cells + R'.cells ≤ R.cells) (hs : slots + R'.slots ≤ R.slots) :
    Stand p l e R' ((T.setVm s.vm).setFrames (.invoking m args :: below)) m args below meth c T [] 0 0 := by
  have htop : (T.setVm s.vm).topJava?.isSome := X.here.top
  have hF : ((T.setVm s.vm).setFrames (.invoking m args :: below)).frames = .invoking m args :: below := State.frames_setFrames _ (State.cur_lt_of_top htop)
  obtain ⟨g₀, hg0⟩ := Option.isSome_iff_exists.mp htop
  obtain ⟨r, hr⟩ := State.topJava?_eq_some.mp hg0
  have hl9 : e.platform.stackLimits (T.setVm s.vm).me = e.platform.stackLimits s.me := X.limits
  have hb9 : (T.setVm s.vm).me.stackBytes = s.me.stackBytes := X.bytes
  refine ⟨X.admits, X.cas, X.clock, hF, ?_, X.hears, X.method, X.code, X.here, X.tail, X.warmed, ?_, ?_, ?_⟩
  · have h := X.room
    have hU : ((T.setVm s.vm).setFrames (.invoking m args :: below)).localsInUse = s.localsInUse := by
      rw [State.localsInUse_invoking hF (meth := meth) (c := c) X.method X.code, State.localsInUse_invoking X.frames X.method X.code]
    simp only [State.hasRoom, Bool.and_eq_true, decide_eq_true_eq] at h ⊢
    obtain ⟨⟨⟨⟨h1, h2, h3, h4, h5, h6⟩, h7⟩, h8⟩, h9⟩ := h
    rw [X.frames, List.length_cons] at h2 h3
    have q1 := X.heapSize
    have q2 := X.used
    simp only [hF, hU, List.length_cons, State.stackLimits_setFrames, State.stackBytes_setFrames, hl9, hb9]
    refine ⟨⟨⟨⟨by omega, by omega, by omega, by omega, by omega, h6⟩, ?_⟩, ?_⟩, X.book⟩
    · show T.heap.size + R'.cells ≤ e.platform.maxCells
      omega
    · show T.slotsUsed + R'.slots ≤ e.platform.maxSlots
      omega
  · rw [State.stackLimits_setFrames]; rfl
  · rw [State.stackBytes_setFrames]; rfl
  · refine ⟨?_, Nat.le_refl _, Nat.le_refl _, ?_, ?_, fun a c9 h9 => ⟨c9, h9, rfl, rfl, fun _ _ => rfl⟩⟩
    · obtain ⟨t, ht, -⟩ := State.frames_cons hr
      show T.setVm s.vm = { ((T.setVm s.vm).setFrames (.invoking m args :: below)).setFrames (T.setVm s.vm).frames with heap := T.heap, slotsUsed := T.slotsUsed }
      rw [State.setFrames_setFrames, State.setFrames_self ht]
      rfl
    · show T.slotsUsed = T.slotsUsed + ((T.heap.toList.drop T.heap.size).map (·.slots.size)).sum
      rw [List.drop_eq_nil_of_le (Nat.le_of_eq Array.length_toList)]
      rfl
    · show ((T.heap.toList.drop T.heap.size).map (·.slots.size)).sum ≤ 0
      rw [List.drop_eq_nil_of_le (Nat.le_of_eq Array.length_toList)]
      exact Nat.le_refl _
/-- 'throw new E()': new; dup; invokespecial; athrow -/
theorem vx_throw0 {cc : ByteArray} {pc : Nat} (hexec : p.tables.exec = Jvm.exec) (hb : c.code = cc) (hl : l.stackTraces = false) {own cls : String} {names : List String} {ik ic mc ms : Nat} {A : Nat → Prop}
    (hown : s.vm.findClass own = some m.cls) (hcls : Bundle.fit cls = true) (hnames : ∀ n ∈ names, Bundle.fit n = true)
    (hk : (Cond.classLink own ik cls).before args s = true) (hini : (Cond.initialized cls).before args s = true) (hat : ∀ w ∈ vx_at0 own ic cls names, w.before args s = true)
    (hgood : ∀ w ∈ Cond.classLink own ik cls :: Cond.initialized cls :: vx_at0 own ic cls names, vx_ot w = true)
    (hU : vx_Zq Bundle.tN "UNASSIGNED_STACK" Bundle.steD A s s.heap) (hN : vx_Zq Bundle.tN "SUPPRESSED_SENTINEL" Bundle.listD A s s.heap) (hS : va_S A s.heap H locs) (hsize : ls.size = c.maxLocals)
    (d0 : decode cc pc = .ok (.new ik, 3)) (d3 : decode cc (pc + 3) = .ok (.dup, 1)) (d4 : decode cc (pc + 4) = .ok (.invokespecial ic, 3)) (d7 : decode cc (pc + 7) = .ok (.athrow, 1))
    (hout : ∀ x ∈ c.exceptionTable.toList, covers x (pc + 7) = false)
    (hRframes : names.length + 3 < R.frames) (hRlocals : (rest.map fun v => v.category).sum + (13 * (names.length + 1) + 42) ≤ R.locals) (hRcells : cells + 1 ≤ R.cells) (hRslots : slots + 6 ≤ R.slots) (hlocks : meth.locks = false)
    (hx : ∀ t : State, s.vm.Alike t.vm → H.size ≤ t.heap.size → (∀ q : Nat, q < H.size → t.heap[q]? = H[q]?) → XC cls s t)
    (hf : ∀ z ∈ locs, free z.base) (hc : cells + 1 ≤ mc) (hs : slots + 6 ≤ ms) :
    W p l e R s m args below meth c H locs cells slots (vx_MQ below Qc XC args s mc ms free) (F0 m pc ls rest) := by
  intro T hT X
  have htr : e.platform.stackTraces = false := (show e.platform.stackTraces = l.stackTraces by rw [X.admits.platform]).trans hl
  have Y := vx_rebase X (R' := { frames := R.frames, locals := R.locals, cells := 1, slots := 6 }) (Nat.le_refl _) (Nat.le_refl _) hRcells hRslots
  obtain ⟨s', hA⟩ : ∃ z, z = (T.setVm s.vm).setFrames (.invoking m args :: below) := ⟨_, rfl⟩
  rw [← hA] at Y
  have hvm : s'.vm = s.vm := by rw [hA]; rfl
  have hhp : s'.heap = H := by rw [hA]; exact hT
  have hW0 : s.WarmedH s'.vm := by rw [hvm]; exact State.WarmedH.refl s
  have hat' : ∀ w ∈ vx_at0 own ic cls names, w.before args s' = true := fun w hw => vx_ot_at hW0 hvm.symm (hgood w (List.mem_cons_of_mem _ (List.mem_cons_of_mem _ hw))) (hat w hw)
  have hk' : (Cond.classLink own ik cls).before args s' = true := vx_ot_at hW0 hvm.symm (hgood _ List.mem_cons_self) hk
  have hini' : (Cond.initialized cls).before args s' = true := vx_ot_at hW0 hvm.symm (hgood _ (List.mem_cons_of_mem _ List.mem_cons_self)) hini
  have hU' : vx_Zq Bundle.tN "UNASSIGNED_STACK" Bundle.steD A s' s'.heap := by rw [hhp]; exact vx_Zq.moved hW0.alike (hU.kept hS.2.1)
  have hN' : vx_Zq Bundle.tN "SUPPRESSED_SENTINEL" Bundle.listD A s' s'.heap := by rw [hhp]; exact vx_Zq.moved hW0.alike (hN.kept hS.2.1)
  have h : ∀ w ∈ Bundle.ownAtoms0 own ic cls names, w.before args s' = true := vx_own hat' (vx_isRefq hU'.1) (vx_isRefq hN'.1) hU'.2.word hN'.2.word
  have hown' : s'.vm.findClass own = some m.cls := by rw [hvm]; exact hown
  have hins : (Cond.instantiable cls 6).before args s' = true := h _ (by simp [Bundle.ownAtoms0])
  obtain ⟨vm₁, cX, kX, hfX, hkX, -, -, X₁, st1⟩ := Y.newCold hexec (own := own) (C := cls) (index := ik) (n := 6) hown' hk' hins hini'
    (g := F0 m pc ls rest) rfl (by rw [hb]; exact d0) (Nat.le_refl _) (Nat.le_refl _)
  generalize hT1 : (T.setVm vm₁).pushCell { cls := cX, slots := kX.instanceTypes.map defaultValue, vm := .none } = T1 at X₁ st1
  have hcat : (Value.ref T.heap.size).category = 1 := rfl
  have hcellA : T1.heap[T.heap.size]? = some (freshCell cX kX) := by rw [← hT1]; exact State.heap_pushCell_size _ _
  have d3' : decode c.code (pc + 3) = .ok (.dup, 1) := by rw [hb]; exact d3
  obtain ⟨U, hsteps, hrun, hend, hW, hsame, ce, hce, hO⟩ := X₁.ctorThrow0 hexec htr (own := own) (cls := cls) (names := names) (ic := ic) hown' hcls hnames h (fun x hx => nomatch hx) hfX hkX hcellA (by rw [hhp, hT]; exact Nat.le_refl _)
    (g := { method := m, pc := pc + 4, locals := ls, stack := .ref T.heap.size :: .ref T.heap.size :: rest, locked := none }) rfl hsize rfl rfl (rest := rest) rfl
    (by rw [hb]; exact d4) (by rw [hb]; exact d7) hout hRframes (by simp only [List.map_cons, List.sum_cons, hcat]; omega) hlocks
  obtain ⟨f1, f2⟩ := vx_frame hsame
  rw [hhp] at f1 f2
  have hWs : s.WarmedH U.vm := State.WarmedH.trans hW0 hW
  have hcl : s.vm.findClass cls = some ce.cls := by
    have h9 := hO.cls
    rw [hvm] at h9
    exact h9
  have hall : s.sameButNew ({ U with vm := s.vm } : State) locs mc ms := by
    subst hA
    obtain ⟨e1, e2⟩ := hsame
    rw [State.setFrames_setFrames] at e1
    have h2 : (T.setVm s.vm).sameButNew ({ U with vm := s.vm } : State) [] (0 + 1) (0 + 6) := ⟨e1, e2⟩
    have h3 := X.same.trans h2
    rw [List.append_nil] at h3
    exact h3.mono hc hs
  refine ⟨U, ?_, .threw T.heap.size, hrun, hend, Or.inr ⟨T.heap.size, rfl, cls, ce, locs, hx U hWs.alike f1 (fun q hq => f2 q hq (fun z hz => nomatch hz)), hce, hO.vm, hcl, hWs, hall, hf⟩⟩
  refine st1 _ ?_
  show Steps p.tables e below (T1.setTop { method := m, pc := pc + 3, locals := ls, stack := .ref T.heap.size :: rest, locked := none }) _
  jvm_step X₁.here [X₁.here.top, hexec, d3', Value.category]
  exact hsteps
/-- 'throw new E("text")': new; dup; ldc; invokespecial; athrow -/
theorem vx_throwS {cc : ByteArray} {pc : Nat} (hexec : p.tables.exec = Jvm.exec) (hb : c.code = cc) (hl : l.stackTraces = false) {own cls text : String} {names : List String} {ik is ic mc ms sa : Nat} {A : Nat → Prop}
    (hown : s.vm.findClass own = some m.cls) (hcls : Bundle.fit cls = true) (hnames : ∀ n ∈ names, Bundle.fit n = true)
    (hk : (Cond.classLink own ik cls).before args s = true) (hini : (Cond.initialized cls).before args s = true) (hstr : vk_R own is text sa s) (hat : ∀ w ∈ vx_atS own ic cls names, w.before args s = true)
    (hgood : ∀ w ∈ Cond.classLink own ik cls :: Cond.initialized cls :: vx_atS own ic cls names, vx_ot w = true)
    (hU : vx_Zq Bundle.tN "UNASSIGNED_STACK" Bundle.steD A s s.heap) (hN : vx_Zq Bundle.tN "SUPPRESSED_SENTINEL" Bundle.listD A s s.heap) (hS : va_S A s.heap H locs) (hsize : ls.size = c.maxLocals)
    (d0 : decode cc pc = .ok (.new ik, 3)) (d3 : decode cc (pc + 3) = .ok (.dup, 1)) (d4 : decode cc (pc + 4) = .ok (.ldc is, 2)) (d6 : decode cc (pc + 6) = .ok (.invokespecial ic, 3)) (d9 : decode cc (pc + 9) = .ok (.athrow, 1))
    (hout : ∀ x ∈ c.exceptionTable.toList, covers x (pc + 9) = false)
    (hRframes : names.length + 3 < R.frames) (hRlocals : (rest.map fun v => v.category).sum + (13 * (names.length + 1) + 43) ≤ R.locals) (hRcells : cells + 1 ≤ R.cells) (hRslots : slots + 6 ≤ R.slots) (hlocks : meth.locks = false)
    (hx : ∀ t : State, s.vm.Alike t.vm → H.size ≤ t.heap.size → (∀ q : Nat, q < H.size → t.heap[q]? = H[q]?) → XC cls s t)
    (hf : ∀ z ∈ locs, free z.base) (hc : cells + 1 ≤ mc) (hs : slots + 6 ≤ ms) :
    W p l e R s m args below meth c H locs cells slots (vx_MQ below Qc XC args s mc ms free) (F0 m pc ls rest) := by
  intro T hT X
  have htr : e.platform.stackTraces = false := (show e.platform.stackTraces = l.stackTraces by rw [X.admits.platform]).trans hl
  have Y := vx_rebase X (R' := { frames := R.frames, locals := R.locals, cells := 1, slots := 6 }) (Nat.le_refl _) (Nat.le_refl _) hRcells hRslots
  obtain ⟨s', hA⟩ : ∃ z, z = (T.setVm s.vm).setFrames (.invoking m args :: below) := ⟨_, rfl⟩
  rw [← hA] at Y
  have hvm : s'.vm = s.vm := by rw [hA]; rfl
  have hhp : s'.heap = H := by rw [hA]; exact hT
  have hW0 : s.WarmedH s'.vm := by rw [hvm]; exact State.WarmedH.refl s
  have hat' : ∀ w ∈ vx_atS own ic cls names, w.before args s' = true := fun w hw => vx_ot_at hW0 hvm.symm (hgood w (List.mem_cons_of_mem _ (List.mem_cons_of_mem _ hw))) (hat w hw)
  have hk' : (Cond.classLink own ik cls).before args s' = true := vx_ot_at hW0 hvm.symm (hgood _ List.mem_cons_self) hk
  have hini' : (Cond.initialized cls).before args s' = true := vx_ot_at hW0 hvm.symm (hgood _ (List.mem_cons_of_mem _ List.mem_cons_self)) hini
  have hU' : vx_Zq Bundle.tN "UNASSIGNED_STACK" Bundle.steD A s' s'.heap := by rw [hhp]; exact vx_Zq.moved hW0.alike (hU.kept hS.2.1)
  have hN' : vx_Zq Bundle.tN "SUPPRESSED_SENTINEL" Bundle.listD A s' s'.heap := by rw [hhp]; exact vx_Zq.moved hW0.alike (hN.kept hS.2.1)
  have h : ∀ w ∈ Bundle.ownAtoms own ic cls names, w.before args s' = true := vx_own hat' (vx_isRefq hU'.1) (vx_isRefq hN'.1) hU'.2.word hN'.2.word
  have hown' : s'.vm.findClass own = some m.cls := by rw [hvm]; exact hown
  have hins : (Cond.instantiable cls 6).before args s' = true := h _ (by simp [Bundle.ownAtoms])
  obtain ⟨vm₁, cX, kX, hfX, hkX, -, -, X₁, st1⟩ := Y.newCold hexec (own := own) (C := cls) (index := ik) (n := 6) hown' hk' hins hini'
    (g := F0 m pc ls rest) rfl (by rw [hb]; exact d0) (Nat.le_refl _) (Nat.le_refl _)
  generalize hT1 : (T.setVm vm₁).pushCell { cls := cX, slots := kX.instanceTypes.map defaultValue, vm := .none } = T1 at X₁ st1
  have hcat : (Value.ref T.heap.size).category = 1 := rfl
  have hcellA : T1.heap[T.heap.size]? = some (freshCell cX kX) := by rw [← hT1]; exact State.heap_pushCell_size _ _
  have d3' : decode c.code (pc + 3) = .ok (.dup, 1) := by rw [hb]; exact d3
  have d4' : decode c.code (pc + 4) = .ok (.ldc is, 2) := by rw [hb]; exact d4
  have hstr' : vk_R own is text sa s' := vk_R.warm hW0 hstr
  obtain ⟨U, hsteps, hrun, hend, hW, hsame, ce, hce, hO⟩ := X₁.ctorThrowS hexec htr (own := own) (cls := cls) (names := names) (ic := ic) hown' hcls hnames h (fun x hx => nomatch hx) hfX hkX hcellA (by rw [hhp, hT]; exact Nat.le_refl _) (msg := .ref sa) rfl
    (g := { method := m, pc := pc + 6, locals := ls, stack := .ref sa :: .ref T.heap.size :: .ref T.heap.size :: rest, locked := none }) rfl hsize rfl rfl (rest := rest) rfl
    (by rw [hb]; exact d6) (by rw [hb]; exact d9) hout hRframes (by simp only [List.map_cons, List.sum_cons, hcat]; omega) hlocks
  obtain ⟨f1, f2⟩ := vx_frame hsame
  rw [hhp] at f1 f2
  have hWs : s.WarmedH U.vm := State.WarmedH.trans hW0 hW
  have hcl : s.vm.findClass cls = some ce.cls := by
    have h9 := hO.cls
    rw [hvm] at h9
    exact h9
  have hall : s.sameButNew ({ U with vm := s.vm } : State) locs mc ms := by
    subst hA
    obtain ⟨e1, e2⟩ := hsame
    rw [State.setFrames_setFrames] at e1
    have h2 : (T.setVm s.vm).sameButNew ({ U with vm := s.vm } : State) [] (0 + 1) (0 + 6) := ⟨e1, e2⟩
    have h3 := X.same.trans h2
    rw [List.append_nil] at h3
    exact h3.mono hc hs
  refine ⟨U, ?_, .threw T.heap.size, hrun, hend, Or.inr ⟨T.heap.size, rfl, cls, ce, locs, hx U hWs.alike f1 (fun q hq => f2 q hq (fun z hz => nomatch hz)), hce, hO.vm, hcl, hWs, hall, hf⟩⟩
  refine st1 _ ?_
  show Steps p.tables e below (T1.setTop { method := m, pc := pc + 3, locals := ls, stack := .ref T.heap.size :: rest, locked := none }) _
  jvm_step X₁.here [X₁.here.top, hexec, d3', Value.category]
  exact X₁.ldcString hexec (own := own) (text := text) (index := is) (a := sa) hown' hstr'.1 hstr'.2
    (g := { method := m, pc := pc + 4, locals := ls, stack := .ref T.heap.size :: .ref T.heap.size :: rest, locked := none }) rfl d4' _ hsteps
/-- 'throw new E("text")', the text by a wide index -/
theorem vx_throwSW {cc : ByteArray} {pc : Nat} (hexec : p.tables.exec = Jvm.exec) (hb : c.code = cc) (hl : l.stackTraces = false) {own cls text : String} {names : List String} {ik is ic mc ms sa : Nat} {A : Nat → Prop}
    (hown : s.vm.findClass own = some m.cls) (hcls : Bundle.fit cls = true) (hnames : ∀ n ∈ names, Bundle.fit n = true)
    (hk : (Cond.classLink own ik cls).before args s = true) (hini : (Cond.initialized cls).before args s = true) (hstr : vk_R own is text sa s) (hat : ∀ w ∈ vx_atS own ic cls names, w.before args s = true)
    (hgood : ∀ w ∈ Cond.classLink own ik cls :: Cond.initialized cls :: vx_atS own ic cls names, vx_ot w = true)
    (hU : vx_Zq Bundle.tN "UNASSIGNED_STACK" Bundle.steD A s s.heap) (hN : vx_Zq Bundle.tN "SUPPRESSED_SENTINEL" Bundle.listD A s s.heap) (hS : va_S A s.heap H locs) (hsize : ls.size = c.maxLocals)
    (d0 : decode cc pc = .ok (.new ik, 3)) (d3 : decode cc (pc + 3) = .ok (.dup, 1)) (d4 : decode cc (pc + 4) = .ok (.ldc_w is, 3)) (d7 : decode cc (pc + 7) = .ok (.invokespecial ic, 3)) (d10 : decode cc (pc + 10) = .ok (.athrow, 1))
    (hout : ∀ x ∈ c.exceptionTable.toList, covers x (pc + 10) = false)
    (hRframes : names.length + 3 < R.frames) (hRlocals : (rest.map fun v => v.category).sum + (13 * (names.length + 1) + 43) ≤ R.locals) (hRcells : cells + 1 ≤ R.cells) (hRslots : slots + 6 ≤ R.slots) (hlocks : meth.locks = false)
    (hx : ∀ t : State, s.vm.Alike t.vm → H.size ≤ t.heap.size → (∀ q : Nat, q < H.size → t.heap[q]? = H[q]?) → XC cls s t)
    (hf : ∀ z ∈ locs, free z.base) (hc : cells + 1 ≤ mc) (hs : slots + 6 ≤ ms) :
    W p l e R s m args below meth c H locs cells slots (vx_MQ below Qc XC args s mc ms free) (F0 m pc ls rest) := by
  intro T hT X
  have htr : e.platform.stackTraces = false := (show e.platform.stackTraces = l.stackTraces by rw [X.admits.platform]).trans hl
  have Y := vx_rebase X (R' := { frames := R.frames, locals := R.locals, cells := 1, slots := 6 }) (Nat.le_refl _) (Nat.le_refl _) hRcells hRslots
  obtain ⟨s', hA⟩ : ∃ z, z = (T.setVm s.vm).setFrames (.invoking m args :: below) := ⟨_, rfl⟩
  rw [← hA] at Y
  have hvm : s'.vm = s.vm := by rw [hA]; rfl
  have hhp : s'.heap = H := by rw [hA]; exact hT
  have hW0 : s.WarmedH s'.vm := by rw [hvm]; exact State.WarmedH.refl s
  have hat' : ∀ w ∈ vx_atS own ic cls names, w.before args s' = true := fun w hw => vx_ot_at hW0 hvm.symm (hgood w (List.mem_cons_of_mem _ (List.mem_cons_of_mem _ hw))) (hat w hw)
  have hk' : (Cond.classLink own ik cls).before args s' = true := vx_ot_at hW0 hvm.symm (hgood _ List.mem_cons_self) hk
  have hini' : (Cond.initialized cls).before args s' = true := vx_ot_at hW0 hvm.symm (hgood _ (List.mem_cons_of_mem _ List.mem_cons_self)) hini
  have hU' : vx_Zq Bundle.tN "UNASSIGNED_STACK" Bundle.steD A s' s'.heap := by rw [hhp]; exact vx_Zq.moved hW0.alike (hU.kept hS.2.1)
  have hN' : vx_Zq Bundle.tN "SUPPRESSED_SENTINEL" Bundle.listD A s' s'.heap := by rw [hhp]; exact vx_Zq.moved hW0.alike (hN.kept hS.2.1)
  have h : ∀ w ∈ Bundle.ownAtoms own ic cls names, w.before args s' = true := vx_own hat' (vx_isRefq hU'.1) (vx_isRefq hN'.1) hU'.2.word hN'.2.word
  have hown' : s'.vm.findClass own = some m.cls := by rw [hvm]; exact hown
  have hins : (Cond.instantiable cls 6).before args s' = true := h _ (by simp [Bundle.ownAtoms])
  obtain ⟨vm₁, cX, kX, hfX, hkX, -, -, X₁, st1⟩ := Y.newCold hexec (own := own) (C := cls) (index := ik) (n := 6) hown' hk' hins hini'
    (g := F0 m pc ls rest) rfl (by rw [hb]; exact d0) (Nat.le_refl _) (Nat.le_refl _)
  generalize hT1 : (T.setVm vm₁).pushCell { cls := cX, slots := kX.instanceTypes.map defaultValue, vm := .none } = T1 at X₁ st1
  have hcat : (Value.ref T.heap.size).category = 1 := rfl
  have hcellA : T1.heap[T.heap.size]? = some (freshCell cX kX) := by rw [← hT1]; exact State.heap_pushCell_size _ _
  have d3' : decode c.code (pc + 3) = .ok (.dup, 1) := by rw [hb]; exact d3
  have d4' : decode c.code (pc + 4) = .ok (.ldc_w is, 3) := by rw [hb]; exact d4
  have hstr' : vk_R own is text sa s' := vk_R.warm hW0 hstr
  obtain ⟨U, hsteps, hrun, hend, hW, hsame, ce, hce, hO⟩ := X₁.ctorThrowS hexec htr (own := own) (cls := cls) (names := names) (ic := ic) hown' hcls hnames h (fun x hx => nomatch hx) hfX hkX hcellA (by rw [hhp, hT]; exact Nat.le_refl _) (msg := .ref sa) rfl
    (g := { method := m, pc := pc + 7, locals := ls, stack := .ref sa :: .ref T.heap.size :: .ref T.heap.size :: rest, locked := none }) rfl hsize rfl rfl (rest := rest) rfl
    (by rw [hb]; exact d7) (by rw [hb]; exact d10) hout hRframes (by simp only [List.map_cons, List.sum_cons, hcat]; omega) hlocks
  obtain ⟨f1, f2⟩ := vx_frame hsame
  rw [hhp] at f1 f2
  have hWs : s.WarmedH U.vm := State.WarmedH.trans hW0 hW
  have hcl : s.vm.findClass cls = some ce.cls := by
    have h9 := hO.cls
    rw [hvm] at h9
    exact h9
  have hall : s.sameButNew ({ U with vm := s.vm } : State) locs mc ms := by
    subst hA
    obtain ⟨e1, e2⟩ := hsame
    rw [State.setFrames_setFrames] at e1
    have h2 : (T.setVm s.vm).sameButNew ({ U with vm := s.vm } : State) [] (0 + 1) (0 + 6) := ⟨e1, e2⟩
    have h3 := X.same.trans h2
    rw [List.append_nil] at h3
    exact h3.mono hc hs
  refine ⟨U, ?_, .threw T.heap.size, hrun, hend, Or.inr ⟨T.heap.size, rfl, cls, ce, locs, hx U hWs.alike f1 (fun q hq => f2 q hq (fun z hz => nomatch hz)), hce, hO.vm, hcl, hWs, hall, hf⟩⟩
  refine st1 _ ?_
  show Steps p.tables e below (T1.setTop { method := m, pc := pc + 3, locals := ls, stack := .ref T.heap.size :: rest, locked := none }) _
  jvm_step X₁.here [X₁.here.top, hexec, d3', Value.category]
  exact X₁.ldcStringW hexec (own := own) (text := text) (index := is) (a := sa) hown' hstr'.1 hstr'.2
    (g := { method := m, pc := pc + 4, locals := ls, stack := .ref T.heap.size :: .ref T.heap.size :: rest, locked := none }) rfl d4' _ hsteps
end Ends
section Bodies
variable {l : Launch}
theorem vx_ofW {y : MethodName} {ws ws' : List Cond} {rm : Room} {Pc : Array Value → State → Prop} {Qc : Array Value → State → Outcome → State → Prop} {XC : String → State → State → Prop} {mc ms : Nat} {free : Addr → Prop} {cc : ByteArray} {maxL : Nat} {ret : Option FieldType}
    (hy : plainName y.cls = true) (hw : ws = Cond.code y cc maxL ret :: ws')
    (body : ∀ p e s m args below meth c s₁, BodyLoose p l y (headSpec ws rm) cc maxL ret e s m args below meth c s₁ → c.maxLocals = maxL → (∀ x ∈ c.exceptionTable.toList, False) → Pc args s →
      W p l e (headSpec ws rm).room s m args below meth c s.heap [] 0 0 (vx_MQ below Qc XC args s mc ms free) (entryFrame m args maxL)) : vx_Met l y ws rm Pc Qc XC mc ms free := by
  refine MetFree.of_bodyS (code := cc) (maxLocals := maxL) (ret := ret) hy ?_ ?_
  · intro args s m h hn
    obtain ⟨meth, c, h1, h2, h3, h4, h5, h6, -, -⟩ := Cond.code_spec hn (atoms_spec (ws := ws) h _ (by rw [hw]; exact List.mem_cons_self))
    exact ⟨meth, c, h1, h2, h3, h4, h5, h6⟩
  · intro p e s m args below meth c s₁ B hml hP _
    have hh0 : s₁.heap = s.heap := by rw [B.state]; rfl
    have ht : ∀ x ∈ c.exceptionTable.toList, False := by
      obtain ⟨meth9, c9, h1, h2, -, -, -, -, h7, -⟩ := Cond.code_spec B.named (atoms_spec (ws := ws) B.pre _ (by rw [hw]; exact List.mem_cons_self))
      cases Option.some.inj (h1.symm.trans B.method)
      cases Option.some.inj (h2.symm.trans (Stand.of_body B).code)
      intro x hx
      rw [Array.isEmpty_iff.mp h7] at hx
      cases hx
    obtain ⟨t, a1, o, b1, b2, b3⟩ := body p e s m args below meth c s₁ B hml ht hP s₁ hh0 (Stand.of_body B)
    exact ⟨t, o, a1, b1, b2, b3⟩
/-- the table of a body with handlers -/
theorem vx_table {p : Program} {x y : MethodName} {S : Spec} {cc bytes : ByteArray} {maxL maxL' : Nat} {ret ret' : Option FieldType} {e : Env} {s s₁ : State} {m : MethodId} {args : Array Value} {below : List Frame} {meth : Method} {c : Code} {hh : List (Nat × Nat × Nat × Nat)}
    (B : BodyLoose p l y S cc maxL ret e s m args below meth c s₁) (h : (Cond.codeWith y bytes maxL' ret' hh).before args s = true) : c.exceptionTable.toList = tableOf hh := by
  obtain ⟨m9, meth9, c9, hn9, h1, h2, -, -, h6, -⟩ := Cond.codeWith_spec h
  cases Option.some.inj (hn9.symm.trans B.named)
  cases Option.some.inj (h1.symm.trans B.method)
  cases Option.some.inj (h2.symm.trans (Stand.of_body B).code)
  rw [← h6, table_eq]
end Bodies
end VXA
/-! ===== END ===== -/
/-! ===== BEGIN a static call of a method with an exception table ===== -/
section VXS
variable {p : Program} {l : Launch} {e : Env} {R : Room} {s : State} {m : MethodId} {args : Array Value} {below : List Frame} {meth : Method} {c : Code} {T : State} {H : Heap} {locs : List Loc} {cells slots : Nat}
abbrev vx_CSW (R : Room) (s : State) (args : Array Value) (own : String) (index : Nat) (y : MethodName) (bytes : ByteArray) (maxL : Nat) (ret : Option FieldType) (hh : List (Nat × Nat × Nat × Nat)) (ws : List Cond) (rm : Room) (mc ms n : Nat) : Prop :=
  (rm.cells = mc ∧ rm.slots = ms ∧ rm.frames + 1 ≤ R.frames ∧ 8 + (maxL + 11) + rm.locals ≤ R.locals ∧ (∀ w ∈ ws, ∀ (a' : Array Value) (U : State), s.WarmedH U.vm → w.before a' U = true) ∧ Cond.codeWith y bytes maxL ret hh ∈ ws) ∧
  (Cond.codeWith y bytes maxL ret hh).before args s = true ∧ (Cond.initialized y.cls).before args s = true ∧ (y.cls ≠ "java/lang/invoke/MethodHandle" ∧ y.cls ≠ "java/lang/invoke/VarHandle") ∧
  (∀ sig, parseMethodDescriptor y.desc = some sig → n = sig.parameters.length) ∧ (Cond.methodLink own index y).before args s = true ∧ (Cond.static y).before args s = true
theorem vx_cwSW {own : String} {index maxL mc ms : Nat} {y : MethodName} {bytes : ByteArray} {ret : Option FieldType} {hh : List (Nat × Nat × Nat × Nat)} {Ts ws ws' : List Cond} {rm : Room} (n : Nat) (ht : ∀ w ∈ Ts, w.before args s = true) (hT : GoodIn Ts (va_wsS own index y ws)) (hw : ws = Cond.codeWith y bytes maxL ret hh :: ws') (hrc : rm.cells = mc) (hrs : rm.slots = ms)
    (hd : y.cls ≠ "java/lang/invoke/MethodHandle" ∧ y.cls ≠ "java/lang/invoke/VarHandle" ∧ (parseMethodDescriptor y.desc).map (fun d => d.parameters.length) = some n) (hR : rm.frames + 1 ≤ R.frames ∧ 8 + (maxL + 11) + rm.locals ≤ R.locals) :
    vx_CSW R s args own index y bytes maxL ret hh ws rm mc ms n := by
  have ok : ∀ w ∈ va_wsS own index y ws, w.before args s = true := fun w h => ht w (hT w h).1
  have hG : GoodIn Ts ws := fun w h => hT w (by unfold va_wsS; exact List.mem_append_right _ h)
  have hc : Cond.codeWith y bytes maxL ret hh ∈ ws := by rw [hw]; exact List.mem_cons_self
  refine ⟨⟨hrc, hrs, hR.1, hR.2, pay_in ht hG, hc⟩, ht _ (hG _ hc).1, ok _ (by simp [va_wsS]), ⟨hd.1, hd.2.1⟩, fun sig h => ?_, ok _ (by simp [va_wsS]), ok _ (by simp [va_wsS])⟩
  have h2 := hd.2.2
  rw [h] at h2
  exact (Option.some.inj h2).symm
theorem vx_callSW (X : Stand p l e R s m args below meth c T locs cells slots) (hexec : p.tables.exec = Jvm.exec) {own : String} {index : Nat} {y : MethodName} {bytes : ByteArray} {maxL : Nat} {ret : Option FieldType} {hh : List (Nat × Nat × Nat × Nat)}
    (hown : s.vm.findClass own = some m.cls) (hlink : (Cond.methodLink own index y).before args s = true) (hstat : (Cond.static y).before args s = true) (hinit : (Cond.initialized y.cls).before args s = true)
    (hcode : (Cond.codeWith y bytes maxL ret hh).before args s = true) (hy : y.cls ≠ "java/lang/invoke/MethodHandle" ∧ y.cls ≠ "java/lang/invoke/VarHandle")
    {W9 : Nat} {Pre : Pt → Array Value → Prop} {Post : Pt → Array Value → Option Value → Pt → Prop} (hK : Back l R p e below s args y 3 W9 Pre Post)
    {g : JFrame} (hg : g.method = m) (hsize : g.locals.size = c.maxLocals) {argsL rest : List Value} (hlen : ∀ sig, parseMethodDescriptor y.desc = some sig → argsL.length = sig.parameters.length)
    (hstack : g.stack = argsL.reverse ++ rest) (hW : 2 * g.monitorRoom + (rest.map fun v => v.category).sum ≤ W9) (hdg : decode c.code g.pc = .ok (.invokestatic index, 3))
    (hpre : ∀ vm₁, s.WarmedH vm₁ → Pre ⟨T.setVm vm₁, locs, cells, slots⟩ argsL.toArray) :
    ∃ (v : Option Value) (vm₁ : Vm) (B : Pt), s.WarmedH vm₁ ∧ Stand p l e R s m args below meth c B.U B.locs B.cells B.slots ∧ Post ⟨T.setVm vm₁, locs, cells, slots⟩ argsL.toArray v B ∧
      ∀ target, Steps p.tables e below (B.U.setTop { g with pc := g.pc + 3, stack := v.toList ++ rest }) target → Steps p.tables e below (T.setTop g) target := by
  obtain ⟨mk, methM, cM, hnamed, hmethM, -, -, -, -, -, -, hsigM⟩ := Cond.codeWith_spec hcode
  have hstatic : methM.isStatic = true := Cond.static_spec hnamed hmethM hstat
  obtain ⟨kP, hkP, -⟩ := className_of_methodNamed hnamed
  have hinitP : kP.init = .initialized := Cond.initialized_spec (findClass_of_methodNamed hnamed) hkP hinit
  obtain ⟨vm₁, X₁, hstep₁⟩ := X.invokestatic hexec hown hlink hnamed hmethM hstatic hkP hinitP hy (g := g) hg (argsL := argsL) (rest := rest) (hlen _ hsigM) hstack hdg
  obtain ⟨v, B, X', hpost, hsteps⟩ := hK m meth c ⟨T.setVm vm₁, locs, cells, slots⟩ { g with stack := rest } (.invokestatic index) mk argsL.toArray X₁ hg hsize hdg hW (X₁.named hnamed) (hpre vm₁ X₁.warmed)
  exact ⟨v, vm₁, B, X₁.warmed, X', hpost, fun target h => hstep₁ _ fun acts => by rw [doInvoke_state]; exact hsteps.trans h⟩
theorem vx_runSW {y : MethodName} {bytes cc : ByteArray} {maxL nL mc ms n index : Nat} {ret : Option FieldType} {hh : List (Nat × Nat × Nat × Nat)} {ws : List Cond} {rm : Room} {Pc : Array Value → State → Prop} {Qc : Array Value → State → Outcome → State → Prop} {free : Addr → Prop} {Ts : List Cond} {own : String} {As rest : List Value} {g : JFrame}
    (S : CallFix p m c cc nL s args Ts own) (hM : Met l y ws rm Pc Qc mc ms free) (cw : vx_CSW R s args own index y bytes maxL ret hh ws rm mc ms n) (hp : PreS s H Pc As)
    (hg : g.method = m) (hn : As.length = n) (hsize : g.locals.size = nL) (hstack : g.stack = As.reverse ++ rest) (hW : 2 * g.monitorRoom + (rest.map fun v => v.category).sum ≤ 8) (hdg : decode cc g.pc = .ok (.invokestatic index, 3)) (hf : cells + mc ≤ R.cells ∧ slots + ms ≤ R.slots) :
    va_Run p l e R s m args below meth c H locs cells slots mc ms g rest (Qc As.toArray) (free) := by
  obtain ⟨⟨hrc, hrs, hfr, hlo, hws, hcw⟩, hcode, hini, hy, hlen, hl, hstt⟩ := cw
  have hK : Back l R p e below s args y 3 8 (PreOf R mc ms Pc) (PostOf Qc mc ms free) := va_backW (hh := hh) (bytes := bytes) (maxL := maxL) (ret := ret) hM hp.1 hrc hrs hfr hlo hws hcw (fun a' U hW => word_at hW (Or.inl (by first | rfl | simp [Cond.onTables, Cond.keeps, Cond.steady])) hini)
  obtain ⟨hx, hb, hml, ho, -⟩ := S
  intro T hT X
  obtain ⟨v, vm₁, ⟨U', l2, c2, s2⟩, hW₁, X', ⟨g', mk, t, L, e1, e2, hq, h1, hL, h2, h3⟩, st⟩ := vx_callSW X hx (hh := hh) (bytes := bytes) (maxL := maxL) (ret := ret) ho hl hstt hini hcode hy hK hg (hsize.trans hml.symm) (argsL := As) (rest := rest) (fun sig h => hn.trans (hlen sig h)) hstack hW (by rw [hb]; exact hdg)
    (fun vm₁ hW₁ => ⟨hf.1, hf.2, hp.2 (T.setVm vm₁) hT hW₁⟩)
  dsimp only [Pt.U, Pt.locs, Pt.cells, Pt.slots] at X' e1 e2 h1 h2 h3 st
  subst h1; subst h2; subst h3
  exact ⟨v, (T.setVm vm₁).calling g' mk As.toArray, t, U', L, hT, X', hL, e1, e2, hq, st⟩
/-- not caught here, past rows that name other classes: it goes on to the caller -/
theorem vx_outP {p : Program} {l : Launch} {e : Env} {R : Room} {s : State} {m : MethodId} {args : Array Value} {below : List Frame} {meth : Method} {c : Code} {H : Heap} {locs : List Loc} {cells slots : Nat} {free : Addr → Prop} {ls : Array Slot} {rest : List Value} {Qc : Array Value → State → Outcome → State → Prop} {XC : String → State → State → Prop}
    {pc : Nat} {own E : String} {ce : Cell} {q : Addr} {mc ms : Nat} (hown : s.vm.findClass own = some m.cls) (hlocks : meth.locks = false)
    (hpass : ∀ z ∈ c.exceptionTable.toList, covers z pc = false ∨ (z.catchType ≠ 0 ∧ ∃ nm : String, (Cond.classLink own z.catchType nm).before args s = true ∧ va_Nc E nm s)) (hcell : H[q]? = some ce) (hv : ce.vm = .none) (hcl : s.vm.findClass E = some ce.cls)
    (hx : ∀ t : State, t.heap = H → s.vm.Alike t.vm → XC E s t) (hf : ∀ z ∈ locs, free z.base) (hc : cells ≤ mc) (hs : slots ≤ ms) :
    vx_W p l e R s m args below meth c H locs cells slots (vx_MQ below Qc XC args s mc ms free) (F0 m pc ls rest) q := by
  intro T hT X
  have hpl : e.platform.magicAccessors = ({} : Platform).magicAccessors := by rw [X.admits.platform]
  obtain ⟨vm', hW', X', st⟩ := X.outThrough hlocks q (g := F0 m pc ls rest) rfl rfl rfl (cell := ce) (by rw [hT]; exact hcell) (by rw [hv]; rfl)
    (by obtain ⟨k9, h9, -⟩ := Vm.findClass_spec hcl; exact ⟨k9, h9⟩) (fun z hz => by
      rcases hpass z hz with h | ⟨hz0, nm, hl1, hn1⟩
      · exact Or.inl h
      · obtain ⟨c6, hc6, hcl6⟩ := Cond.classLink_spec hown hl1 e.platform hpl
        obtain ⟨a8, b8, h1, h2, h3⟩ := hn1
        cases Option.some.inj (h1.symm.trans hcl)
        cases Option.some.inj (h2.symm.trans hc6)
        exact Or.inr ⟨hz0, _, hcl6, h3⟩)
  obtain ⟨g₀, hfr⟩ := X'.frames_eq
  have hcell9 : ((T.setVm vm').setFrames (.throwing q :: below)).heap[q]? = some ce := by
    show T.heap[q]? = some ce
    rw [hT]; exact hcell
  have hend : Ended ((T.setVm vm').setFrames (.throwing q :: below)) below (.threw q) := State.frames_setFrames _ (State.cur_lt_of_frames hfr)
  refine ⟨(T.setVm vm').setFrames (.throwing q :: below), ?_, .threw q, X'.here.running, hend, Or.inr ⟨q, rfl, E, ce, locs, hx _ hT (X'.ends _).1.alike, hcell9, hv, hcl, (X'.ends _).1, (X'.ends _).2.mono hc hs, hf⟩⟩
  rw [X.pushThrowing_eq]
  exact st
/-- a thing of a world lies in the heap -/
theorem vx_lt {D : va_G} {cl : List vw_C} {ws : va_W} {H1 : Heap} (h : va_P D cl ws H1) {k : Nat} {q : Nat × va_E} (hk : ws[k]? = some q) : q.1 < H1.size := (h k q hk).lt
end VXS
/-! ===== END ===== -/
/-! ===== BEGIN methods with a table of their own: called by a name, returning or throwing ===== -/
section VXH
/-! vx_backW, vx_callVX, vx_callSX, vx_callVW, vx_runVW, vx_runVX, vx_runSX, vx_ofWH follow the same proofs as their sisters above (Free/Laws.lean, Shelf42/LK1.lean); vx_outP calls Shelf42/NT130.lean (outThrough). -/
section
variable {l : Launch} {R : Room} {p : Program} {e : Env} {below : List Frame} {s : State} {sargs : Array Value} {y : MethodName} {len W9 : Nat}
theorem vx_backW {ws : List Cond} {rm : Room} {Pc : Array Value → State → Prop} {Qc : Array Value → State → Outcome → State → Prop} {XC : String → State → State → Prop} {mc ms : Nat} {free : Addr → Prop} {bytes : ByteArray} {maxL : Nat} {ret : Option FieldType} {hh : List (Nat × Nat × Nat × Nat)}
    (hM : vx_Met l y ws rm Pc Qc XC mc ms free) (hblind : FrameBlind Pc) (hrc : rm.cells = mc) (hrs : rm.slots = ms)
    (hframes : rm.frames + 1 ≤ R.frames) (hlocals : W9 + (maxL + 11) + rm.locals ≤ R.locals)
    (hws : ∀ w ∈ ws, ∀ a' U, s.WarmedH U.vm → w.before a' U = true) (hcode : Cond.codeWith y bytes maxL ret hh ∈ ws) (hinit : ∀ a' U, s.WarmedH U.vm → (Cond.initialized y.cls).before a' U = true) :
    vx_Back l R p e below s sargs y len W9 (PreOf R mc ms Pc) (PostOf Qc mc ms free) (vx_Post XC mc ms free) := by
  intro m meth c A g ig mk a X hg hsize hdg hW hn hp
  have h1 : (headSpec ws rm).pre.before a A.U = true := atoms_intro fun w hw => hws w hw _ _ X.warmed
  have h2 : (Cond.codeWith y bytes maxL ret hh).before a A.U = true := hws _ hcode _ _ X.warmed
  have h3 : (Cond.initialized y.cls).before a A.U = true := hinit _ _ X.warmed
  have h4 : A.cells + (headSpec ws rm).room.cells ≤ R.cells := by rw [show (headSpec ws rm).room.cells = mc from hrc]; exact hp.1
  have h5 : A.slots + (headSpec ws rm).room.slots ≤ R.slots := by rw [show (headSpec ws rm).room.slots = ms from hrs]; exact hp.2.1
  have hPc : Pc a (A.U.calling g mk a) := hblind _ _ _ _ hp.2.2
  obtain ⟨U, Ls, c0, s0⟩ := A
  dsimp only [Pt.U, Pt.locs, Pt.cells, Pt.slots] at h1 h2 h3 h4 h5 X hn hPc ⊢
  obtain ⟨m9, methY, cY, hn9, hmY, hcY, -, hlY, -⟩ := Cond.codeWith_spec h2
  cases Option.some.inj (hn9.symm.trans hn)
  obtain ⟨kY, hkY, -⟩ := className_of_methodNamed hn
  have hinitY : kY.init = .initialized := Cond.initialized_spec (findClass_of_methodNamed hn) hkY h3
  have h : At U g.method c below := by rw [hg]; exact X.here
  have hlocals9 : W9 + (maxL + 11) + (headSpec ws rm).room.locals ≤ R.locals := hlocals
  have happ : (headSpec ws rm).appliesLoose y e.platform (U.calling g mk a) = true :=
    Spec.appliesLoose_calling (g := g) h hdg hn hkY hinitY
      (X.room_calling (g := g) (R' := (headSpec ws rm).room) hsize hmY hcY hframes (by rw [hlY]; omega) h4 h5) h1
  obtain ⟨mid, hmid⟩ := h.above
  have hfr : (U.setTop g).frames = (.java g :: mid) ++ below := by rw [State.frames_setTop' g h.top, hmid]; rfl
  obtain ⟨o, s₂, hsteps, -, hend, hq⟩ := Steps.callFree hM p X.admits X.cas X.clock (acts := []) hfr happ hPc trivial
  have hq' : vx_Q Qc XC mc ms free a (U.calling g mk a) o s₂ := hq
  rw [State.frames_setTop' g h.top] at hend
  obtain ⟨g₀, hg0⟩ := Option.isSome_iff_exists.mp h.top
  obtain ⟨r, hr⟩ := State.topJava?_eq_some.mp hg0
  have hr' : (({ U with heap := s₂.heap, slotsUsed := s₂.slotsUsed } : State).setVm s₂.vm).frames = .java g₀ :: r := hr
  rcases hq' with ⟨hqc, L, hfe, hL⟩ | ⟨q, rfl, E, ce, L, hx, hce, hcv, hcl, hW₂, hsm, hL⟩
  · obtain ⟨⟨v, rfl⟩, hW₂, e2, q2, q3, q4, q5, q6⟩ := id hfe
    have e3 : s₂ = ({ (U.calling g mk a).setFrames s₂.frames with heap := s₂.heap, slotsUsed := s₂.slotsUsed } : State).setVm s₂.vm := by
      have : s₂ = ({ s₂ with vm := (U.calling g mk a).vm } : State).setVm s₂.vm := rfl
      rw [e2] at this
      exact this
    obtain ⟨c₂, i₂, len₂, hc₂, hd₂, hf₂⟩ := hend
    have hW' : U.WarmedH s₂.vm := hW₂
    have hcc : c₂ = c := by
      have h1 : s₂.code? g.method = U.code? g.method := by
        rw [State.code?_eq, State.code?_eq, hW'.alike.method?]
      exact Option.some.inj (hc₂.symm.trans (h1.trans h.code))
    subst hcc
    have hlen : len₂ = len := by rw [hdg] at hd₂; cases hd₂; rfl
    subst hlen
    have hs₂ : s₂ = (({ U with heap := s₂.heap, slotsUsed := s₂.slotsUsed } : State).setVm s₂.vm).setTop { g with pc := g.pc + len₂, stack := v.toList ++ g.stack } := by
      refine e3.trans ?_
      rw [hf₂, State.calling_eq h.top, State.setFrames_setFrames, State.setTop_of_frames _ hr', hr]
      rfl
    have hsame : U.sameButNew ({ U with heap := s₂.heap, slotsUsed := s₂.slotsUsed } : State) L mc ms := by
      refine ⟨?_, q2, q3, q4, q5, q6⟩
      obtain ⟨t, ht, -⟩ := State.frames_cons hr
      show ({ U with heap := s₂.heap, slotsUsed := s₂.slotsUsed } : State) = { U.setFrames U.frames with heap := s₂.heap, slotsUsed := s₂.slotsUsed }
      rw [State.setFrames_self ht]
    subst hg
    refine Or.inl ⟨v, ⟨(({ U with heap := s₂.heap, slotsUsed := s₂.slotsUsed } : State).setVm s₂.vm), Ls ++ L, c0 + mc, s0 + ms⟩,
      ⟨X.admits, X.cas, X.clock, X.frames, X.room, X.hears, X.method, X.code, (X.here.setHeapUsed s₂.heap s₂.slotsUsed).setVm hW'.alike, X.tail, State.WarmedH.trans X.warmed hW', X.limits, X.bytes, X.same.trans (hsame.setVm s.vm)⟩,
      ⟨g, mk, s₂, L, rfl, rfl, hqc, rfl, hL, rfl, rfl⟩, ?_⟩
    show Steps p.tables e below _ ((({ U with heap := s₂.heap, slotsUsed := s₂.slotsUsed } : State).setVm s₂.vm).setTop { g with pc := g.pc + len₂, stack := v.toList ++ g.stack })
    rw [← hs₂]
    exact hsteps
  · obtain ⟨e2, q2, q3, q4, q5, q6⟩ := id hsm
    have e3 : s₂ = ({ (U.calling g mk a).setFrames s₂.frames with heap := s₂.heap, slotsUsed := s₂.slotsUsed } : State).setVm s₂.vm := by
      have : s₂ = ({ s₂ with vm := (U.calling g mk a).vm } : State).setVm s₂.vm := rfl
      rw [e2] at this
      exact this
    have hf₂ : s₂.frames = .throwing q :: .java g :: U.frames.tail := hend
    have hW' : U.WarmedH s₂.vm := hW₂
    have hs₂ : s₂ = ((({ U with heap := s₂.heap, slotsUsed := s₂.slotsUsed } : State).setVm s₂.vm).setTop g).pushFrame (.throwing q) := by
      refine e3.trans ?_
      rw [hf₂, State.calling_eq h.top, State.setFrames_setFrames, State.pushFrame, State.frames_setTop _ hr', State.setTop_of_frames _ hr', State.setFrames_setFrames, hr]
      rfl
    have hsame : U.sameButNew ({ U with heap := s₂.heap, slotsUsed := s₂.slotsUsed } : State) L mc ms := by
      refine ⟨?_, q2, q3, q4, q5, q6⟩
      obtain ⟨t, ht, -⟩ := State.frames_cons hr
      show ({ U with heap := s₂.heap, slotsUsed := s₂.slotsUsed } : State) = { U.setFrames U.frames with heap := s₂.heap, slotsUsed := s₂.slotsUsed }
      rw [State.setFrames_self ht]
    subst hg
    refine Or.inr ⟨q, ⟨(({ U with heap := s₂.heap, slotsUsed := s₂.slotsUsed } : State).setVm s₂.vm), Ls ++ L, c0 + mc, s0 + ms⟩,
      ⟨X.admits, X.cas, X.clock, X.frames, X.room, X.hears, X.method, X.code, (X.here.setHeapUsed s₂.heap s₂.slotsUsed).setVm hW'.alike, X.tail, State.WarmedH.trans X.warmed hW', X.limits, X.bytes, X.same.trans (hsame.setVm s.vm)⟩,
      ⟨g, mk, s₂, L, E, ce, rfl, rfl, hx, hce, hcv, hcl, rfl, hL, rfl, rfl⟩, ?_⟩
    show Steps p.tables e below _ (((({ U with heap := s₂.heap, slotsUsed := s₂.slotsUsed } : State).setVm s₂.vm).setTop g).pushFrame (.throwing q))
    rw [← hs₂]
    exact hsteps
end
variable {p : Program} {l : Launch} {e : Env} {R : Room} {s : State} {m : MethodId} {args : Array Value} {below : List Frame} {meth : Method} {c : Code} {T : State} {H : Heap} {locs : List Loc} {cells slots : Nat}
theorem vx_callVX (X : Stand p l e R s m args below meth c T locs cells slots) (hexec : p.tables.exec = Jvm.exec) {own C : String} {index : Nat} {y : MethodName} {bytes : ByteArray} {maxL : Nat} {ret : Option FieldType} {hh : List (Nat × Nat × Nat × Nat)}
    (hown : s.vm.findClass own = some m.cls) (hlink : (Cond.methodLink own index y).before args s = true) (hinst : (Cond.instanceMethod y).before args s = true) (hsel : (Cond.selects C y y).before args s = true)
    (hcode : (Cond.codeWith y bytes maxL ret hh).before args s = true) (hy : y.cls ≠ "java/lang/invoke/MethodHandle" ∧ y.cls ≠ "java/lang/invoke/VarHandle")
    {W9 : Nat} {Pre : Pt → Array Value → Prop} {Post : Pt → Array Value → Option Value → Pt → Prop} {PostX : Pt → Array Value → Addr → Pt → Prop} (hK : vx_Back l R p e below s args y 3 W9 Pre Post PostX)
    {b : Addr} {cellB : Cell} (hcell : T.heap[b]? = some cellB) (hobj : cellB.vm.isStatics = false) (hcls : s.vm.findClass C = some cellB.cls)
    {g : JFrame} (hg : g.method = m) (hsize : g.locals.size = c.maxLocals) {argsL rest : List Value} (hlen : ∀ sig, parseMethodDescriptor y.desc = some sig → argsL.length = sig.parameters.length)
    (hstack : g.stack = argsL.reverse ++ .ref b :: rest) (hW : 2 * g.monitorRoom + (rest.map fun v => v.category).sum ≤ W9) (hdg : decode c.code g.pc = .ok (.invokevirtual index, 3))
    (hpre : ∀ vm₁, s.WarmedH vm₁ → Pre ⟨T.setVm vm₁, locs, cells, slots⟩ (Value.ref b :: argsL).toArray) :
    (∃ (v : Option Value) (vm₁ : Vm) (B : Pt), s.WarmedH vm₁ ∧ Stand p l e R s m args below meth c B.U B.locs B.cells B.slots ∧ Post ⟨T.setVm vm₁, locs, cells, slots⟩ (Value.ref b :: argsL).toArray v B ∧
      ∀ target, Steps p.tables e below (B.U.setTop { g with pc := g.pc + 3, stack := v.toList ++ rest }) target → Steps p.tables e below (T.setTop g) target) ∨
    (∃ (q : Addr) (vm₁ : Vm) (B : Pt), s.WarmedH vm₁ ∧ Stand p l e R s m args below meth c B.U B.locs B.cells B.slots ∧ PostX ⟨T.setVm vm₁, locs, cells, slots⟩ (Value.ref b :: argsL).toArray q B ∧
      Steps p.tables e below (T.setTop g) ((B.U.setTop { g with stack := rest }).pushFrame (.throwing q))) := by
  obtain ⟨mk, methM, hnamed, hmethM, hstM, habM⟩ := Cond.instanceMethod_spec hinst
  obtain ⟨m8, methM', cM, hn8, hmethM', -, -, -, -, -, -, hsigM⟩ := Cond.codeWith_spec hcode
  cases Option.some.inj (hn8.symm.trans hnamed)
  cases hmethM.symm.trans hmethM'
  obtain ⟨c2, r2, m2, q1, q2, q3, q4, kP, hkP, hkPi⟩ := Cond.selects_spec hsel
  cases hcls.symm.trans q1
  cases (State.methodFound?_of_named hnamed hy).symm.trans q2
  cases hnamed.symm.trans q3
  have hselP : selectMethod e.platform s.vm cellB.cls mk = .method mk := by rw [Launch.admits_selectMethod X.admits]; exact q4
  obtain ⟨vm₁, X₁, hstep₁⟩ := X.invokevirtual hexec hown hlink hnamed hmethM hstM hkP hkPi hy (a := b) (cell := cellB) hcell
    (fun z h => by rw [h] at hobj; cases hobj) hselP hmethM habM hkP hkPi (g := g) hg (argsL := argsL) (rest := rest) (hlen _ hsigM) hstack hdg
  rcases hK m meth c ⟨T.setVm vm₁, locs, cells, slots⟩ { g with stack := rest } (.invokevirtual index) mk (Value.ref b :: argsL).toArray X₁ hg hsize hdg hW (X₁.named hnamed) (hpre vm₁ X₁.warmed) with ⟨v, B, X', hpost, hsteps⟩ | ⟨q, B, X', hpost, hsteps⟩
  · exact Or.inl ⟨v, vm₁, B, X₁.warmed, X', hpost, fun target h => hstep₁ _ fun acts => by rw [doInvoke_state]; exact hsteps.trans h⟩
  · exact Or.inr ⟨q, vm₁, B, X₁.warmed, X', hpost, hstep₁ _ fun acts => by rw [doInvoke_state]; exact hsteps⟩
theorem vx_callSX (X : Stand p l e R s m args below meth c T locs cells slots) (hexec : p.tables.exec = Jvm.exec) {own : String} {index : Nat} {y : MethodName} {bytes : ByteArray} {maxL : Nat} {ret : Option FieldType} {hh : List (Nat × Nat × Nat × Nat)}
    (hown : s.vm.findClass own = some m.cls) (hlink : (Cond.methodLink own index y).before args s = true) (hstat : (Cond.static y).before args s = true) (hinit : (Cond.initialized y.cls).before args s = true)
    (hcode : (Cond.codeWith y bytes maxL ret hh).before args s = true) (hy : y.cls ≠ "java/lang/invoke/MethodHandle" ∧ y.cls ≠ "java/lang/invoke/VarHandle")
    {W9 : Nat} {Pre : Pt → Array Value → Prop} {Post : Pt → Array Value → Option Value → Pt → Prop} {PostX : Pt → Array Value → Addr → Pt → Prop} (hK : vx_Back l R p e below s args y 3 W9 Pre Post PostX)
    {g : JFrame} (hg : g.method = m) (hsize : g.locals.size = c.maxLocals) {argsL rest : List Value} (hlen : ∀ sig, parseMethodDescriptor y.desc = some sig → argsL.length = sig.parameters.length)
    (hstack : g.stack = argsL.reverse ++ rest) (hW : 2 * g.monitorRoom + (rest.map fun v => v.category).sum ≤ W9) (hdg : decode c.code g.pc = .ok (.invokestatic index, 3))
    (hpre : ∀ vm₁, s.WarmedH vm₁ → Pre ⟨T.setVm vm₁, locs, cells, slots⟩ argsL.toArray) :
    (∃ (v : Option Value) (vm₁ : Vm) (B : Pt), s.WarmedH vm₁ ∧ Stand p l e R s m args below meth c B.U B.locs B.cells B.slots ∧ Post ⟨T.setVm vm₁, locs, cells, slots⟩ argsL.toArray v B ∧
      ∀ target, Steps p.tables e below (B.U.setTop { g with pc := g.pc + 3, stack := v.toList ++ rest }) target → Steps p.tables e below (T.setTop g) target) ∨
    (∃ (q : Addr) (vm₁ : Vm) (B : Pt), s.WarmedH vm₁ ∧ Stand p l e R s m args below meth c B.U B.locs B.cells B.slots ∧ PostX ⟨T.setVm vm₁, locs, cells, slots⟩ argsL.toArray q B ∧
      Steps p.tables e below (T.setTop g) ((B.U.setTop { g with stack := rest }).pushFrame (.throwing q))) := by
  obtain ⟨mk, methM, cM, hnamed, hmethM, -, -, -, -, -, -, hsigM⟩ := Cond.codeWith_spec hcode
  have hstatic : methM.isStatic = true := Cond.static_spec hnamed hmethM hstat
  obtain ⟨kP, hkP, -⟩ := className_of_methodNamed hnamed
  have hinitP : kP.init = .initialized := Cond.initialized_spec (findClass_of_methodNamed hnamed) hkP hinit
  obtain ⟨vm₁, X₁, hstep₁⟩ := X.invokestatic hexec hown hlink hnamed hmethM hstatic hkP hinitP hy (g := g) hg (argsL := argsL) (rest := rest) (hlen _ hsigM) hstack hdg
  rcases hK m meth c ⟨T.setVm vm₁, locs, cells, slots⟩ { g with stack := rest } (.invokestatic index) mk argsL.toArray X₁ hg hsize hdg hW (X₁.named hnamed) (hpre vm₁ X₁.warmed) with ⟨v, B, X', hpost, hsteps⟩ | ⟨q, B, X', hpost, hsteps⟩
  · exact Or.inl ⟨v, vm₁, B, X₁.warmed, X', hpost, fun target h => hstep₁ _ fun acts => by rw [doInvoke_state]; exact hsteps.trans h⟩
  · exact Or.inr ⟨q, vm₁, B, X₁.warmed, X', hpost, hstep₁ _ fun acts => by rw [doInvoke_state]; exact hsteps⟩
theorem vx_callVW (X : Stand p l e R s m args below meth c T locs cells slots) (hexec : p.tables.exec = Jvm.exec) {own C : String} {index : Nat} {y : MethodName} {bytes : ByteArray} {maxL : Nat} {ret : Option FieldType} {hh : List (Nat × Nat × Nat × Nat)}
    (hown : s.vm.findClass own = some m.cls) (hlink : (Cond.methodLink own index y).before args s = true) (hinst : (Cond.instanceMethod y).before args s = true) (hsel : (Cond.selects C y y).before args s = true)
    (hcode : (Cond.codeWith y bytes maxL ret hh).before args s = true) (hy : y.cls ≠ "java/lang/invoke/MethodHandle" ∧ y.cls ≠ "java/lang/invoke/VarHandle")
    {W9 : Nat} {Pre : Pt → Array Value → Prop} {Post : Pt → Array Value → Option Value → Pt → Prop} (hK : Back l R p e below s args y 3 W9 Pre Post)
    {b : Addr} {cellB : Cell} (hcell : T.heap[b]? = some cellB) (hobj : cellB.vm.isStatics = false) (hcls : s.vm.findClass C = some cellB.cls)
    {g : JFrame} (hg : g.method = m) (hsize : g.locals.size = c.maxLocals) {argsL rest : List Value} (hlen : ∀ sig, parseMethodDescriptor y.desc = some sig → argsL.length = sig.parameters.length)
    (hstack : g.stack = argsL.reverse ++ .ref b :: rest) (hW : 2 * g.monitorRoom + (rest.map fun v => v.category).sum ≤ W9) (hdg : decode c.code g.pc = .ok (.invokevirtual index, 3))
    (hpre : ∀ vm₁, s.WarmedH vm₁ → Pre ⟨T.setVm vm₁, locs, cells, slots⟩ (Value.ref b :: argsL).toArray) :
    ∃ (v : Option Value) (vm₁ : Vm) (B : Pt), s.WarmedH vm₁ ∧ Stand p l e R s m args below meth c B.U B.locs B.cells B.slots ∧ Post ⟨T.setVm vm₁, locs, cells, slots⟩ (Value.ref b :: argsL).toArray v B ∧
      ∀ target, Steps p.tables e below (B.U.setTop { g with pc := g.pc + 3, stack := v.toList ++ rest }) target → Steps p.tables e below (T.setTop g) target := by
  obtain ⟨mk, methM, hnamed, hmethM, hstM, habM⟩ := Cond.instanceMethod_spec hinst
  obtain ⟨m8, methM', cM, hn8, hmethM', -, -, -, -, -, -, hsigM⟩ := Cond.codeWith_spec hcode
  cases Option.some.inj (hn8.symm.trans hnamed)
  cases hmethM.symm.trans hmethM'
  obtain ⟨c2, r2, m2, q1, q2, q3, q4, kP, hkP, hkPi⟩ := Cond.selects_spec hsel
  cases hcls.symm.trans q1
  cases (State.methodFound?_of_named hnamed hy).symm.trans q2
  cases hnamed.symm.trans q3
  have hselP : selectMethod e.platform s.vm cellB.cls mk = .method mk := by rw [Launch.admits_selectMethod X.admits]; exact q4
  obtain ⟨vm₁, X₁, hstep₁⟩ := X.invokevirtual hexec hown hlink hnamed hmethM hstM hkP hkPi hy (a := b) (cell := cellB) hcell
    (fun z h => by rw [h] at hobj; cases hobj) hselP hmethM habM hkP hkPi (g := g) hg (argsL := argsL) (rest := rest) (hlen _ hsigM) hstack hdg
  obtain ⟨v, B, X', hpost, hsteps⟩ := hK m meth c ⟨T.setVm vm₁, locs, cells, slots⟩ { g with stack := rest } (.invokevirtual index) mk (Value.ref b :: argsL).toArray X₁ hg hsize hdg hW (X₁.named hnamed) (hpre vm₁ X₁.warmed)
  exact ⟨v, vm₁, B, X₁.warmed, X', hpost, fun target h => hstep₁ _ fun acts => by rw [doInvoke_state]; exact hsteps.trans h⟩
abbrev vx_CVW (R : Room) (s : State) (args : Array Value) (own C : String) (index : Nat) (y : MethodName) (bytes : ByteArray) (maxL : Nat) (ret : Option FieldType) (hh : List (Nat × Nat × Nat × Nat)) (ws : List Cond) (rm : Room) (mc ms n : Nat) : Prop :=
  (rm.cells = mc ∧ rm.slots = ms ∧ rm.frames + 1 ≤ R.frames ∧ 8 + (maxL + 11) + rm.locals ≤ R.locals ∧ (∀ w ∈ ws, ∀ (a' : Array Value) (U : State), s.WarmedH U.vm → w.before a' U = true) ∧ Cond.codeWith y bytes maxL ret hh ∈ ws) ∧
  (Cond.codeWith y bytes maxL ret hh).before args s = true ∧ (Cond.initialized y.cls).before args s = true ∧ (y.cls ≠ "java/lang/invoke/MethodHandle" ∧ y.cls ≠ "java/lang/invoke/VarHandle") ∧
  (∀ sig, parseMethodDescriptor y.desc = some sig → n = sig.parameters.length) ∧ (Cond.methodLink own index y).before args s = true ∧ (Cond.instanceMethod y).before args s = true ∧ (Cond.selects C y y).before args s = true
theorem vx_cwVW {own C : String} {index maxL mc ms : Nat} {y : MethodName} {bytes : ByteArray} {ret : Option FieldType} {hh : List (Nat × Nat × Nat × Nat)} {Ts ws ws' : List Cond} {rm : Room} (n : Nat) (ht : ∀ w ∈ Ts, w.before args s = true) (hT : GoodIn Ts (wsV own index C y ws)) (hw : ws = Cond.codeWith y bytes maxL ret hh :: ws') (hrc : rm.cells = mc) (hrs : rm.slots = ms)
    (hd : y.cls = C ∧ y.cls ≠ "java/lang/invoke/MethodHandle" ∧ y.cls ≠ "java/lang/invoke/VarHandle" ∧ (parseMethodDescriptor y.desc).map (fun d => d.parameters.length) = some n) (hR : rm.frames + 1 ≤ R.frames ∧ 8 + (maxL + 11) + rm.locals ≤ R.locals) :
    vx_CVW R s args own C index y bytes maxL ret hh ws rm mc ms n := by
  obtain ⟨hC, hd⟩ := hd
  subst hC
  have ok : ∀ w ∈ wsV own index y.cls y ws, w.before args s = true := fun w h => ht w (hT w h).1
  have hG : GoodIn Ts ws := fun w h => hT w (by unfold wsV; exact List.mem_append_right _ h)
  have hc : Cond.codeWith y bytes maxL ret hh ∈ ws := by rw [hw]; exact List.mem_cons_self
  refine ⟨⟨hrc, hrs, hR.1, hR.2, pay_in ht hG, hc⟩, ht _ (hG _ hc).1, ok _ (by simp [wsV]), ⟨hd.1, hd.2.1⟩, fun sig h => ?_, ok _ (by simp [wsV]), ok _ (by simp [wsV]), ok _ (by simp [wsV])⟩
  have h2 := hd.2.2
  rw [h] at h2
  exact (Option.some.inj h2).symm
theorem vx_runVW {y : MethodName} {bytes cc : ByteArray} {maxL nL mc ms n index : Nat} {ret : Option FieldType} {hh : List (Nat × Nat × Nat × Nat)} {ws : List Cond} {rm : Room} {Pc : Array Value → State → Prop} {Qc : Array Value → State → Outcome → State → Prop} {free : Addr → Prop} {Ts : List Cond} {own C : String} {b : Addr} {As rest : List Value} {g : JFrame}
    (S : CallFix p m c cc nL s args Ts own) (hM : Met l y ws rm Pc Qc mc ms free) (cw : vx_CVW R s args own C index y bytes maxL ret hh ws rm mc ms n) (hp : PreV s H C b Pc As)
    (hg : g.method = m) (hn : As.length = n) (hsize : g.locals.size = nL) (hstack : g.stack = As.reverse ++ .ref b :: rest) (hW : 2 * g.monitorRoom + (rest.map fun v => v.category).sum ≤ 8) (hdg : decode cc g.pc = .ok (.invokevirtual index, 3)) (hf : cells + mc ≤ R.cells ∧ slots + ms ≤ R.slots) :
    va_Run p l e R s m args below meth c H locs cells slots mc ms g rest (Qc (Value.ref b :: As).toArray) free := by
  obtain ⟨⟨hrc, hrs, hfr, hlo, hws, hcw⟩, hcode, hini, hy, hlen, hl, hin, hse⟩ := cw
  have hK : Back l R p e below s args y 3 8 (PreOf R mc ms Pc) (PostOf Qc mc ms free) := va_backW (hh := hh) (bytes := bytes) (maxL := maxL) (ret := ret) hM hp.1 hrc hrs hfr hlo hws hcw (fun a' U hW => word_at hW (Or.inl (by first | rfl | simp [Cond.onTables, Cond.keeps, Cond.steady])) hini)
  obtain ⟨hx, hb, hml, ho, -⟩ := S
  obtain ⟨-, ⟨cellB, hcB, hoB, hclB⟩, hPc⟩ := hp
  intro T hT X
  obtain ⟨v, vm₁, ⟨U', l2, c2, s2⟩, hW₁, X', ⟨g', mk, t, L, e1, e2, hq, h1, hL, h2, h3⟩, st⟩ := vx_callVW X hx (C := C) (hh := hh) (bytes := bytes) (maxL := maxL) (ret := ret) ho hl hin hse hcode hy hK (by rw [hT]; exact hcB) hoB hclB hg (hsize.trans hml.symm) (argsL := As) (rest := rest) (fun sig h => hn.trans (hlen sig h)) hstack hW (by rw [hb]; exact hdg)
    (fun vm₁ hW₁ => ⟨hf.1, hf.2, hPc (T.setVm vm₁) hT hW₁⟩)
  dsimp only [Pt.U, Pt.locs, Pt.cells, Pt.slots] at X' e1 e2 h1 h2 h3 st
  subst h1; subst h2; subst h3
  exact ⟨v, (T.setVm vm₁).calling g' mk (Value.ref b :: As).toArray, t, U', L, hT, X', hL, e1, e2, hq, st⟩
section
variable {y : MethodName} {bytes cc : ByteArray} {maxL nL mc ms n index : Nat} {ret : Option FieldType} {ws : List Cond} {rm : Room} {Pc : Array Value → State → Prop} {Qc : Array Value → State → Outcome → State → Prop} {XC : String → State → State → Prop} {free : Addr → Prop} {Ts : List Cond} {own C : String} {b : Addr} {As rest : List Value} {g : JFrame}
theorem vx_runVX {hh : List (Nat × Nat × Nat × Nat)} (S : CallFix p m c cc nL s args Ts own) (hM : vx_Met l y ws rm Pc Qc XC mc ms free) (cw : vx_CVW R s args own C index y bytes maxL ret hh ws rm mc ms n) (hp : PreV s H C b Pc As)
    (hg : g.method = m) (hn : As.length = n) (hsize : g.locals.size = nL) (hstack : g.stack = As.reverse ++ .ref b :: rest) (hW : 2 * g.monitorRoom + (rest.map fun v => v.category).sum ≤ 8) (hdg : decode cc g.pc = .ok (.invokevirtual index, 3)) (hf : cells + mc ≤ R.cells ∧ slots + ms ≤ R.slots) :
    vx_Run p l e R s m args below meth c H locs cells slots mc ms g rest (Qc (Value.ref b :: As).toArray) XC free := by
  obtain ⟨⟨hrc, hrs, hfr, hlo, hws, hcw⟩, hcode, hini, hy, hlen, hl, hin, hse⟩ := cw
  have hK : vx_Back l R p e below s args y 3 8 (PreOf R mc ms Pc) (PostOf Qc mc ms free) (vx_Post XC mc ms free) := vx_backW (hh := hh) (bytes := bytes) (maxL := maxL) (ret := ret) hM hp.1 hrc hrs hfr hlo hws hcw (fun a' U hW => word_at hW (Or.inl (by first | rfl | simp [Cond.onTables, Cond.keeps, Cond.steady])) hini)
  obtain ⟨hx, hb, hml, ho, -⟩ := S
  obtain ⟨-, ⟨cellB, hcB, hoB, hclB⟩, hPc⟩ := hp
  intro T hT X
  rcases vx_callVX X hx (C := C) (hh := hh) (bytes := bytes) (maxL := maxL) (ret := ret) ho hl hin hse hcode hy hK (by rw [hT]; exact hcB) hoB hclB hg (hsize.trans hml.symm) (argsL := As) (rest := rest) (fun sig h => hn.trans (hlen sig h)) hstack hW (by rw [hb]; exact hdg)
    (fun vm₁ hW₁ => ⟨hf.1, hf.2, hPc (T.setVm vm₁) hT hW₁⟩) with ⟨v, vm₁, ⟨U', l2, c2, s2⟩, hW₁, X', ⟨g', mk, t, L, e1, e2, hq, h1, hL, h2, h3⟩, st⟩ | ⟨q, vm₁, ⟨U', l2, c2, s2⟩, hW₁, X', ⟨g', mk, t, L, E, ce, e1, e2, hq, hce, hcv, hcl, h1, hL, h2, h3⟩, st⟩
  · dsimp only [Pt.U, Pt.locs, Pt.cells, Pt.slots] at X' e1 e2 h1 h2 h3 st
    subst h1; subst h2; subst h3
    exact Or.inl ⟨v, (T.setVm vm₁).calling g' mk (Value.ref b :: As).toArray, t, U', L, hT, X', hL, e1, e2, hq, st⟩
  · dsimp only [Pt.U, Pt.locs, Pt.cells, Pt.slots] at X' e1 e2 h1 h2 h3 st hcl
    subst h1; subst h2; subst h3
    exact Or.inr ⟨q, (T.setVm vm₁).calling g' mk (Value.ref b :: As).toArray, t, U', L, E, ce, hT, X', hL, e1, e2, hq, hce, hcv, vx_cls hW₁ hcl, st⟩
theorem vx_runSX {hh : List (Nat × Nat × Nat × Nat)} (S : CallFix p m c cc nL s args Ts own) (hM : vx_Met l y ws rm Pc Qc XC mc ms free) (cw : vx_CSW R s args own index y bytes maxL ret hh ws rm mc ms n) (hp : PreS s H Pc As)
    (hg : g.method = m) (hn : As.length = n) (hsize : g.locals.size = nL) (hstack : g.stack = As.reverse ++ rest) (hW : 2 * g.monitorRoom + (rest.map fun v => v.category).sum ≤ 8) (hdg : decode cc g.pc = .ok (.invokestatic index, 3)) (hf : cells + mc ≤ R.cells ∧ slots + ms ≤ R.slots) :
    vx_Run p l e R s m args below meth c H locs cells slots mc ms g rest (Qc As.toArray) XC free := by
  obtain ⟨⟨hrc, hrs, hfr, hlo, hws, hcw⟩, hcode, hini, hy, hlen, hl, hstt⟩ := cw
  have hK : vx_Back l R p e below s args y 3 8 (PreOf R mc ms Pc) (PostOf Qc mc ms free) (vx_Post XC mc ms free) := vx_backW (hh := hh) (bytes := bytes) (maxL := maxL) (ret := ret) hM hp.1 hrc hrs hfr hlo hws hcw (fun a' U hW => word_at hW (Or.inl (by first | rfl | simp [Cond.onTables, Cond.keeps, Cond.steady])) hini)
  obtain ⟨hx, hb, hml, ho, -⟩ := S
  intro T hT X
  rcases vx_callSX X hx (hh := hh) (bytes := bytes) (maxL := maxL) (ret := ret) ho hl hstt hini hcode hy hK hg (hsize.trans hml.symm) (argsL := As) (rest := rest) (fun sig h => hn.trans (hlen sig h)) hstack hW (by rw [hb]; exact hdg)
    (fun vm₁ hW₁ => ⟨hf.1, hf.2, hp.2 (T.setVm vm₁) hT hW₁⟩) with ⟨v, vm₁, ⟨U', l2, c2, s2⟩, hW₁, X', ⟨g', mk, t, L, e1, e2, hq, h1, hL, h2, h3⟩, st⟩ | ⟨q, vm₁, ⟨U', l2, c2, s2⟩, hW₁, X', ⟨g', mk, t, L, E, ce, e1, e2, hq, hce, hcv, hcl, h1, hL, h2, h3⟩, st⟩
  · dsimp only [Pt.U, Pt.locs, Pt.cells, Pt.slots] at X' e1 e2 h1 h2 h3 st
    subst h1; subst h2; subst h3
    exact Or.inl ⟨v, (T.setVm vm₁).calling g' mk As.toArray, t, U', L, hT, X', hL, e1, e2, hq, st⟩
  · dsimp only [Pt.U, Pt.locs, Pt.cells, Pt.slots] at X' e1 e2 h1 h2 h3 st hcl
    subst h1; subst h2; subst h3
    exact Or.inr ⟨q, (T.setVm vm₁).calling g' mk As.toArray, t, U', L, E, ce, hT, X', hL, e1, e2, hq, hce, hcv, vx_cls hW₁ hcl, st⟩
end
end VXH
theorem vx_ofWH {l : Launch} {y : MethodName} {ws ws' : List Cond} {rm : Room} {Pc : Array Value → State → Prop} {Qc : Array Value → State → Outcome → State → Prop} {XC : String → State → State → Prop} {mc ms : Nat} {free : Addr → Prop} {cc : ByteArray} {maxL : Nat} {ret : Option FieldType} {hh : List (Nat × Nat × Nat × Nat)}
    (hy : plainName y.cls = true) (hw : ws = Cond.codeWith y cc maxL ret hh :: ws')
    (body : ∀ p e s m args below meth c s₁, BodyLoose p l y (headSpec ws rm) cc maxL ret e s m args below meth c s₁ → c.maxLocals = maxL → Pc args s →
      W p l e (headSpec ws rm).room s m args below meth c s.heap [] 0 0 (vx_MQ below Qc XC args s mc ms free) (entryFrame m args maxL)) : vx_Met l y ws rm Pc Qc XC mc ms free := by
  refine MetFree.of_bodyS (code := cc) (maxLocals := maxL) (ret := ret) hy ?_ ?_
  · intro args s m h hn
    obtain ⟨m9, meth, c, hn9, h1, h2, h3, h4, -, h5, h6, -⟩ := Cond.codeWith_spec (atoms_spec (ws := ws) h _ (by rw [hw]; exact List.mem_cons_self))
    cases hn.symm.trans hn9
    exact ⟨meth, c, h1, h2, h3, h4, h5, h6⟩
  · intro p e s m args below meth c s₁ B hml hP _
    have hh0 : s₁.heap = s.heap := by rw [B.state]; rfl
    obtain ⟨t, a1, o, b1, b2, b3⟩ := body p e s m args below meth c s₁ B hml hP s₁ hh0 (Stand.of_body B)
    exact ⟨t, o, a1, b1, b2, b3⟩
/-! ===== END ===== -/
end
section
/-! ===== BEGIN printed: names, fields, word lists, decode rows ===== -/
def RX0 : String := "Submodulary"
def TX0 : u_T := fun k => match k with
  | 0 => ("Submodulary", "elements", "I", false)
  | 1 => ("Submodulary", "functions", "I", false)
  | 2 => ("Submodulary", "told", "I", false)
  | 3 => ("Submodulary", "covered", "[I", true)
  | 4 => ("Submodulary", "edges", "[I", true)
  | 5 => ("Submodulary", "colours", "[I", true)
  | 6 => ("Submodulary", "rooms", "[I", true)
  | 7 => ("Submodulary", "weights", "[I", true)
  | 8 => ("Submodulary", "values", "[I", true)
  | 9 => ("Submodulary", "ordered", "[I", true)
  | 10 => ("Submodulary", "cameFrom", "[I", true)
  | _ => ("Submodulary", "reached", "[I", true)
def tyX0 : Nat → FieldType := fun k => match k with
  | 0 => .int
  | 1 => .int
  | 2 => .int
  | 3 => .array .int
  | 4 => .array .int
  | 5 => .array .int
  | 6 => .array .int
  | 7 => .array .int
  | 8 => .array .int
  | 9 => .array .int
  | 10 => .array .int
  | _ => .array .int
abbrev wsX00 : List Cond := u_ws RX0 TX0 12
theorem nmX0 : ∀ a, a < 12 → ∀ b, b < 12 → a ≠ b → (TX0 a).2.1 ≠ (TX0 b).2.1 := by decide +kernel
theorem tyX0_ok : ∀ k, k < 12 → parseFieldDescriptor (TX0 k).2.2.1 = some (tyX0 k) := by decide +kernel
abbrev cX0_init : ByteArray := prog_1_method_1_code
def yX0_init : MethodName := ⟨RX0, "<init>", "()V"⟩
abbrev cX0_elements : ByteArray := prog_1_method_2_code
def yX0_elements : MethodName := ⟨RX0, "elements", "(I)I"⟩
abbrev cX0_cover : ByteArray := prog_1_method_3_code
def yX0_cover : MethodName := ⟨RX0, "cover", "(IIZ)Z"⟩
abbrev cX0_edge : ByteArray := prog_1_method_4_code
def yX0_edge : MethodName := ⟨RX0, "edge", "(III)I"⟩
abbrev cX0_colour : ByteArray := prog_1_method_5_code
def yX0_colour : MethodName := ⟨RX0, "colour", "(III)I"⟩
abbrev cX0_room : ByteArray := prog_1_method_6_code
def yX0_room : MethodName := ⟨RX0, "room", "(III)I"⟩
abbrev cX0_weigh : ByteArray := prog_1_method_7_code
def yX0_weigh : MethodName := ⟨RX0, "weigh", "(II)I"⟩
abbrev cX0_make : ByteArray := prog_1_method_8_code
def yX0_make : MethodName := ⟨RX0, "make", "(I)I"⟩
abbrev cX0_sum : ByteArray := prog_1_method_9_code
def yX0_sum : MethodName := ⟨RX0, "sum", "(II)I"⟩
abbrev cX0_contract : ByteArray := prog_1_method_10_code
def yX0_contract : MethodName := ⟨RX0, "contract", "(II)I"⟩
abbrev cX0_cap : ByteArray := prog_1_method_11_code
def yX0_cap : MethodName := ⟨RX0, "cap", "(II)I"⟩
abbrev cX0_value : ByteArray := prog_1_method_12_code
def yX0_value : MethodName := ⟨RX0, "value", "(II)I"⟩
abbrev cX0_isLawful : ByteArray := prog_1_method_13_code
def yX0_isLawful : MethodName := ⟨RX0, "isLawful", "(I)Z"⟩
abbrev cX0_rises : ByteArray := prog_1_method_14_code
def yX0_rises : MethodName := ⟨RX0, "rises", "(I)Z"⟩
abbrev cX0_least : ByteArray := prog_1_method_15_code
def yX0_least : MethodName := ⟨RX0, "least", "(I)I"⟩
abbrev cX0_leastSet : ByteArray := prog_1_method_16_code
def yX0_leastSet : MethodName := ⟨RX0, "leastSet", "(IZ)I"⟩
abbrev cX0_leastSetAnew : ByteArray := prog_1_method_17_code
def yX0_leastSetAnew : MethodName := ⟨RX0, "leastSetAnew", "(IZ)I"⟩
abbrev cX0_order : ByteArray := prog_1_method_18_code
def yX0_order : MethodName := ⟨RX0, "order", "(I)I"⟩
abbrev cX0_corner : ByteArray := prog_1_method_19_code
def yX0_corner : MethodName := ⟨RX0, "corner", "(II)I"⟩
abbrev cX0_greedy : ByteArray := prog_1_method_20_code
def yX0_greedy : MethodName := ⟨RX0, "greedy", "(II)I"⟩
abbrev cX0_best : ByteArray := prog_1_method_21_code
def yX0_best : MethodName := ⟨RX0, "best", "(II)I"⟩
abbrev cX0_common : ByteArray := prog_1_method_22_code
def yX0_common : MethodName := ⟨RX0, "common", "()I"⟩
abbrev cX0_commonAnew : ByteArray := prog_1_method_23_code
def yX0_commonAnew : MethodName := ⟨RX0, "commonAnew", "()I"⟩
abbrev cX0_share : ByteArray := prog_1_method_24_code
def yX0_share : MethodName := ⟨RX0, "share", "(II)I"⟩
abbrev cX0_shareAnew : ByteArray := prog_1_method_25_code
def yX0_shareAnew : MethodName := ⟨RX0, "shareAnew", "(II)I"⟩
abbrev cX0_needIndex : ByteArray := prog_1_method_26_code
def yX0_needIndex : MethodName := ⟨RX0, "needIndex", "(Z)V"⟩
abbrev cX0_needArgument : ByteArray := prog_1_method_27_code
def yX0_needArgument : MethodName := ⟨RX0, "needArgument", "(Z)V"⟩
abbrev cX0_needState : ByteArray := prog_1_method_28_code
def yX0_needState : MethodName := ⟨RX0, "needState", "(Z)V"⟩
abbrev cX0_needPlace : ByteArray := prog_1_method_29_code
def yX0_needPlace : MethodName := ⟨RX0, "needPlace", "()V"⟩
abbrev cX0_isWithin : ByteArray := prog_1_method_30_code
def yX0_isWithin : MethodName := ⟨RX0, "isWithin", "(III)Z"⟩
abbrev cX0_isElement : ByteArray := prog_1_method_31_code
def yX0_isElement : MethodName := ⟨RX0, "isElement", "(I)Z"⟩
abbrev cX0_isFamily : ByteArray := prog_1_method_32_code
def yX0_isFamily : MethodName := ⟨RX0, "isFamily", "(I)Z"⟩
abbrev cX0_isColour : ByteArray := prog_1_method_33_code
def yX0_isColour : MethodName := ⟨RX0, "isColour", "(I)Z"⟩
abbrev cX0_isFunction : ByteArray := prog_1_method_34_code
def yX0_isFunction : MethodName := ⟨RX0, "isFunction", "(I)Z"⟩
abbrev cX0_isSet : ByteArray := prog_1_method_35_code
def yX0_isSet : MethodName := ⟨RX0, "isSet", "(I)Z"⟩
abbrev cX0_at : ByteArray := prog_1_method_36_code
def yX0_at : MethodName := ⟨RX0, "at", "([II)I"⟩
abbrev cX0_put : ByteArray := prog_1_method_37_code
def yX0_put : MethodName := ⟨RX0, "put", "([III)V"⟩
abbrev cX0_edgeWeight : ByteArray := prog_1_method_38_code
def yX0_edgeWeight : MethodName := ⟨RX0, "edgeWeight", "(II)I"⟩
abbrev cX0_colourOf : ByteArray := prog_1_method_39_code
def yX0_colourOf : MethodName := ⟨RX0, "colourOf", "(II)I"⟩
abbrev cX0_roomOf : ByteArray := prog_1_method_40_code
def yX0_roomOf : MethodName := ⟨RX0, "roomOf", "(II)I"⟩
abbrev cX0_valueOf : ByteArray := prog_1_method_41_code
def yX0_valueOf : MethodName := ⟨RX0, "valueOf", "(II)I"⟩
abbrev cX0_putNew : ByteArray := prog_1_method_42_code
def yX0_putNew : MethodName := ⟨RX0, "putNew", "(II)V"⟩
abbrev cX0_countNew : ByteArray := prog_1_method_43_code
def yX0_countNew : MethodName := ⟨RX0, "countNew", "()I"⟩
abbrev cX0_sets : ByteArray := prog_1_method_44_code
def yX0_sets : MethodName := ⟨RX0, "sets", "()I"⟩
abbrev cX0_has : ByteArray := prog_1_method_45_code
def yX0_has : MethodName := ⟨RX0, "has", "(II)Z"⟩
abbrev cX0_with : ByteArray := prog_1_method_46_code
def yX0_with : MethodName := ⟨RX0, "with", "(II)I"⟩
abbrev cX0_without : ByteArray := prog_1_method_47_code
def yX0_without : MethodName := ⟨RX0, "without", "(II)I"⟩
abbrev cX0_toldValue : ByteArray := prog_1_method_48_code
def yX0_toldValue : MethodName := ⟨RX0, "toldValue", "(II)I"⟩
abbrev cX0_coverValue : ByteArray := prog_1_method_49_code
def yX0_coverValue : MethodName := ⟨RX0, "coverValue", "(I)I"⟩
abbrev cX0_cutValue : ByteArray := prog_1_method_50_code
def yX0_cutValue : MethodName := ⟨RX0, "cutValue", "(I)I"⟩
abbrev cX0_rankValue : ByteArray := prog_1_method_51_code
def yX0_rankValue : MethodName := ⟨RX0, "rankValue", "(II)I"⟩
abbrev cX0_weightsValue : ByteArray := prog_1_method_52_code
def yX0_weightsValue : MethodName := ⟨RX0, "weightsValue", "(I)I"⟩
abbrev cX0_countOf : ByteArray := prog_1_method_53_code
def yX0_countOf : MethodName := ⟨RX0, "countOf", "(III)I"⟩
abbrev cX0_gain : ByteArray := prog_1_method_54_code
def yX0_gain : MethodName := ⟨RX0, "gain", "(III)I"⟩
abbrev cX0_hasLaw : ByteArray := prog_1_method_55_code
def yX0_hasLaw : MethodName := ⟨RX0, "hasLaw", "(I)Z"⟩
abbrev cX0_hasLawAbove : ByteArray := prog_1_method_56_code
def yX0_hasLawAbove : MethodName := ⟨RX0, "hasLawAbove", "(II)Z"⟩
abbrev cX0_leastBetween : ByteArray := prog_1_method_57_code
def yX0_leastBetween : MethodName := ⟨RX0, "leastBetween", "(IIIZI)I"⟩
abbrev cX0_takenIn : ByteArray := prog_1_method_58_code
def yX0_takenIn : MethodName := ⟨RX0, "takenIn", "(IIIZ)I"⟩
abbrev cX0_takenOut : ByteArray := prog_1_method_59_code
def yX0_takenOut : MethodName := ⟨RX0, "takenOut", "(IIIZ)I"⟩
abbrev cX0_lowest : ByteArray := prog_1_method_60_code
def yX0_lowest : MethodName := ⟨RX0, "lowest", "(I)I"⟩
abbrev cX0_isTold : ByteArray := prog_1_method_61_code
def yX0_isTold : MethodName := ⟨RX0, "isTold", "(I)Z"⟩
abbrev cX0_aheadOf : ByteArray := prog_1_method_62_code
def yX0_aheadOf : MethodName := ⟨RX0, "aheadOf", "(I)I"⟩
abbrev cX0_greediest : ByteArray := prog_1_method_63_code
def yX0_greediest : MethodName := ⟨RX0, "greediest", "(II)I"⟩
abbrev cX0_isFair : ByteArray := prog_1_method_64_code
def yX0_isFair : MethodName := ⟨RX0, "isFair", "(II)Z"⟩
abbrev cX0_hasRoom : ByteArray := prog_1_method_65_code
def yX0_hasRoom : MethodName := ⟨RX0, "hasRoom", "(III)Z"⟩
abbrev cX0_endOfPath : ByteArray := prog_1_method_66_code
def yX0_endOfPath : MethodName := ⟨RX0, "endOfPath", "(I)I"⟩
abbrev cX0_reachFirst : ByteArray := prog_1_method_67_code
def yX0_reachFirst : MethodName := ⟨RX0, "reachFirst", "(I)I"⟩
abbrev cX0_reachFrom : ByteArray := prog_1_method_68_code
def yX0_reachFrom : MethodName := ⟨RX0, "reachFrom", "(III)I"⟩
abbrev cX0_isStep : ByteArray := prog_1_method_69_code
def yX0_isStep : MethodName := ⟨RX0, "isStep", "(III)Z"⟩
abbrev cX0_flippedAlong : ByteArray := prog_1_method_70_code
def yX0_flippedAlong : MethodName := ⟨RX0, "flippedAlong", "(II)I"⟩
abbrev cX0_ordersOf : ByteArray := prog_1_method_71_code
def yX0_ordersOf : MethodName := ⟨RX0, "ordersOf", "(I)I"⟩
abbrev cX0_gainsOverOrders : ByteArray := prog_1_method_72_code
def yX0_gainsOverOrders : MethodName := ⟨RX0, "gainsOverOrders", "(IIIII)I"⟩
def RX1 : String := "SubmodularyModel"
def TX1 : u_T := fun k => match k with
  | 0 => ("SubmodularyModel", "n", "I", false)
  | 1 => ("SubmodularyModel", "points", "[I", true)
  | 2 => ("SubmodularyModel", "edges", "[I", true)
  | 3 => ("SubmodularyModel", "colours", "[I", true)
  | 4 => ("SubmodularyModel", "rooms", "[I", true)
  | 5 => ("SubmodularyModel", "weights", "[I", true)
  | 6 => ("SubmodularyModel", "functions", "I", false)
  | 7 => ("SubmodularyModel", "values", "[I", true)
  | 8 => ("SubmodularyModel", "told", "I", false)
  | 9 => ("SubmodularyModel", "order", "[I", true)
  | _ => ("SubmodularyModel", "thrown", "I", false)
def tyX1 : Nat → FieldType := fun k => match k with
  | 0 => .int
  | 1 => .array .int
  | 2 => .array .int
  | 3 => .array .int
  | 4 => .array .int
  | 5 => .array .int
  | 6 => .int
  | 7 => .array .int
  | 8 => .int
  | 9 => .array .int
  | _ => .int
abbrev wsX10 : List Cond := u_ws RX1 TX1 11
theorem nmX1 : ∀ a, a < 11 → ∀ b, b < 11 → a ≠ b → (TX1 a).2.1 ≠ (TX1 b).2.1 := by decide +kernel
theorem tyX1_ok : ∀ k, k < 11 → parseFieldDescriptor (TX1 k).2.2.1 = some (tyX1 k) := by decide +kernel
abbrev cX1_init : ByteArray := prog_3_method_1_code
def yX1_init : MethodName := ⟨RX1, "<init>", "()V"⟩
abbrev cX1_forgets : ByteArray := prog_3_method_2_code
def yX1_forgets : MethodName := ⟨RX1, "forgets", "()V"⟩
abbrev cX1_thrown : ByteArray := prog_3_method_3_code
def yX1_thrown : MethodName := ⟨RX1, "thrown", "()I"⟩
abbrev cX1_isIn : ByteArray := prog_3_method_4_code
def yX1_isIn : MethodName := ⟨RX1, "isIn", "(III)Z"⟩
abbrev cX1_isElement : ByteArray := prog_3_method_5_code
def yX1_isElement : MethodName := ⟨RX1, "isElement", "(I)Z"⟩
abbrev cX1_isFunction : ByteArray := prog_3_method_6_code
def yX1_isFunction : MethodName := ⟨RX1, "isFunction", "(I)Z"⟩
abbrev cX1_isSet : ByteArray := prog_3_method_7_code
def yX1_isSet : MethodName := ⟨RX1, "isSet", "(I)Z"⟩
abbrev cX1_has : ByteArray := prog_3_method_8_code
def yX1_has : MethodName := ⟨RX1, "has", "(II)Z"⟩
abbrev cX1_many : ByteArray := prog_3_method_9_code
def yX1_many : MethodName := ⟨RX1, "many", "(I)I"⟩
abbrev cX1_elements : ByteArray := prog_3_method_10_code
def yX1_elements : MethodName := ⟨RX1, "elements", "(I)I"⟩
abbrev cX1_cover : ByteArray := prog_3_method_11_code
def yX1_cover : MethodName := ⟨RX1, "cover", "(IIZ)Z"⟩
abbrev cX1_edge : ByteArray := prog_3_method_12_code
def yX1_edge : MethodName := ⟨RX1, "edge", "(III)I"⟩
abbrev cX1_colour : ByteArray := prog_3_method_13_code
def yX1_colour : MethodName := ⟨RX1, "colour", "(III)I"⟩
abbrev cX1_room : ByteArray := prog_3_method_14_code
def yX1_room : MethodName := ⟨RX1, "room", "(III)I"⟩
abbrev cX1_weigh : ByteArray := prog_3_method_15_code
def yX1_weigh : MethodName := ⟨RX1, "weigh", "(II)I"⟩
abbrev cX1_covered : ByteArray := prog_3_method_16_code
def yX1_covered : MethodName := ⟨RX1, "covered", "(I)I"⟩
abbrev cX1_cutBy : ByteArray := prog_3_method_17_code
def yX1_cutBy : MethodName := ⟨RX1, "cutBy", "(I)I"⟩
abbrev cX1_ofColour : ByteArray := prog_3_method_18_code
def yX1_ofColour : MethodName := ⟨RX1, "ofColour", "(III)I"⟩
abbrev cX1_rank : ByteArray := prog_3_method_19_code
def yX1_rank : MethodName := ⟨RX1, "rank", "(II)I"⟩
abbrev cX1_weight : ByteArray := prog_3_method_20_code
def yX1_weight : MethodName := ⟨RX1, "weight", "(I)I"⟩
abbrev cX1_make : ByteArray := prog_3_method_21_code
def yX1_make : MethodName := ⟨RX1, "make", "(I)I"⟩
abbrev cX1_sum : ByteArray := prog_3_method_22_code
def yX1_sum : MethodName := ⟨RX1, "sum", "(II)I"⟩
abbrev cX1_contract : ByteArray := prog_3_method_23_code
def yX1_contract : MethodName := ⟨RX1, "contract", "(II)I"⟩
abbrev cX1_cap : ByteArray := prog_3_method_24_code
def yX1_cap : MethodName := ⟨RX1, "cap", "(II)I"⟩
abbrev cX1_value : ByteArray := prog_3_method_25_code
def yX1_value : MethodName := ⟨RX1, "value", "(II)I"⟩
abbrev cX1_hasLaw : ByteArray := prog_3_method_26_code
def yX1_hasLaw : MethodName := ⟨RX1, "hasLaw", "(I)Z"⟩
abbrev cX1_isLawful : ByteArray := prog_3_method_27_code
def yX1_isLawful : MethodName := ⟨RX1, "isLawful", "(I)Z"⟩
abbrev cX1_rises : ByteArray := prog_3_method_28_code
def yX1_rises : MethodName := ⟨RX1, "rises", "(I)Z"⟩
abbrev cX1_leastOf : ByteArray := prog_3_method_29_code
def yX1_leastOf : MethodName := ⟨RX1, "leastOf", "(I)I"⟩
abbrev cX1_least : ByteArray := prog_3_method_30_code
def yX1_least : MethodName := ⟨RX1, "least", "(I)I"⟩
abbrev cX1_leastSets : ByteArray := prog_3_method_31_code
def yX1_leastSets : MethodName := ⟨RX1, "leastSets", "(IZ)I"⟩
abbrev cX1_leastSet : ByteArray := prog_3_method_32_code
def yX1_leastSet : MethodName := ⟨RX1, "leastSet", "(IZ)I"⟩
abbrev cX1_leastSetAnew : ByteArray := prog_3_method_33_code
def yX1_leastSetAnew : MethodName := ⟨RX1, "leastSetAnew", "(IZ)I"⟩
abbrev cX1_placeOf : ByteArray := prog_3_method_34_code
def yX1_placeOf : MethodName := ⟨RX1, "placeOf", "(I)I"⟩
abbrev cX1_order : ByteArray := prog_3_method_35_code
def yX1_order : MethodName := ⟨RX1, "order", "(I)I"⟩
abbrev cX1_corner : ByteArray := prog_3_method_36_code
def yX1_corner : MethodName := ⟨RX1, "corner", "(II)I"⟩
abbrev cX1_greedy : ByteArray := prog_3_method_37_code
def yX1_greedy : MethodName := ⟨RX1, "greedy", "(II)I"⟩
abbrev cX1_best : ByteArray := prog_3_method_38_code
def yX1_best : MethodName := ⟨RX1, "best", "(II)I"⟩
abbrev cX1_isFair : ByteArray := prog_3_method_39_code
def yX1_isFair : MethodName := ⟨RX1, "isFair", "(II)Z"⟩
abbrev cX1_commonSize : ByteArray := prog_3_method_40_code
def yX1_commonSize : MethodName := ⟨RX1, "commonSize", "()I"⟩
abbrev cX1_common : ByteArray := prog_3_method_41_code
def yX1_common : MethodName := ⟨RX1, "common", "()I"⟩
abbrev cX1_commonAnew : ByteArray := prog_3_method_42_code
def yX1_commonAnew : MethodName := ⟨RX1, "commonAnew", "()I"⟩
abbrev cX1_shares : ByteArray := prog_3_method_43_code
def yX1_shares : MethodName := ⟨RX1, "shares", "(II)I"⟩
abbrev cX1_share : ByteArray := prog_3_method_44_code
def yX1_share : MethodName := ⟨RX1, "share", "(II)I"⟩
abbrev cX1_shareAnew : ByteArray := prog_3_method_45_code
def yX1_shareAnew : MethodName := ⟨RX1, "shareAnew", "(II)I"⟩
def RJx145de : String := "java/io/Serializable"
def TJx145de : u_T := fun k => match k with
  | _ => ("", "", "", false)
def tyJx145de : Nat → FieldType := fun k => match k with
  | _ => .int
abbrev wsJx145de0 : List Cond := u_ws RJx145de TJx145de 0
theorem nmJx145de : ∀ a, a < 0 → ∀ b, b < 0 → a ≠ b → (TJx145de a).2.1 ≠ (TJx145de b).2.1 := by decide +kernel
theorem tyJx145de_ok : ∀ k, k < 0 → parseFieldDescriptor (TJx145de k).2.2.1 = some (tyJx145de k) := by decide +kernel
def RJ6 : String := "java/lang/Integer"
def TJ6 : u_T := fun k => match k with
  | _ => ("", "", "", false)
def tyJ6 : Nat → FieldType := fun k => match k with
  | _ => .int
abbrev wsJ60 : List Cond := u_ws RJ6 TJ6 0
theorem nmJ6 : ∀ a, a < 0 → ∀ b, b < 0 → a ≠ b → (TJ6 a).2.1 ≠ (TJ6 b).2.1 := by decide +kernel
theorem tyJ6_ok : ∀ k, k < 0 → parseFieldDescriptor (TJ6 k).2.2.1 = some (tyJ6 k) := by decide +kernel
abbrev cJ6_bitCount_0f7a4 : ByteArray := prog_8_method_49_code
def yJ6_bitCount_0f7a4 : MethodName := ⟨RJ6, "bitCount", "(I)I"⟩
def RJ9 : String := "java/lang/Math"
def TJ9 : u_T := fun k => match k with
  | _ => ("", "", "", false)
def tyJ9 : Nat → FieldType := fun k => match k with
  | _ => .int
abbrev wsJ90 : List Cond := u_ws RJ9 TJ9 0
theorem nmJ9 : ∀ a, a < 0 → ∀ b, b < 0 → a ≠ b → (TJ9 a).2.1 ≠ (TJ9 b).2.1 := by decide +kernel
theorem tyJ9_ok : ∀ k, k < 0 → parseFieldDescriptor (TJ9 k).2.2.1 = some (tyJ9 k) := by decide +kernel
abbrev cJ9_max_7cf53 : ByteArray := prog_9_method_65_code
def yJ9_max_7cf53 : MethodName := ⟨RJ9, "max", "(II)I"⟩
abbrev cJ9_min_7cf53 : ByteArray := prog_9_method_69_code
def yJ9_min_7cf53 : MethodName := ⟨RJ9, "min", "(II)I"⟩
def RJ0 : String := "java/lang/String"
def TJ0 : u_T := fun k => match k with
  | _ => ("", "", "", false)
def tyJ0 : Nat → FieldType := fun k => match k with
  | _ => .int
abbrev wsJ00 : List Cond := u_ws RJ0 TJ0 0
theorem nmJ0 : ∀ a, a < 0 → ∀ b, b < 0 → a ≠ b → (TJ0 a).2.1 ≠ (TJ0 b).2.1 := by decide +kernel
theorem tyJ0_ok : ∀ k, k < 0 → parseFieldDescriptor (TJ0 k).2.2.1 = some (tyJ0 k) := by decide +kernel
def RJ7 : String := "java/util/Arrays"
def TJ7 : u_T := fun k => match k with
  | _ => ("", "", "", false)
def tyJ7 : Nat → FieldType := fun k => match k with
  | _ => .int
abbrev wsJ70 : List Cond := u_ws RJ7 TJ7 0
theorem nmJ7 : ∀ a, a < 0 → ∀ b, b < 0 → a ≠ b → (TJ7 a).2.1 ≠ (TJ7 b).2.1 := by decide +kernel
theorem tyJ7_ok : ∀ k, k < 0 → parseFieldDescriptor (TJ7 k).2.2.1 = some (tyJ7 k) := by decide +kernel
abbrev cJ7_fill_53178 : ByteArray := prog_13_method_103_code
def yJ7_fill_53178 : MethodName := ⟨RJ7, "fill", "([II)V"⟩
def RL : String := "SubmodularyLaw"
abbrev cL_elements : ByteArray := method_3_code
def yL_elements : MethodName := ⟨RL, "elements", "(LSubmodulary;I[J)I"⟩
abbrev cL_cover : ByteArray := method_4_code
def yL_cover : MethodName := ⟨RL, "cover", "(LSubmodulary;IIZ[J)I"⟩
abbrev cL_edge : ByteArray := method_5_code
def yL_edge : MethodName := ⟨RL, "edge", "(LSubmodulary;III[J)I"⟩
abbrev cL_colour : ByteArray := method_6_code
def yL_colour : MethodName := ⟨RL, "colour", "(LSubmodulary;III[J)I"⟩
abbrev cL_room : ByteArray := method_7_code
def yL_room : MethodName := ⟨RL, "room", "(LSubmodulary;III[J)I"⟩
abbrev cL_weigh : ByteArray := method_8_code
def yL_weigh : MethodName := ⟨RL, "weigh", "(LSubmodulary;II[J)I"⟩
abbrev cL_make : ByteArray := method_9_code
def yL_make : MethodName := ⟨RL, "make", "(LSubmodulary;I[J)I"⟩
abbrev cL_sum : ByteArray := method_10_code
def yL_sum : MethodName := ⟨RL, "sum", "(LSubmodulary;II[J)I"⟩
abbrev cL_contract : ByteArray := method_11_code
def yL_contract : MethodName := ⟨RL, "contract", "(LSubmodulary;II[J)I"⟩
abbrev cL_cap : ByteArray := method_12_code
def yL_cap : MethodName := ⟨RL, "cap", "(LSubmodulary;II[J)I"⟩
abbrev cL_value : ByteArray := method_13_code
def yL_value : MethodName := ⟨RL, "value", "(LSubmodulary;II[J)I"⟩
abbrev cL_isLawful : ByteArray := method_14_code
def yL_isLawful : MethodName := ⟨RL, "isLawful", "(LSubmodulary;I[J)I"⟩
abbrev cL_rises : ByteArray := method_15_code
def yL_rises : MethodName := ⟨RL, "rises", "(LSubmodulary;I[J)I"⟩
abbrev cL_least : ByteArray := method_16_code
def yL_least : MethodName := ⟨RL, "least", "(LSubmodulary;I[J)I"⟩
abbrev cL_leastSet : ByteArray := method_17_code
def yL_leastSet : MethodName := ⟨RL, "leastSet", "(LSubmodulary;IZ[J)I"⟩
abbrev cL_leastSetAnew : ByteArray := method_18_code
def yL_leastSetAnew : MethodName := ⟨RL, "leastSetAnew", "(LSubmodulary;IZ[J)I"⟩
abbrev cL_order : ByteArray := method_19_code
def yL_order : MethodName := ⟨RL, "order", "(LSubmodulary;I[J)I"⟩
abbrev cL_corner : ByteArray := method_20_code
def yL_corner : MethodName := ⟨RL, "corner", "(LSubmodulary;II[J)I"⟩
abbrev cL_greedy : ByteArray := method_21_code
def yL_greedy : MethodName := ⟨RL, "greedy", "(LSubmodulary;II[J)I"⟩
abbrev cL_best : ByteArray := method_22_code
def yL_best : MethodName := ⟨RL, "best", "(LSubmodulary;II[J)I"⟩
abbrev cL_share : ByteArray := method_23_code
def yL_share : MethodName := ⟨RL, "share", "(LSubmodulary;II[J)I"⟩
abbrev cL_shareAnew : ByteArray := method_24_code
def yL_shareAnew : MethodName := ⟨RL, "shareAnew", "(LSubmodulary;II[J)I"⟩
abbrev cL_law : ByteArray := code
def yL_law : MethodName := ⟨RL, "law", "([I)Z"⟩
def wsJ7_fill_53178 : List Cond := .code yJ7_fill_53178 cJ7_fill_53178 4 none :: ([])
def wsX0_init : List Cond := .code yX0_init cX0_init 1 none :: ([.methodLink RX0 1 objectInit, .instanceMethod objectInit, .code objectInit ⟨#[0xb1]⟩ 1 none, .fieldLink RX0 9 "Submodulary" "elements" "I", .fieldLink RX0 13 "Submodulary" "functions" "I", .fieldLink RX0 16 "Submodulary" "told" "I", .arrayClass .int, .fieldLink RX0 19 "Submodulary" "covered" "[I", .fieldLink RX0 23 "Submodulary" "edges" "[I", .fieldLink RX0 26 "Submodulary" "colours" "[I", .fieldLink RX0 29 "Submodulary" "rooms" "[I", .fieldLink RX0 32 "Submodulary" "weights" "[I", .fieldLink RX0 35 "Submodulary" "values" "[I", .fieldLink RX0 38 "Submodulary" "ordered" "[I", .fieldLink RX0 41 "Submodulary" "cameFrom" "[I", .fieldLink RX0 44 "Submodulary" "reached" "[I", .methodLink RX0 47 yJ7_fill_53178, .static yJ7_fill_53178, .initialized RJ7, .code yJ7_fill_53178 cJ7_fill_53178 4 none] ++ wsX00)
def wsX0_isWithin : List Cond := .code yX0_isWithin cX0_isWithin 3 (some .boolean) :: ([])
def wsX0_needArgument : List Cond := .code yX0_needArgument cX0_needArgument 1 none :: ([.classLink RX0 188 "java/lang/IllegalArgumentException", .initialized "java/lang/IllegalArgumentException"] ++ (vx_atS RX0 192 "java/lang/IllegalArgumentException" ["java/lang/RuntimeException", "java/lang/Exception"]).filter goodWord)
def wsX0_elements : List Cond := .code yX0_elements cX0_elements 3 (some .int) :: ([.fieldLink RX0 9 "Submodulary" "elements" "I", .fieldLink RX0 13 "Submodulary" "functions" "I", .fieldLink RX0 16 "Submodulary" "told" "I", .fieldLink RX0 19 "Submodulary" "covered" "[I", .fieldLink RX0 23 "Submodulary" "edges" "[I", .fieldLink RX0 26 "Submodulary" "colours" "[I", .fieldLink RX0 29 "Submodulary" "rooms" "[I", .fieldLink RX0 32 "Submodulary" "weights" "[I", .methodLink RX0 53 yX0_isWithin, .static yX0_isWithin, .initialized RX0, .code yX0_isWithin cX0_isWithin 3 (some .boolean), .methodLink RX0 57 yX0_needArgument, .static yX0_needArgument, .code yX0_needArgument cX0_needArgument 1 none, .classLink RX0 188 "java/lang/IllegalArgumentException", .initialized "java/lang/IllegalArgumentException", .methodLink RX0 47 yJ7_fill_53178, .static yJ7_fill_53178, .initialized RJ7, .code yJ7_fill_53178 cJ7_fill_53178 4 none] ++ wsX00 ++ (vx_atS RX0 192 "java/lang/IllegalArgumentException" ["java/lang/RuntimeException", "java/lang/Exception"]).filter goodWord)
def wsX0_isElement : List Cond := .code yX0_isElement cX0_isElement 2 (some .boolean) :: ([.fieldLink RX0 9 "Submodulary" "elements" "I"] ++ wsX00)
def wsX0_needIndex : List Cond := .code yX0_needIndex cX0_needIndex 1 none :: ([.classLink RX0 181 "java/lang/IndexOutOfBoundsException", .initialized "java/lang/IndexOutOfBoundsException"] ++ (vx_atS RX0 185 "java/lang/IndexOutOfBoundsException" ["java/lang/RuntimeException", "java/lang/Exception"]).filter goodWord)
def wsX0_at : List Cond := .code yX0_at cX0_at 2 (some .int) :: ([])
def wsX0_with : List Cond := .code yX0_with cX0_with 2 (some .int) :: ([])
def wsX0_without : List Cond := .code yX0_without cX0_without 2 (some .int) :: ([])
def wsX0_put : List Cond := .code yX0_put cX0_put 3 none :: ([])
def wsX0_has : List Cond := .code yX0_has cX0_has 2 (some .boolean) :: ([])
def wsX0_cover_r1 : List Cond := [Cond.fieldLink RX0 19 "Submodulary" "covered" "[I", Cond.methodLink RX0 61 yX0_isElement, Cond.instanceMethod yX0_isElement, Cond.selects RX0 yX0_isElement yX0_isElement, Cond.initialized RX0, Cond.code yX0_isElement cX0_isElement 2 (some .boolean), Cond.fieldLink RX0 9 "Submodulary" "elements" "I", Cond.methodLink RX0 53 yX0_isWithin, Cond.static yX0_isWithin, Cond.code yX0_isWithin cX0_isWithin 3 (some .boolean), Cond.methodLink RX0 65 yX0_needIndex, Cond.static yX0_needIndex, Cond.code yX0_needIndex cX0_needIndex 1 none, Cond.classLink RX0 181 "java/lang/IndexOutOfBoundsException", Cond.initialized "java/lang/IndexOutOfBoundsException", Cond.methodLink RX0 68 yX0_at, Cond.static yX0_at, Cond.code yX0_at cX0_at 2 (some .int), Cond.methodLink RX0 72 yX0_with, Cond.static yX0_with, Cond.code yX0_with cX0_with 2 (some .int), Cond.methodLink RX0 76 yX0_without, Cond.static yX0_without, Cond.code yX0_without cX0_without 2 (some .int)]
def wsX0_cover_r2 : List Cond := [Cond.methodLink RX0 79 yX0_put, Cond.static yX0_put, Cond.code yX0_put cX0_put 3 none, Cond.methodLink RX0 83 yX0_has, Cond.static yX0_has, Cond.code yX0_has cX0_has 2 (some .boolean)]
def wsX0_cover : List Cond := .code yX0_cover cX0_cover 5 (some .boolean) :: ((wsX0_cover_r1 ++ wsX0_cover_r2) ++ wsX00 ++ (vx_atS RX0 185 "java/lang/IndexOutOfBoundsException" ["java/lang/RuntimeException", "java/lang/Exception"]).filter goodWord)
def wsX0_edgeWeight : List Cond := .code yX0_edgeWeight cX0_edgeWeight 3 (some .int) :: ([.fieldLink RX0 23 "Submodulary" "edges" "[I", .methodLink RX0 68 yX0_at, .static yX0_at, .initialized RX0, .code yX0_at cX0_at 2 (some .int)] ++ wsX00)
def wsX0_edge_r1 : List Cond := [Cond.fieldLink RX0 23 "Submodulary" "edges" "[I", Cond.methodLink RX0 61 yX0_isElement, Cond.instanceMethod yX0_isElement, Cond.selects RX0 yX0_isElement yX0_isElement, Cond.initialized RX0, Cond.code yX0_isElement cX0_isElement 2 (some .boolean), Cond.fieldLink RX0 9 "Submodulary" "elements" "I", Cond.methodLink RX0 65 yX0_needIndex, Cond.static yX0_needIndex, Cond.code yX0_needIndex cX0_needIndex 1 none, Cond.classLink RX0 181 "java/lang/IndexOutOfBoundsException", Cond.initialized "java/lang/IndexOutOfBoundsException", Cond.methodLink RX0 53 yX0_isWithin, Cond.static yX0_isWithin, Cond.code yX0_isWithin cX0_isWithin 3 (some .boolean), Cond.methodLink RX0 57 yX0_needArgument, Cond.static yX0_needArgument, Cond.code yX0_needArgument cX0_needArgument 1 none, Cond.classLink RX0 188 "java/lang/IllegalArgumentException", Cond.initialized "java/lang/IllegalArgumentException", Cond.methodLink RX0 87 yX0_edgeWeight, Cond.instanceMethod yX0_edgeWeight, Cond.selects RX0 yX0_edgeWeight yX0_edgeWeight, Cond.code yX0_edgeWeight cX0_edgeWeight 3 (some .int)]
def wsX0_edge_r2 : List Cond := [Cond.methodLink RX0 68 yX0_at, Cond.static yX0_at, Cond.code yX0_at cX0_at 2 (some .int), Cond.methodLink RX0 79 yX0_put, Cond.static yX0_put, Cond.code yX0_put cX0_put 3 none]
def wsX0_edge : List Cond := .code yX0_edge cX0_edge 5 (some .int) :: ((wsX0_edge_r1 ++ wsX0_edge_r2) ++ wsX00 ++ (vx_atS RX0 185 "java/lang/IndexOutOfBoundsException" ["java/lang/RuntimeException", "java/lang/Exception"]).filter goodWord ++ (vx_atS RX0 192 "java/lang/IllegalArgumentException" ["java/lang/RuntimeException", "java/lang/Exception"]).filter goodWord)
def wsX0_isFamily : List Cond := .code yX0_isFamily cX0_isFamily 1 (some .boolean) :: ([])
def wsX0_isColour : List Cond := .code yX0_isColour cX0_isColour 1 (some .boolean) :: ([])
def wsX0_colourOf : List Cond := .code yX0_colourOf cX0_colourOf 3 (some .int) :: ([.fieldLink RX0 26 "Submodulary" "colours" "[I", .methodLink RX0 68 yX0_at, .static yX0_at, .initialized RX0, .code yX0_at cX0_at 2 (some .int)] ++ wsX00)
def wsX0_colour_r1 : List Cond := [Cond.fieldLink RX0 26 "Submodulary" "colours" "[I", Cond.methodLink RX0 90 yX0_isFamily, Cond.static yX0_isFamily, Cond.initialized RX0, Cond.code yX0_isFamily cX0_isFamily 1 (some .boolean), Cond.methodLink RX0 61 yX0_isElement, Cond.instanceMethod yX0_isElement, Cond.selects RX0 yX0_isElement yX0_isElement, Cond.code yX0_isElement cX0_isElement 2 (some .boolean), Cond.fieldLink RX0 9 "Submodulary" "elements" "I", Cond.methodLink RX0 93 yX0_isColour, Cond.static yX0_isColour, Cond.code yX0_isColour cX0_isColour 1 (some .boolean), Cond.methodLink RX0 65 yX0_needIndex, Cond.static yX0_needIndex, Cond.code yX0_needIndex cX0_needIndex 1 none, Cond.classLink RX0 181 "java/lang/IndexOutOfBoundsException", Cond.initialized "java/lang/IndexOutOfBoundsException", Cond.methodLink RX0 96 yX0_colourOf, Cond.instanceMethod yX0_colourOf, Cond.selects RX0 yX0_colourOf yX0_colourOf, Cond.code yX0_colourOf cX0_colourOf 3 (some .int), Cond.methodLink RX0 68 yX0_at, Cond.static yX0_at]
def wsX0_colour_r2 : List Cond := [Cond.code yX0_at cX0_at 2 (some .int), Cond.methodLink RX0 79 yX0_put, Cond.static yX0_put, Cond.code yX0_put cX0_put 3 none]
def wsX0_colour : List Cond := .code yX0_colour cX0_colour 5 (some .int) :: ((wsX0_colour_r1 ++ wsX0_colour_r2) ++ wsX00 ++ (vx_atS RX0 185 "java/lang/IndexOutOfBoundsException" ["java/lang/RuntimeException", "java/lang/Exception"]).filter goodWord)
def wsX0_roomOf : List Cond := .code yX0_roomOf cX0_roomOf 3 (some .int) :: ([.fieldLink RX0 29 "Submodulary" "rooms" "[I", .methodLink RX0 68 yX0_at, .static yX0_at, .initialized RX0, .code yX0_at cX0_at 2 (some .int)] ++ wsX00)
def wsX0_room_r1 : List Cond := [Cond.fieldLink RX0 29 "Submodulary" "rooms" "[I", Cond.methodLink RX0 90 yX0_isFamily, Cond.static yX0_isFamily, Cond.initialized RX0, Cond.code yX0_isFamily cX0_isFamily 1 (some .boolean), Cond.methodLink RX0 93 yX0_isColour, Cond.static yX0_isColour, Cond.code yX0_isColour cX0_isColour 1 (some .boolean), Cond.methodLink RX0 65 yX0_needIndex, Cond.static yX0_needIndex, Cond.code yX0_needIndex cX0_needIndex 1 none, Cond.classLink RX0 181 "java/lang/IndexOutOfBoundsException", Cond.initialized "java/lang/IndexOutOfBoundsException", Cond.methodLink RX0 53 yX0_isWithin, Cond.static yX0_isWithin, Cond.code yX0_isWithin cX0_isWithin 3 (some .boolean), Cond.methodLink RX0 57 yX0_needArgument, Cond.static yX0_needArgument, Cond.code yX0_needArgument cX0_needArgument 1 none, Cond.classLink RX0 188 "java/lang/IllegalArgumentException", Cond.initialized "java/lang/IllegalArgumentException", Cond.methodLink RX0 99 yX0_roomOf, Cond.instanceMethod yX0_roomOf, Cond.selects RX0 yX0_roomOf yX0_roomOf]
def wsX0_room_r2 : List Cond := [Cond.code yX0_roomOf cX0_roomOf 3 (some .int), Cond.methodLink RX0 68 yX0_at, Cond.static yX0_at, Cond.code yX0_at cX0_at 2 (some .int), Cond.methodLink RX0 79 yX0_put, Cond.static yX0_put, Cond.code yX0_put cX0_put 3 none]
def wsX0_room : List Cond := .code yX0_room cX0_room 5 (some .int) :: ((wsX0_room_r1 ++ wsX0_room_r2) ++ wsX00 ++ (vx_atS RX0 185 "java/lang/IndexOutOfBoundsException" ["java/lang/RuntimeException", "java/lang/Exception"]).filter goodWord ++ (vx_atS RX0 192 "java/lang/IllegalArgumentException" ["java/lang/RuntimeException", "java/lang/Exception"]).filter goodWord)
def wsX0_weigh_r1 : List Cond := [Cond.fieldLink RX0 32 "Submodulary" "weights" "[I", Cond.methodLink RX0 61 yX0_isElement, Cond.instanceMethod yX0_isElement, Cond.selects RX0 yX0_isElement yX0_isElement, Cond.initialized RX0, Cond.code yX0_isElement cX0_isElement 2 (some .boolean), Cond.fieldLink RX0 9 "Submodulary" "elements" "I", Cond.methodLink RX0 65 yX0_needIndex, Cond.static yX0_needIndex, Cond.code yX0_needIndex cX0_needIndex 1 none, Cond.classLink RX0 181 "java/lang/IndexOutOfBoundsException", Cond.initialized "java/lang/IndexOutOfBoundsException", Cond.methodLink RX0 53 yX0_isWithin, Cond.static yX0_isWithin, Cond.code yX0_isWithin cX0_isWithin 3 (some .boolean), Cond.methodLink RX0 57 yX0_needArgument, Cond.static yX0_needArgument, Cond.code yX0_needArgument cX0_needArgument 1 none, Cond.classLink RX0 188 "java/lang/IllegalArgumentException", Cond.initialized "java/lang/IllegalArgumentException", Cond.methodLink RX0 68 yX0_at, Cond.static yX0_at, Cond.code yX0_at cX0_at 2 (some .int), Cond.methodLink RX0 79 yX0_put]
def wsX0_weigh_r2 : List Cond := [Cond.static yX0_put, Cond.code yX0_put cX0_put 3 none]
def wsX0_weigh : List Cond := .code yX0_weigh cX0_weigh 4 (some .int) :: ((wsX0_weigh_r1 ++ wsX0_weigh_r2) ++ wsX00 ++ (vx_atS RX0 185 "java/lang/IndexOutOfBoundsException" ["java/lang/RuntimeException", "java/lang/Exception"]).filter goodWord ++ (vx_atS RX0 192 "java/lang/IllegalArgumentException" ["java/lang/RuntimeException", "java/lang/Exception"]).filter goodWord)
def wsX0_needState : List Cond := .code yX0_needState cX0_needState 1 none :: ([.classLink RX0 193 "java/lang/IllegalStateException", .initialized "java/lang/IllegalStateException"] ++ (vx_atS RX0 197 "java/lang/IllegalStateException" ["java/lang/RuntimeException", "java/lang/Exception"]).filter goodWord)
def wsX0_needPlace : List Cond := .code yX0_needPlace cX0_needPlace 1 none :: ([.fieldLink RX0 13 "Submodulary" "functions" "I", .methodLink RX0 140 yX0_needState, .static yX0_needState, .initialized RX0, .code yX0_needState cX0_needState 1 none, .classLink RX0 193 "java/lang/IllegalStateException", .initialized "java/lang/IllegalStateException"] ++ wsX00 ++ (vx_atS RX0 197 "java/lang/IllegalStateException" ["java/lang/RuntimeException", "java/lang/Exception"]).filter goodWord)
def wsX0_sets : List Cond := .code yX0_sets cX0_sets 1 (some .int) :: ([.fieldLink RX0 9 "Submodulary" "elements" "I"] ++ wsX00)
def wsJ6_bitCount_0f7a4 : List Cond := .code yJ6_bitCount_0f7a4 cJ6_bitCount_0f7a4 1 (some .int) :: ([.constant RJ6 265 (1431655765), .constant RJ6 266 (858993459), .constant RJ6 267 (252645135)])
def wsX0_coverValue : List Cond := .code yX0_coverValue cX0_coverValue 4 (some .int) :: ([.fieldLink RX0 9 "Submodulary" "elements" "I", .fieldLink RX0 19 "Submodulary" "covered" "[I", .methodLink RX0 83 yX0_has, .static yX0_has, .initialized RX0, .code yX0_has cX0_has 2 (some .boolean), .methodLink RX0 68 yX0_at, .static yX0_at, .code yX0_at cX0_at 2 (some .int), .methodLink RX0 157 yJ6_bitCount_0f7a4, .static yJ6_bitCount_0f7a4, .initialized RJ6, .code yJ6_bitCount_0f7a4 cJ6_bitCount_0f7a4 1 (some .int), .constant RJ6 265 (1431655765), .constant RJ6 266 (858993459), .constant RJ6 267 (252645135)] ++ wsX00)
def wsX0_cutValue : List Cond := .code yX0_cutValue cX0_cutValue 5 (some .int) :: ([.fieldLink RX0 9 "Submodulary" "elements" "I", .methodLink RX0 83 yX0_has, .static yX0_has, .initialized RX0, .code yX0_has cX0_has 2 (some .boolean), .methodLink RX0 87 yX0_edgeWeight, .instanceMethod yX0_edgeWeight, .selects RX0 yX0_edgeWeight yX0_edgeWeight, .code yX0_edgeWeight cX0_edgeWeight 3 (some .int), .fieldLink RX0 23 "Submodulary" "edges" "[I", .methodLink RX0 68 yX0_at, .static yX0_at, .code yX0_at cX0_at 2 (some .int)] ++ wsX00)
def wsX0_countOf : List Cond := .code yX0_countOf cX0_countOf 6 (some .int) :: ([.fieldLink RX0 9 "Submodulary" "elements" "I", .methodLink RX0 83 yX0_has, .static yX0_has, .initialized RX0, .code yX0_has cX0_has 2 (some .boolean), .methodLink RX0 96 yX0_colourOf, .instanceMethod yX0_colourOf, .selects RX0 yX0_colourOf yX0_colourOf, .code yX0_colourOf cX0_colourOf 3 (some .int), .fieldLink RX0 26 "Submodulary" "colours" "[I", .methodLink RX0 68 yX0_at, .static yX0_at, .code yX0_at cX0_at 2 (some .int)] ++ wsX00)
def wsX0_rankValue_r1 : List Cond := [Cond.methodLink RX0 128 Lib.Math.min.name, Cond.static Lib.Math.min.name, Cond.initialized "java/lang/Math", Cond.code Lib.Math.min.name Lib.Math.min.code 2 (some .int), Cond.methodLink RX0 210 yX0_countOf, Cond.instanceMethod yX0_countOf, Cond.selects RX0 yX0_countOf yX0_countOf, Cond.initialized RX0, Cond.code yX0_countOf cX0_countOf 6 (some .int), Cond.fieldLink RX0 9 "Submodulary" "elements" "I", Cond.methodLink RX0 83 yX0_has, Cond.static yX0_has, Cond.code yX0_has cX0_has 2 (some .boolean), Cond.methodLink RX0 96 yX0_colourOf, Cond.instanceMethod yX0_colourOf, Cond.selects RX0 yX0_colourOf yX0_colourOf, Cond.code yX0_colourOf cX0_colourOf 3 (some .int), Cond.fieldLink RX0 26 "Submodulary" "colours" "[I", Cond.methodLink RX0 68 yX0_at, Cond.static yX0_at, Cond.code yX0_at cX0_at 2 (some .int), Cond.methodLink RX0 99 yX0_roomOf, Cond.instanceMethod yX0_roomOf, Cond.selects RX0 yX0_roomOf yX0_roomOf]
def wsX0_rankValue_r2 : List Cond := [Cond.code yX0_roomOf cX0_roomOf 3 (some .int), Cond.fieldLink RX0 29 "Submodulary" "rooms" "[I"]
def wsX0_rankValue : List Cond := .code yX0_rankValue cX0_rankValue 5 (some .int) :: ((wsX0_rankValue_r1 ++ wsX0_rankValue_r2) ++ wsX00)
def wsX0_weightsValue : List Cond := .code yX0_weightsValue cX0_weightsValue 4 (some .int) :: ([.fieldLink RX0 9 "Submodulary" "elements" "I", .fieldLink RX0 32 "Submodulary" "weights" "[I", .methodLink RX0 83 yX0_has, .static yX0_has, .initialized RX0, .code yX0_has cX0_has 2 (some .boolean), .methodLink RX0 68 yX0_at, .static yX0_at, .code yX0_at cX0_at 2 (some .int)] ++ wsX00)
def wsX0_toldValue_r1 : List Cond := [Cond.methodLink RX0 198 yX0_coverValue, Cond.instanceMethod yX0_coverValue, Cond.selects RX0 yX0_coverValue yX0_coverValue, Cond.initialized RX0, Cond.code yX0_coverValue cX0_coverValue 4 (some .int), Cond.fieldLink RX0 9 "Submodulary" "elements" "I", Cond.fieldLink RX0 19 "Submodulary" "covered" "[I", Cond.methodLink RX0 83 yX0_has, Cond.static yX0_has, Cond.code yX0_has cX0_has 2 (some .boolean), Cond.methodLink RX0 68 yX0_at, Cond.static yX0_at, Cond.code yX0_at cX0_at 2 (some .int), Cond.methodLink RX0 157 yJ6_bitCount_0f7a4, Cond.static yJ6_bitCount_0f7a4, Cond.initialized RJ6, Cond.code yJ6_bitCount_0f7a4 cJ6_bitCount_0f7a4 1 (some .int), Cond.constant RJ6 265 (1431655765), Cond.constant RJ6 266 (858993459), Cond.constant RJ6 267 (252645135), Cond.methodLink RX0 201 yX0_cutValue, Cond.instanceMethod yX0_cutValue, Cond.selects RX0 yX0_cutValue yX0_cutValue, Cond.code yX0_cutValue cX0_cutValue 5 (some .int)]
def wsX0_toldValue_r2 : List Cond := [Cond.methodLink RX0 87 yX0_edgeWeight, Cond.instanceMethod yX0_edgeWeight, Cond.selects RX0 yX0_edgeWeight yX0_edgeWeight, Cond.code yX0_edgeWeight cX0_edgeWeight 3 (some .int), Cond.fieldLink RX0 23 "Submodulary" "edges" "[I", Cond.methodLink RX0 204 yX0_rankValue, Cond.instanceMethod yX0_rankValue, Cond.selects RX0 yX0_rankValue yX0_rankValue, Cond.code yX0_rankValue cX0_rankValue 5 (some .int), Cond.methodLink RX0 128 Lib.Math.min.name, Cond.static Lib.Math.min.name, Cond.initialized "java/lang/Math", Cond.code Lib.Math.min.name Lib.Math.min.code 2 (some .int), Cond.methodLink RX0 210 yX0_countOf, Cond.instanceMethod yX0_countOf, Cond.selects RX0 yX0_countOf yX0_countOf, Cond.code yX0_countOf cX0_countOf 6 (some .int), Cond.methodLink RX0 96 yX0_colourOf, Cond.instanceMethod yX0_colourOf, Cond.selects RX0 yX0_colourOf yX0_colourOf, Cond.code yX0_colourOf cX0_colourOf 3 (some .int), Cond.fieldLink RX0 26 "Submodulary" "colours" "[I", Cond.methodLink RX0 99 yX0_roomOf, Cond.instanceMethod yX0_roomOf]
def wsX0_toldValue_r3 : List Cond := [Cond.selects RX0 yX0_roomOf yX0_roomOf, Cond.code yX0_roomOf cX0_roomOf 3 (some .int), Cond.fieldLink RX0 29 "Submodulary" "rooms" "[I", Cond.methodLink RX0 207 yX0_weightsValue, Cond.instanceMethod yX0_weightsValue, Cond.selects RX0 yX0_weightsValue yX0_weightsValue, Cond.code yX0_weightsValue cX0_weightsValue 4 (some .int), Cond.fieldLink RX0 32 "Submodulary" "weights" "[I"]
def wsX0_toldValue : List Cond := .code yX0_toldValue cX0_toldValue 3 (some .int) :: ((wsX0_toldValue_r1 ++ (wsX0_toldValue_r2 ++ wsX0_toldValue_r3)) ++ wsX00)
def wsX0_putNew : List Cond := .code yX0_putNew cX0_putNew 3 none :: ([.fieldLink RX0 35 "Submodulary" "values" "[I", .fieldLink RX0 13 "Submodulary" "functions" "I", .methodLink RX0 79 yX0_put, .static yX0_put, .initialized RX0, .code yX0_put cX0_put 3 none] ++ wsX00)
def wsX0_countNew : List Cond := .code yX0_countNew cX0_countNew 2 (some .int) :: ([.fieldLink RX0 13 "Submodulary" "functions" "I"] ++ wsX00)
def wsX0_make_r1 : List Cond := [Cond.methodLink RX0 53 yX0_isWithin, Cond.static yX0_isWithin, Cond.initialized RX0, Cond.code yX0_isWithin cX0_isWithin 3 (some .boolean), Cond.methodLink RX0 57 yX0_needArgument, Cond.static yX0_needArgument, Cond.code yX0_needArgument cX0_needArgument 1 none, Cond.classLink RX0 188 "java/lang/IllegalArgumentException", Cond.initialized "java/lang/IllegalArgumentException", Cond.methodLink RX0 102 yX0_needPlace, Cond.instanceMethod yX0_needPlace, Cond.selects RX0 yX0_needPlace yX0_needPlace, Cond.code yX0_needPlace cX0_needPlace 1 none, Cond.fieldLink RX0 13 "Submodulary" "functions" "I", Cond.methodLink RX0 140 yX0_needState, Cond.static yX0_needState, Cond.code yX0_needState cX0_needState 1 none, Cond.classLink RX0 193 "java/lang/IllegalStateException", Cond.initialized "java/lang/IllegalStateException", Cond.methodLink RX0 105 yX0_sets, Cond.instanceMethod yX0_sets, Cond.selects RX0 yX0_sets yX0_sets, Cond.code yX0_sets cX0_sets 1 (some .int), Cond.fieldLink RX0 9 "Submodulary" "elements" "I"]
def wsX0_make_r2 : List Cond := [Cond.methodLink RX0 109 yX0_toldValue, Cond.instanceMethod yX0_toldValue, Cond.selects RX0 yX0_toldValue yX0_toldValue, Cond.code yX0_toldValue cX0_toldValue 3 (some .int), Cond.methodLink RX0 198 yX0_coverValue, Cond.instanceMethod yX0_coverValue, Cond.selects RX0 yX0_coverValue yX0_coverValue, Cond.code yX0_coverValue cX0_coverValue 4 (some .int), Cond.fieldLink RX0 19 "Submodulary" "covered" "[I", Cond.methodLink RX0 83 yX0_has, Cond.static yX0_has, Cond.code yX0_has cX0_has 2 (some .boolean), Cond.methodLink RX0 68 yX0_at, Cond.static yX0_at, Cond.code yX0_at cX0_at 2 (some .int), Cond.methodLink RX0 157 yJ6_bitCount_0f7a4, Cond.static yJ6_bitCount_0f7a4, Cond.initialized RJ6, Cond.code yJ6_bitCount_0f7a4 cJ6_bitCount_0f7a4 1 (some .int), Cond.constant RJ6 265 (1431655765), Cond.constant RJ6 266 (858993459), Cond.constant RJ6 267 (252645135), Cond.methodLink RX0 201 yX0_cutValue, Cond.instanceMethod yX0_cutValue]
def wsX0_make_r3 : List Cond := [Cond.selects RX0 yX0_cutValue yX0_cutValue, Cond.code yX0_cutValue cX0_cutValue 5 (some .int), Cond.methodLink RX0 87 yX0_edgeWeight, Cond.instanceMethod yX0_edgeWeight, Cond.selects RX0 yX0_edgeWeight yX0_edgeWeight, Cond.code yX0_edgeWeight cX0_edgeWeight 3 (some .int), Cond.fieldLink RX0 23 "Submodulary" "edges" "[I", Cond.methodLink RX0 204 yX0_rankValue, Cond.instanceMethod yX0_rankValue, Cond.selects RX0 yX0_rankValue yX0_rankValue, Cond.code yX0_rankValue cX0_rankValue 5 (some .int), Cond.methodLink RX0 128 Lib.Math.min.name, Cond.static Lib.Math.min.name, Cond.initialized "java/lang/Math", Cond.code Lib.Math.min.name Lib.Math.min.code 2 (some .int), Cond.methodLink RX0 210 yX0_countOf, Cond.instanceMethod yX0_countOf, Cond.selects RX0 yX0_countOf yX0_countOf, Cond.code yX0_countOf cX0_countOf 6 (some .int), Cond.methodLink RX0 96 yX0_colourOf, Cond.instanceMethod yX0_colourOf, Cond.selects RX0 yX0_colourOf yX0_colourOf, Cond.code yX0_colourOf cX0_colourOf 3 (some .int), Cond.fieldLink RX0 26 "Submodulary" "colours" "[I"]
def wsX0_make_r4 : List Cond := [Cond.methodLink RX0 99 yX0_roomOf, Cond.instanceMethod yX0_roomOf, Cond.selects RX0 yX0_roomOf yX0_roomOf, Cond.code yX0_roomOf cX0_roomOf 3 (some .int), Cond.fieldLink RX0 29 "Submodulary" "rooms" "[I", Cond.methodLink RX0 207 yX0_weightsValue, Cond.instanceMethod yX0_weightsValue, Cond.selects RX0 yX0_weightsValue yX0_weightsValue, Cond.code yX0_weightsValue cX0_weightsValue 4 (some .int), Cond.fieldLink RX0 32 "Submodulary" "weights" "[I", Cond.methodLink RX0 112 yX0_putNew, Cond.instanceMethod yX0_putNew, Cond.selects RX0 yX0_putNew yX0_putNew, Cond.code yX0_putNew cX0_putNew 3 none, Cond.fieldLink RX0 35 "Submodulary" "values" "[I", Cond.methodLink RX0 79 yX0_put, Cond.static yX0_put, Cond.code yX0_put cX0_put 3 none, Cond.methodLink RX0 116 yX0_countNew, Cond.instanceMethod yX0_countNew, Cond.selects RX0 yX0_countNew yX0_countNew, Cond.code yX0_countNew cX0_countNew 2 (some .int)]
def wsX0_make : List Cond := .code yX0_make cX0_make 3 (some .int) :: ((wsX0_make_r1 ++ (wsX0_make_r2 ++ (wsX0_make_r3 ++ wsX0_make_r4))) ++ wsX00 ++ (vx_atS RX0 192 "java/lang/IllegalArgumentException" ["java/lang/RuntimeException", "java/lang/Exception"]).filter goodWord ++ (vx_atS RX0 197 "java/lang/IllegalStateException" ["java/lang/RuntimeException", "java/lang/Exception"]).filter goodWord)
def wsX0_isFunction : List Cond := .code yX0_isFunction cX0_isFunction 2 (some .boolean) :: ([.fieldLink RX0 13 "Submodulary" "functions" "I"] ++ wsX00)
def wsX0_valueOf : List Cond := .code yX0_valueOf cX0_valueOf 3 (some .int) :: ([.fieldLink RX0 35 "Submodulary" "values" "[I", .methodLink RX0 68 yX0_at, .static yX0_at, .initialized RX0, .code yX0_at cX0_at 2 (some .int)] ++ wsX00)
def wsX0_sum_r1 : List Cond := [Cond.methodLink RX0 119 yX0_isFunction, Cond.instanceMethod yX0_isFunction, Cond.selects RX0 yX0_isFunction yX0_isFunction, Cond.initialized RX0, Cond.code yX0_isFunction cX0_isFunction 2 (some .boolean), Cond.fieldLink RX0 13 "Submodulary" "functions" "I", Cond.methodLink RX0 65 yX0_needIndex, Cond.static yX0_needIndex, Cond.code yX0_needIndex cX0_needIndex 1 none, Cond.classLink RX0 181 "java/lang/IndexOutOfBoundsException", Cond.initialized "java/lang/IndexOutOfBoundsException", Cond.methodLink RX0 102 yX0_needPlace, Cond.instanceMethod yX0_needPlace, Cond.selects RX0 yX0_needPlace yX0_needPlace, Cond.code yX0_needPlace cX0_needPlace 1 none, Cond.methodLink RX0 140 yX0_needState, Cond.static yX0_needState, Cond.code yX0_needState cX0_needState 1 none, Cond.classLink RX0 193 "java/lang/IllegalStateException", Cond.initialized "java/lang/IllegalStateException", Cond.methodLink RX0 105 yX0_sets, Cond.instanceMethod yX0_sets, Cond.selects RX0 yX0_sets yX0_sets, Cond.code yX0_sets cX0_sets 1 (some .int)]
def wsX0_sum_r2 : List Cond := [Cond.fieldLink RX0 9 "Submodulary" "elements" "I", Cond.methodLink RX0 122 yX0_valueOf, Cond.instanceMethod yX0_valueOf, Cond.selects RX0 yX0_valueOf yX0_valueOf, Cond.code yX0_valueOf cX0_valueOf 3 (some .int), Cond.fieldLink RX0 35 "Submodulary" "values" "[I", Cond.methodLink RX0 68 yX0_at, Cond.static yX0_at, Cond.code yX0_at cX0_at 2 (some .int), Cond.methodLink RX0 112 yX0_putNew, Cond.instanceMethod yX0_putNew, Cond.selects RX0 yX0_putNew yX0_putNew, Cond.code yX0_putNew cX0_putNew 3 none, Cond.methodLink RX0 79 yX0_put, Cond.static yX0_put, Cond.code yX0_put cX0_put 3 none, Cond.methodLink RX0 116 yX0_countNew, Cond.instanceMethod yX0_countNew, Cond.selects RX0 yX0_countNew yX0_countNew, Cond.code yX0_countNew cX0_countNew 2 (some .int)]
def wsX0_sum : List Cond := .code yX0_sum cX0_sum 4 (some .int) :: ((wsX0_sum_r1 ++ wsX0_sum_r2) ++ wsX00 ++ (vx_atS RX0 185 "java/lang/IndexOutOfBoundsException" ["java/lang/RuntimeException", "java/lang/Exception"]).filter goodWord ++ (vx_atS RX0 197 "java/lang/IllegalStateException" ["java/lang/RuntimeException", "java/lang/Exception"]).filter goodWord)
def wsX0_isSet : List Cond := .code yX0_isSet cX0_isSet 2 (some .boolean) :: ([.methodLink RX0 105 yX0_sets, .instanceMethod yX0_sets, .selects RX0 yX0_sets yX0_sets, .initialized RX0, .code yX0_sets cX0_sets 1 (some .int), .fieldLink RX0 9 "Submodulary" "elements" "I"] ++ wsX00)
def wsX0_contract_r1 : List Cond := [Cond.methodLink RX0 119 yX0_isFunction, Cond.instanceMethod yX0_isFunction, Cond.selects RX0 yX0_isFunction yX0_isFunction, Cond.initialized RX0, Cond.code yX0_isFunction cX0_isFunction 2 (some .boolean), Cond.fieldLink RX0 13 "Submodulary" "functions" "I", Cond.methodLink RX0 65 yX0_needIndex, Cond.static yX0_needIndex, Cond.code yX0_needIndex cX0_needIndex 1 none, Cond.classLink RX0 181 "java/lang/IndexOutOfBoundsException", Cond.initialized "java/lang/IndexOutOfBoundsException", Cond.methodLink RX0 125 yX0_isSet, Cond.instanceMethod yX0_isSet, Cond.selects RX0 yX0_isSet yX0_isSet, Cond.code yX0_isSet cX0_isSet 2 (some .boolean), Cond.methodLink RX0 105 yX0_sets, Cond.instanceMethod yX0_sets, Cond.selects RX0 yX0_sets yX0_sets, Cond.code yX0_sets cX0_sets 1 (some .int), Cond.fieldLink RX0 9 "Submodulary" "elements" "I", Cond.methodLink RX0 57 yX0_needArgument, Cond.static yX0_needArgument, Cond.code yX0_needArgument cX0_needArgument 1 none, Cond.classLink RX0 188 "java/lang/IllegalArgumentException"]
def wsX0_contract_r2 : List Cond := [Cond.initialized "java/lang/IllegalArgumentException", Cond.methodLink RX0 102 yX0_needPlace, Cond.instanceMethod yX0_needPlace, Cond.selects RX0 yX0_needPlace yX0_needPlace, Cond.code yX0_needPlace cX0_needPlace 1 none, Cond.methodLink RX0 140 yX0_needState, Cond.static yX0_needState, Cond.code yX0_needState cX0_needState 1 none, Cond.classLink RX0 193 "java/lang/IllegalStateException", Cond.initialized "java/lang/IllegalStateException", Cond.methodLink RX0 122 yX0_valueOf, Cond.instanceMethod yX0_valueOf, Cond.selects RX0 yX0_valueOf yX0_valueOf, Cond.code yX0_valueOf cX0_valueOf 3 (some .int), Cond.fieldLink RX0 35 "Submodulary" "values" "[I", Cond.methodLink RX0 68 yX0_at, Cond.static yX0_at, Cond.code yX0_at cX0_at 2 (some .int), Cond.methodLink RX0 112 yX0_putNew, Cond.instanceMethod yX0_putNew, Cond.selects RX0 yX0_putNew yX0_putNew, Cond.code yX0_putNew cX0_putNew 3 none, Cond.methodLink RX0 79 yX0_put, Cond.static yX0_put]
def wsX0_contract_r3 : List Cond := [Cond.code yX0_put cX0_put 3 none, Cond.methodLink RX0 116 yX0_countNew, Cond.instanceMethod yX0_countNew, Cond.selects RX0 yX0_countNew yX0_countNew, Cond.code yX0_countNew cX0_countNew 2 (some .int)]
def wsX0_contract : List Cond := .code yX0_contract cX0_contract 4 (some .int) :: ((wsX0_contract_r1 ++ (wsX0_contract_r2 ++ wsX0_contract_r3)) ++ wsX00 ++ (vx_atS RX0 185 "java/lang/IndexOutOfBoundsException" ["java/lang/RuntimeException", "java/lang/Exception"]).filter goodWord ++ (vx_atS RX0 192 "java/lang/IllegalArgumentException" ["java/lang/RuntimeException", "java/lang/Exception"]).filter goodWord ++ (vx_atS RX0 197 "java/lang/IllegalStateException" ["java/lang/RuntimeException", "java/lang/Exception"]).filter goodWord)
def wsX0_cap_r1 : List Cond := [Cond.methodLink RX0 128 Lib.Math.min.name, Cond.static Lib.Math.min.name, Cond.initialized "java/lang/Math", Cond.code Lib.Math.min.name Lib.Math.min.code 2 (some .int), Cond.methodLink RX0 119 yX0_isFunction, Cond.instanceMethod yX0_isFunction, Cond.selects RX0 yX0_isFunction yX0_isFunction, Cond.initialized RX0, Cond.code yX0_isFunction cX0_isFunction 2 (some .boolean), Cond.fieldLink RX0 13 "Submodulary" "functions" "I", Cond.methodLink RX0 65 yX0_needIndex, Cond.static yX0_needIndex, Cond.code yX0_needIndex cX0_needIndex 1 none, Cond.classLink RX0 181 "java/lang/IndexOutOfBoundsException", Cond.initialized "java/lang/IndexOutOfBoundsException", Cond.methodLink RX0 53 yX0_isWithin, Cond.static yX0_isWithin, Cond.code yX0_isWithin cX0_isWithin 3 (some .boolean), Cond.methodLink RX0 57 yX0_needArgument, Cond.static yX0_needArgument, Cond.code yX0_needArgument cX0_needArgument 1 none, Cond.classLink RX0 188 "java/lang/IllegalArgumentException", Cond.initialized "java/lang/IllegalArgumentException", Cond.methodLink RX0 102 yX0_needPlace]
def wsX0_cap_r2 : List Cond := [Cond.instanceMethod yX0_needPlace, Cond.selects RX0 yX0_needPlace yX0_needPlace, Cond.code yX0_needPlace cX0_needPlace 1 none, Cond.methodLink RX0 140 yX0_needState, Cond.static yX0_needState, Cond.code yX0_needState cX0_needState 1 none, Cond.classLink RX0 193 "java/lang/IllegalStateException", Cond.initialized "java/lang/IllegalStateException", Cond.methodLink RX0 105 yX0_sets, Cond.instanceMethod yX0_sets, Cond.selects RX0 yX0_sets yX0_sets, Cond.code yX0_sets cX0_sets 1 (some .int), Cond.fieldLink RX0 9 "Submodulary" "elements" "I", Cond.methodLink RX0 122 yX0_valueOf, Cond.instanceMethod yX0_valueOf, Cond.selects RX0 yX0_valueOf yX0_valueOf, Cond.code yX0_valueOf cX0_valueOf 3 (some .int), Cond.fieldLink RX0 35 "Submodulary" "values" "[I", Cond.methodLink RX0 68 yX0_at, Cond.static yX0_at, Cond.code yX0_at cX0_at 2 (some .int), Cond.methodLink RX0 112 yX0_putNew, Cond.instanceMethod yX0_putNew, Cond.selects RX0 yX0_putNew yX0_putNew]
def wsX0_cap_r3 : List Cond := [Cond.code yX0_putNew cX0_putNew 3 none, Cond.methodLink RX0 79 yX0_put, Cond.static yX0_put, Cond.code yX0_put cX0_put 3 none, Cond.methodLink RX0 116 yX0_countNew, Cond.instanceMethod yX0_countNew, Cond.selects RX0 yX0_countNew yX0_countNew, Cond.code yX0_countNew cX0_countNew 2 (some .int)]
def wsX0_cap : List Cond := .code yX0_cap cX0_cap 4 (some .int) :: ((wsX0_cap_r1 ++ (wsX0_cap_r2 ++ wsX0_cap_r3)) ++ wsX00 ++ (vx_atS RX0 185 "java/lang/IndexOutOfBoundsException" ["java/lang/RuntimeException", "java/lang/Exception"]).filter goodWord ++ (vx_atS RX0 192 "java/lang/IllegalArgumentException" ["java/lang/RuntimeException", "java/lang/Exception"]).filter goodWord ++ (vx_atS RX0 197 "java/lang/IllegalStateException" ["java/lang/RuntimeException", "java/lang/Exception"]).filter goodWord)
def wsX0_value_r1 : List Cond := [Cond.methodLink RX0 119 yX0_isFunction, Cond.instanceMethod yX0_isFunction, Cond.selects RX0 yX0_isFunction yX0_isFunction, Cond.initialized RX0, Cond.code yX0_isFunction cX0_isFunction 2 (some .boolean), Cond.fieldLink RX0 13 "Submodulary" "functions" "I", Cond.methodLink RX0 65 yX0_needIndex, Cond.static yX0_needIndex, Cond.code yX0_needIndex cX0_needIndex 1 none, Cond.classLink RX0 181 "java/lang/IndexOutOfBoundsException", Cond.initialized "java/lang/IndexOutOfBoundsException", Cond.methodLink RX0 125 yX0_isSet, Cond.instanceMethod yX0_isSet, Cond.selects RX0 yX0_isSet yX0_isSet, Cond.code yX0_isSet cX0_isSet 2 (some .boolean), Cond.methodLink RX0 105 yX0_sets, Cond.instanceMethod yX0_sets, Cond.selects RX0 yX0_sets yX0_sets, Cond.code yX0_sets cX0_sets 1 (some .int), Cond.fieldLink RX0 9 "Submodulary" "elements" "I", Cond.methodLink RX0 57 yX0_needArgument, Cond.static yX0_needArgument, Cond.code yX0_needArgument cX0_needArgument 1 none, Cond.classLink RX0 188 "java/lang/IllegalArgumentException"]
def wsX0_value_r2 : List Cond := [Cond.initialized "java/lang/IllegalArgumentException", Cond.methodLink RX0 122 yX0_valueOf, Cond.instanceMethod yX0_valueOf, Cond.selects RX0 yX0_valueOf yX0_valueOf, Cond.code yX0_valueOf cX0_valueOf 3 (some .int), Cond.fieldLink RX0 35 "Submodulary" "values" "[I", Cond.methodLink RX0 68 yX0_at, Cond.static yX0_at, Cond.code yX0_at cX0_at 2 (some .int)]
def wsX0_value : List Cond := .code yX0_value cX0_value 3 (some .int) :: ((wsX0_value_r1 ++ wsX0_value_r2) ++ wsX00 ++ (vx_atS RX0 185 "java/lang/IndexOutOfBoundsException" ["java/lang/RuntimeException", "java/lang/Exception"]).filter goodWord ++ (vx_atS RX0 192 "java/lang/IllegalArgumentException" ["java/lang/RuntimeException", "java/lang/Exception"]).filter goodWord)
def wsX0_gain : List Cond := .code yX0_gain cX0_gain 4 (some .int) :: ([.methodLink RX0 72 yX0_with, .static yX0_with, .initialized RX0, .code yX0_with cX0_with 2 (some .int), .methodLink RX0 122 yX0_valueOf, .instanceMethod yX0_valueOf, .selects RX0 yX0_valueOf yX0_valueOf, .code yX0_valueOf cX0_valueOf 3 (some .int), .fieldLink RX0 35 "Submodulary" "values" "[I", .methodLink RX0 68 yX0_at, .static yX0_at, .code yX0_at cX0_at 2 (some .int)] ++ wsX00)
def wsX0_hasLawAbove : List Cond := .code yX0_hasLawAbove cX0_hasLawAbove 6 (some .boolean) :: ([.fieldLink RX0 9 "Submodulary" "elements" "I", .methodLink RX0 83 yX0_has, .static yX0_has, .initialized RX0, .code yX0_has cX0_has 2 (some .boolean), .methodLink RX0 136 yX0_gain, .instanceMethod yX0_gain, .selects RX0 yX0_gain yX0_gain, .code yX0_gain cX0_gain 4 (some .int), .methodLink RX0 72 yX0_with, .static yX0_with, .code yX0_with cX0_with 2 (some .int), .methodLink RX0 122 yX0_valueOf, .instanceMethod yX0_valueOf, .selects RX0 yX0_valueOf yX0_valueOf, .code yX0_valueOf cX0_valueOf 3 (some .int), .fieldLink RX0 35 "Submodulary" "values" "[I", .methodLink RX0 68 yX0_at, .static yX0_at, .code yX0_at cX0_at 2 (some .int)] ++ wsX00)
def wsX0_hasLaw_r1 : List Cond := [Cond.methodLink RX0 105 yX0_sets, Cond.instanceMethod yX0_sets, Cond.selects RX0 yX0_sets yX0_sets, Cond.initialized RX0, Cond.code yX0_sets cX0_sets 1 (some .int), Cond.fieldLink RX0 9 "Submodulary" "elements" "I", Cond.methodLink RX0 213 yX0_hasLawAbove, Cond.instanceMethod yX0_hasLawAbove, Cond.selects RX0 yX0_hasLawAbove yX0_hasLawAbove, Cond.code yX0_hasLawAbove cX0_hasLawAbove 6 (some .boolean), Cond.methodLink RX0 83 yX0_has, Cond.static yX0_has, Cond.code yX0_has cX0_has 2 (some .boolean), Cond.methodLink RX0 136 yX0_gain, Cond.instanceMethod yX0_gain, Cond.selects RX0 yX0_gain yX0_gain, Cond.code yX0_gain cX0_gain 4 (some .int), Cond.methodLink RX0 72 yX0_with, Cond.static yX0_with, Cond.code yX0_with cX0_with 2 (some .int), Cond.methodLink RX0 122 yX0_valueOf, Cond.instanceMethod yX0_valueOf, Cond.selects RX0 yX0_valueOf yX0_valueOf, Cond.code yX0_valueOf cX0_valueOf 3 (some .int)]
def wsX0_hasLaw_r2 : List Cond := [Cond.fieldLink RX0 35 "Submodulary" "values" "[I", Cond.methodLink RX0 68 yX0_at, Cond.static yX0_at, Cond.code yX0_at cX0_at 2 (some .int)]
def wsX0_hasLaw : List Cond := .code yX0_hasLaw cX0_hasLaw 3 (some .boolean) :: ((wsX0_hasLaw_r1 ++ wsX0_hasLaw_r2) ++ wsX00)
def wsX0_isLawful_r1 : List Cond := [Cond.methodLink RX0 119 yX0_isFunction, Cond.instanceMethod yX0_isFunction, Cond.selects RX0 yX0_isFunction yX0_isFunction, Cond.initialized RX0, Cond.code yX0_isFunction cX0_isFunction 2 (some .boolean), Cond.fieldLink RX0 13 "Submodulary" "functions" "I", Cond.methodLink RX0 65 yX0_needIndex, Cond.static yX0_needIndex, Cond.code yX0_needIndex cX0_needIndex 1 none, Cond.classLink RX0 181 "java/lang/IndexOutOfBoundsException", Cond.initialized "java/lang/IndexOutOfBoundsException", Cond.methodLink RX0 133 yX0_hasLaw, Cond.instanceMethod yX0_hasLaw, Cond.selects RX0 yX0_hasLaw yX0_hasLaw, Cond.code yX0_hasLaw cX0_hasLaw 3 (some .boolean), Cond.methodLink RX0 105 yX0_sets, Cond.instanceMethod yX0_sets, Cond.selects RX0 yX0_sets yX0_sets, Cond.code yX0_sets cX0_sets 1 (some .int), Cond.fieldLink RX0 9 "Submodulary" "elements" "I", Cond.methodLink RX0 213 yX0_hasLawAbove, Cond.instanceMethod yX0_hasLawAbove, Cond.selects RX0 yX0_hasLawAbove yX0_hasLawAbove, Cond.code yX0_hasLawAbove cX0_hasLawAbove 6 (some .boolean)]
def wsX0_isLawful_r2 : List Cond := [Cond.methodLink RX0 83 yX0_has, Cond.static yX0_has, Cond.code yX0_has cX0_has 2 (some .boolean), Cond.methodLink RX0 136 yX0_gain, Cond.instanceMethod yX0_gain, Cond.selects RX0 yX0_gain yX0_gain, Cond.code yX0_gain cX0_gain 4 (some .int), Cond.methodLink RX0 72 yX0_with, Cond.static yX0_with, Cond.code yX0_with cX0_with 2 (some .int), Cond.methodLink RX0 122 yX0_valueOf, Cond.instanceMethod yX0_valueOf, Cond.selects RX0 yX0_valueOf yX0_valueOf, Cond.code yX0_valueOf cX0_valueOf 3 (some .int), Cond.fieldLink RX0 35 "Submodulary" "values" "[I", Cond.methodLink RX0 68 yX0_at, Cond.static yX0_at, Cond.code yX0_at cX0_at 2 (some .int)]
def wsX0_isLawful : List Cond := .code yX0_isLawful cX0_isLawful 2 (some .boolean) :: ((wsX0_isLawful_r1 ++ wsX0_isLawful_r2) ++ wsX00 ++ (vx_atS RX0 185 "java/lang/IndexOutOfBoundsException" ["java/lang/RuntimeException", "java/lang/Exception"]).filter goodWord)
def wsX0_rises_r1 : List Cond := [Cond.fieldLink RX0 9 "Submodulary" "elements" "I", Cond.methodLink RX0 119 yX0_isFunction, Cond.instanceMethod yX0_isFunction, Cond.selects RX0 yX0_isFunction yX0_isFunction, Cond.initialized RX0, Cond.code yX0_isFunction cX0_isFunction 2 (some .boolean), Cond.fieldLink RX0 13 "Submodulary" "functions" "I", Cond.methodLink RX0 65 yX0_needIndex, Cond.static yX0_needIndex, Cond.code yX0_needIndex cX0_needIndex 1 none, Cond.classLink RX0 181 "java/lang/IndexOutOfBoundsException", Cond.initialized "java/lang/IndexOutOfBoundsException", Cond.methodLink RX0 105 yX0_sets, Cond.instanceMethod yX0_sets, Cond.selects RX0 yX0_sets yX0_sets, Cond.code yX0_sets cX0_sets 1 (some .int), Cond.methodLink RX0 136 yX0_gain, Cond.instanceMethod yX0_gain, Cond.selects RX0 yX0_gain yX0_gain, Cond.code yX0_gain cX0_gain 4 (some .int), Cond.methodLink RX0 72 yX0_with, Cond.static yX0_with, Cond.code yX0_with cX0_with 2 (some .int), Cond.methodLink RX0 122 yX0_valueOf]
def wsX0_rises_r2 : List Cond := [Cond.instanceMethod yX0_valueOf, Cond.selects RX0 yX0_valueOf yX0_valueOf, Cond.code yX0_valueOf cX0_valueOf 3 (some .int), Cond.fieldLink RX0 35 "Submodulary" "values" "[I", Cond.methodLink RX0 68 yX0_at, Cond.static yX0_at, Cond.code yX0_at cX0_at 2 (some .int)]
def wsX0_rises : List Cond := .code yX0_rises cX0_rises 4 (some .boolean) :: ((wsX0_rises_r1 ++ wsX0_rises_r2) ++ wsX00 ++ (vx_atS RX0 185 "java/lang/IndexOutOfBoundsException" ["java/lang/RuntimeException", "java/lang/Exception"]).filter goodWord)
def wsX0_takenIn : List Cond := .code yX0_takenIn cX0_takenIn 8 (some .int) :: ([.fieldLink RX0 9 "Submodulary" "elements" "I", .methodLink RX0 83 yX0_has, .static yX0_has, .initialized RX0, .code yX0_has cX0_has 2 (some .boolean), .methodLink RX0 136 yX0_gain, .instanceMethod yX0_gain, .selects RX0 yX0_gain yX0_gain, .code yX0_gain cX0_gain 4 (some .int), .methodLink RX0 72 yX0_with, .static yX0_with, .code yX0_with cX0_with 2 (some .int), .methodLink RX0 122 yX0_valueOf, .instanceMethod yX0_valueOf, .selects RX0 yX0_valueOf yX0_valueOf, .code yX0_valueOf cX0_valueOf 3 (some .int), .fieldLink RX0 35 "Submodulary" "values" "[I", .methodLink RX0 68 yX0_at, .static yX0_at, .code yX0_at cX0_at 2 (some .int)] ++ wsX00)
def wsX0_takenOut : List Cond := .code yX0_takenOut cX0_takenOut 8 (some .int) :: ([.fieldLink RX0 9 "Submodulary" "elements" "I", .methodLink RX0 83 yX0_has, .static yX0_has, .initialized RX0, .code yX0_has cX0_has 2 (some .boolean), .methodLink RX0 76 yX0_without, .static yX0_without, .code yX0_without cX0_without 2 (some .int), .methodLink RX0 136 yX0_gain, .instanceMethod yX0_gain, .selects RX0 yX0_gain yX0_gain, .code yX0_gain cX0_gain 4 (some .int), .methodLink RX0 72 yX0_with, .static yX0_with, .code yX0_with cX0_with 2 (some .int), .methodLink RX0 122 yX0_valueOf, .instanceMethod yX0_valueOf, .selects RX0 yX0_valueOf yX0_valueOf, .code yX0_valueOf cX0_valueOf 3 (some .int), .fieldLink RX0 35 "Submodulary" "values" "[I", .methodLink RX0 68 yX0_at, .static yX0_at, .code yX0_at cX0_at 2 (some .int)] ++ wsX00)
def wsX0_lowest : List Cond := .code yX0_lowest cX0_lowest 3 (some .int) :: ([.fieldLink RX0 9 "Submodulary" "elements" "I", .methodLink RX0 83 yX0_has, .static yX0_has, .initialized RX0, .code yX0_has cX0_has 2 (some .boolean)] ++ wsX00)
def wsX0_leastBetween_r1 : List Cond := [Cond.fieldLink RX0 9 "Submodulary" "elements" "I", Cond.methodLink RX0 216 yX0_takenIn, Cond.instanceMethod yX0_takenIn, Cond.selects RX0 yX0_takenIn yX0_takenIn, Cond.initialized RX0, Cond.code yX0_takenIn cX0_takenIn 8 (some .int), Cond.methodLink RX0 83 yX0_has, Cond.static yX0_has, Cond.code yX0_has cX0_has 2 (some .boolean), Cond.methodLink RX0 136 yX0_gain, Cond.instanceMethod yX0_gain, Cond.selects RX0 yX0_gain yX0_gain, Cond.code yX0_gain cX0_gain 4 (some .int), Cond.methodLink RX0 72 yX0_with, Cond.static yX0_with, Cond.code yX0_with cX0_with 2 (some .int), Cond.methodLink RX0 122 yX0_valueOf, Cond.instanceMethod yX0_valueOf, Cond.selects RX0 yX0_valueOf yX0_valueOf, Cond.code yX0_valueOf cX0_valueOf 3 (some .int), Cond.fieldLink RX0 35 "Submodulary" "values" "[I", Cond.methodLink RX0 68 yX0_at, Cond.static yX0_at, Cond.code yX0_at cX0_at 2 (some .int)]
def wsX0_leastBetween_r2 : List Cond := [Cond.methodLink RX0 220 yX0_takenOut, Cond.instanceMethod yX0_takenOut, Cond.selects RX0 yX0_takenOut yX0_takenOut, Cond.code yX0_takenOut cX0_takenOut 8 (some .int), Cond.methodLink RX0 76 yX0_without, Cond.static yX0_without, Cond.code yX0_without cX0_without 2 (some .int), Cond.methodLink RX0 223 yX0_lowest, Cond.instanceMethod yX0_lowest, Cond.selects RX0 yX0_lowest yX0_lowest, Cond.code yX0_lowest cX0_lowest 3 (some .int), Cond.methodLink RX0 143 yX0_leastBetween, Cond.instanceMethod yX0_leastBetween, Cond.selects RX0 yX0_leastBetween yX0_leastBetween]
def wsX0_leastBetween : List Cond := .code yX0_leastBetween cX0_leastBetween 12 (some .int) :: ((wsX0_leastBetween_r1 ++ wsX0_leastBetween_r2) ++ wsX00)
def wsX0_least_r1 : List Cond := [Cond.methodLink RX0 119 yX0_isFunction, Cond.instanceMethod yX0_isFunction, Cond.selects RX0 yX0_isFunction yX0_isFunction, Cond.initialized RX0, Cond.code yX0_isFunction cX0_isFunction 2 (some .boolean), Cond.fieldLink RX0 13 "Submodulary" "functions" "I", Cond.methodLink RX0 65 yX0_needIndex, Cond.static yX0_needIndex, Cond.code yX0_needIndex cX0_needIndex 1 none, Cond.classLink RX0 181 "java/lang/IndexOutOfBoundsException", Cond.initialized "java/lang/IndexOutOfBoundsException", Cond.methodLink RX0 133 yX0_hasLaw, Cond.instanceMethod yX0_hasLaw, Cond.selects RX0 yX0_hasLaw yX0_hasLaw, Cond.code yX0_hasLaw cX0_hasLaw 3 (some .boolean), Cond.methodLink RX0 105 yX0_sets, Cond.instanceMethod yX0_sets, Cond.selects RX0 yX0_sets yX0_sets, Cond.code yX0_sets cX0_sets 1 (some .int), Cond.fieldLink RX0 9 "Submodulary" "elements" "I", Cond.methodLink RX0 213 yX0_hasLawAbove, Cond.instanceMethod yX0_hasLawAbove, Cond.selects RX0 yX0_hasLawAbove yX0_hasLawAbove, Cond.code yX0_hasLawAbove cX0_hasLawAbove 6 (some .boolean)]
def wsX0_least_r2 : List Cond := [Cond.methodLink RX0 83 yX0_has, Cond.static yX0_has, Cond.code yX0_has cX0_has 2 (some .boolean), Cond.methodLink RX0 136 yX0_gain, Cond.instanceMethod yX0_gain, Cond.selects RX0 yX0_gain yX0_gain, Cond.code yX0_gain cX0_gain 4 (some .int), Cond.methodLink RX0 72 yX0_with, Cond.static yX0_with, Cond.code yX0_with cX0_with 2 (some .int), Cond.methodLink RX0 122 yX0_valueOf, Cond.instanceMethod yX0_valueOf, Cond.selects RX0 yX0_valueOf yX0_valueOf, Cond.code yX0_valueOf cX0_valueOf 3 (some .int), Cond.fieldLink RX0 35 "Submodulary" "values" "[I", Cond.methodLink RX0 68 yX0_at, Cond.static yX0_at, Cond.code yX0_at cX0_at 2 (some .int), Cond.methodLink RX0 140 yX0_needState, Cond.static yX0_needState, Cond.code yX0_needState cX0_needState 1 none, Cond.classLink RX0 193 "java/lang/IllegalStateException", Cond.initialized "java/lang/IllegalStateException", Cond.methodLink RX0 143 yX0_leastBetween]
def wsX0_least_r3 : List Cond := [Cond.instanceMethod yX0_leastBetween, Cond.selects RX0 yX0_leastBetween yX0_leastBetween, Cond.code yX0_leastBetween cX0_leastBetween 12 (some .int), Cond.methodLink RX0 216 yX0_takenIn, Cond.instanceMethod yX0_takenIn, Cond.selects RX0 yX0_takenIn yX0_takenIn, Cond.code yX0_takenIn cX0_takenIn 8 (some .int), Cond.methodLink RX0 220 yX0_takenOut, Cond.instanceMethod yX0_takenOut, Cond.selects RX0 yX0_takenOut yX0_takenOut, Cond.code yX0_takenOut cX0_takenOut 8 (some .int), Cond.methodLink RX0 76 yX0_without, Cond.static yX0_without, Cond.code yX0_without cX0_without 2 (some .int), Cond.methodLink RX0 223 yX0_lowest, Cond.instanceMethod yX0_lowest, Cond.selects RX0 yX0_lowest yX0_lowest, Cond.code yX0_lowest cX0_lowest 3 (some .int)]
def wsX0_least : List Cond := .code yX0_least cX0_least 2 (some .int) :: ((wsX0_least_r1 ++ (wsX0_least_r2 ++ wsX0_least_r3)) ++ wsX00 ++ (vx_atS RX0 185 "java/lang/IndexOutOfBoundsException" ["java/lang/RuntimeException", "java/lang/Exception"]).filter goodWord ++ (vx_atS RX0 197 "java/lang/IllegalStateException" ["java/lang/RuntimeException", "java/lang/Exception"]).filter goodWord)
def wsX0_leastSet_r1 : List Cond := [Cond.methodLink RX0 119 yX0_isFunction, Cond.instanceMethod yX0_isFunction, Cond.selects RX0 yX0_isFunction yX0_isFunction, Cond.initialized RX0, Cond.code yX0_isFunction cX0_isFunction 2 (some .boolean), Cond.fieldLink RX0 13 "Submodulary" "functions" "I", Cond.methodLink RX0 65 yX0_needIndex, Cond.static yX0_needIndex, Cond.code yX0_needIndex cX0_needIndex 1 none, Cond.classLink RX0 181 "java/lang/IndexOutOfBoundsException", Cond.initialized "java/lang/IndexOutOfBoundsException", Cond.methodLink RX0 133 yX0_hasLaw, Cond.instanceMethod yX0_hasLaw, Cond.selects RX0 yX0_hasLaw yX0_hasLaw, Cond.code yX0_hasLaw cX0_hasLaw 3 (some .boolean), Cond.methodLink RX0 105 yX0_sets, Cond.instanceMethod yX0_sets, Cond.selects RX0 yX0_sets yX0_sets, Cond.code yX0_sets cX0_sets 1 (some .int), Cond.fieldLink RX0 9 "Submodulary" "elements" "I", Cond.methodLink RX0 213 yX0_hasLawAbove, Cond.instanceMethod yX0_hasLawAbove, Cond.selects RX0 yX0_hasLawAbove yX0_hasLawAbove, Cond.code yX0_hasLawAbove cX0_hasLawAbove 6 (some .boolean)]
def wsX0_leastSet_r2 : List Cond := [Cond.methodLink RX0 83 yX0_has, Cond.static yX0_has, Cond.code yX0_has cX0_has 2 (some .boolean), Cond.methodLink RX0 136 yX0_gain, Cond.instanceMethod yX0_gain, Cond.selects RX0 yX0_gain yX0_gain, Cond.code yX0_gain cX0_gain 4 (some .int), Cond.methodLink RX0 72 yX0_with, Cond.static yX0_with, Cond.code yX0_with cX0_with 2 (some .int), Cond.methodLink RX0 122 yX0_valueOf, Cond.instanceMethod yX0_valueOf, Cond.selects RX0 yX0_valueOf yX0_valueOf, Cond.code yX0_valueOf cX0_valueOf 3 (some .int), Cond.fieldLink RX0 35 "Submodulary" "values" "[I", Cond.methodLink RX0 68 yX0_at, Cond.static yX0_at, Cond.code yX0_at cX0_at 2 (some .int), Cond.methodLink RX0 140 yX0_needState, Cond.static yX0_needState, Cond.code yX0_needState cX0_needState 1 none, Cond.classLink RX0 193 "java/lang/IllegalStateException", Cond.initialized "java/lang/IllegalStateException", Cond.methodLink RX0 143 yX0_leastBetween]
def wsX0_leastSet_r3 : List Cond := [Cond.instanceMethod yX0_leastBetween, Cond.selects RX0 yX0_leastBetween yX0_leastBetween, Cond.code yX0_leastBetween cX0_leastBetween 12 (some .int), Cond.methodLink RX0 216 yX0_takenIn, Cond.instanceMethod yX0_takenIn, Cond.selects RX0 yX0_takenIn yX0_takenIn, Cond.code yX0_takenIn cX0_takenIn 8 (some .int), Cond.methodLink RX0 220 yX0_takenOut, Cond.instanceMethod yX0_takenOut, Cond.selects RX0 yX0_takenOut yX0_takenOut, Cond.code yX0_takenOut cX0_takenOut 8 (some .int), Cond.methodLink RX0 76 yX0_without, Cond.static yX0_without, Cond.code yX0_without cX0_without 2 (some .int), Cond.methodLink RX0 223 yX0_lowest, Cond.instanceMethod yX0_lowest, Cond.selects RX0 yX0_lowest yX0_lowest, Cond.code yX0_lowest cX0_lowest 3 (some .int)]
def wsX0_leastSet : List Cond := .code yX0_leastSet cX0_leastSet 3 (some .int) :: ((wsX0_leastSet_r1 ++ (wsX0_leastSet_r2 ++ wsX0_leastSet_r3)) ++ wsX00 ++ (vx_atS RX0 185 "java/lang/IndexOutOfBoundsException" ["java/lang/RuntimeException", "java/lang/Exception"]).filter goodWord ++ (vx_atS RX0 197 "java/lang/IllegalStateException" ["java/lang/RuntimeException", "java/lang/Exception"]).filter goodWord)
def wsX0_leastSetAnew_r1 : List Cond := [Cond.methodLink RX0 128 Lib.Math.min.name, Cond.static Lib.Math.min.name, Cond.initialized "java/lang/Math", Cond.code Lib.Math.min.name Lib.Math.min.code 2 (some .int), Cond.methodLink RX0 119 yX0_isFunction, Cond.instanceMethod yX0_isFunction, Cond.selects RX0 yX0_isFunction yX0_isFunction, Cond.initialized RX0, Cond.code yX0_isFunction cX0_isFunction 2 (some .boolean), Cond.fieldLink RX0 13 "Submodulary" "functions" "I", Cond.methodLink RX0 65 yX0_needIndex, Cond.static yX0_needIndex, Cond.code yX0_needIndex cX0_needIndex 1 none, Cond.classLink RX0 181 "java/lang/IndexOutOfBoundsException", Cond.initialized "java/lang/IndexOutOfBoundsException", Cond.methodLink RX0 133 yX0_hasLaw, Cond.instanceMethod yX0_hasLaw, Cond.selects RX0 yX0_hasLaw yX0_hasLaw, Cond.code yX0_hasLaw cX0_hasLaw 3 (some .boolean), Cond.methodLink RX0 105 yX0_sets, Cond.instanceMethod yX0_sets, Cond.selects RX0 yX0_sets yX0_sets, Cond.code yX0_sets cX0_sets 1 (some .int), Cond.fieldLink RX0 9 "Submodulary" "elements" "I"]
def wsX0_leastSetAnew_r2 : List Cond := [Cond.methodLink RX0 213 yX0_hasLawAbove, Cond.instanceMethod yX0_hasLawAbove, Cond.selects RX0 yX0_hasLawAbove yX0_hasLawAbove, Cond.code yX0_hasLawAbove cX0_hasLawAbove 6 (some .boolean), Cond.methodLink RX0 83 yX0_has, Cond.static yX0_has, Cond.code yX0_has cX0_has 2 (some .boolean), Cond.methodLink RX0 136 yX0_gain, Cond.instanceMethod yX0_gain, Cond.selects RX0 yX0_gain yX0_gain, Cond.code yX0_gain cX0_gain 4 (some .int), Cond.methodLink RX0 72 yX0_with, Cond.static yX0_with, Cond.code yX0_with cX0_with 2 (some .int), Cond.methodLink RX0 122 yX0_valueOf, Cond.instanceMethod yX0_valueOf, Cond.selects RX0 yX0_valueOf yX0_valueOf, Cond.code yX0_valueOf cX0_valueOf 3 (some .int), Cond.fieldLink RX0 35 "Submodulary" "values" "[I", Cond.methodLink RX0 68 yX0_at, Cond.static yX0_at, Cond.code yX0_at cX0_at 2 (some .int), Cond.methodLink RX0 140 yX0_needState, Cond.static yX0_needState]
def wsX0_leastSetAnew_r3 : List Cond := [Cond.code yX0_needState cX0_needState 1 none, Cond.classLink RX0 193 "java/lang/IllegalStateException", Cond.initialized "java/lang/IllegalStateException"]
def wsX0_leastSetAnew : List Cond := .code yX0_leastSetAnew cX0_leastSetAnew 7 (some .int) :: ((wsX0_leastSetAnew_r1 ++ (wsX0_leastSetAnew_r2 ++ wsX0_leastSetAnew_r3)) ++ wsX00 ++ (vx_atS RX0 185 "java/lang/IndexOutOfBoundsException" ["java/lang/RuntimeException", "java/lang/Exception"]).filter goodWord ++ (vx_atS RX0 197 "java/lang/IllegalStateException" ["java/lang/RuntimeException", "java/lang/Exception"]).filter goodWord)
def wsX0_isTold : List Cond := .code yX0_isTold cX0_isTold 3 (some .boolean) :: ([.fieldLink RX0 16 "Submodulary" "told" "I", .fieldLink RX0 38 "Submodulary" "ordered" "[I", .methodLink RX0 68 yX0_at, .static yX0_at, .initialized RX0, .code yX0_at cX0_at 2 (some .int)] ++ wsX00)
def wsX0_order_r1 : List Cond := [Cond.fieldLink RX0 16 "Submodulary" "told" "I", Cond.fieldLink RX0 9 "Submodulary" "elements" "I", Cond.fieldLink RX0 38 "Submodulary" "ordered" "[I", Cond.methodLink RX0 61 yX0_isElement, Cond.instanceMethod yX0_isElement, Cond.selects RX0 yX0_isElement yX0_isElement, Cond.initialized RX0, Cond.code yX0_isElement cX0_isElement 2 (some .boolean), Cond.methodLink RX0 65 yX0_needIndex, Cond.static yX0_needIndex, Cond.code yX0_needIndex cX0_needIndex 1 none, Cond.classLink RX0 181 "java/lang/IndexOutOfBoundsException", Cond.initialized "java/lang/IndexOutOfBoundsException", Cond.methodLink RX0 147 yX0_isTold, Cond.instanceMethod yX0_isTold, Cond.selects RX0 yX0_isTold yX0_isTold, Cond.code yX0_isTold cX0_isTold 3 (some .boolean), Cond.methodLink RX0 68 yX0_at, Cond.static yX0_at, Cond.code yX0_at cX0_at 2 (some .int), Cond.methodLink RX0 140 yX0_needState, Cond.static yX0_needState, Cond.code yX0_needState cX0_needState 1 none, Cond.classLink RX0 193 "java/lang/IllegalStateException"]
def wsX0_order_r2 : List Cond := [Cond.initialized "java/lang/IllegalStateException", Cond.methodLink RX0 79 yX0_put, Cond.static yX0_put, Cond.code yX0_put cX0_put 3 none]
def wsX0_order : List Cond := .code yX0_order cX0_order 3 (some .int) :: ((wsX0_order_r1 ++ wsX0_order_r2) ++ wsX00 ++ (vx_atS RX0 185 "java/lang/IndexOutOfBoundsException" ["java/lang/RuntimeException", "java/lang/Exception"]).filter goodWord ++ (vx_atS RX0 197 "java/lang/IllegalStateException" ["java/lang/RuntimeException", "java/lang/Exception"]).filter goodWord)
def wsX0_aheadOf : List Cond := .code yX0_aheadOf cX0_aheadOf 5 (some .int) :: ([.fieldLink RX0 16 "Submodulary" "told" "I", .fieldLink RX0 38 "Submodulary" "ordered" "[I", .methodLink RX0 68 yX0_at, .static yX0_at, .initialized RX0, .code yX0_at cX0_at 2 (some .int), .methodLink RX0 72 yX0_with, .static yX0_with, .code yX0_with cX0_with 2 (some .int)] ++ wsX00)
def wsX0_corner_r1 : List Cond := [Cond.methodLink RX0 119 yX0_isFunction, Cond.instanceMethod yX0_isFunction, Cond.selects RX0 yX0_isFunction yX0_isFunction, Cond.initialized RX0, Cond.code yX0_isFunction cX0_isFunction 2 (some .boolean), Cond.fieldLink RX0 13 "Submodulary" "functions" "I", Cond.methodLink RX0 61 yX0_isElement, Cond.instanceMethod yX0_isElement, Cond.selects RX0 yX0_isElement yX0_isElement, Cond.code yX0_isElement cX0_isElement 2 (some .boolean), Cond.fieldLink RX0 9 "Submodulary" "elements" "I", Cond.methodLink RX0 65 yX0_needIndex, Cond.static yX0_needIndex, Cond.code yX0_needIndex cX0_needIndex 1 none, Cond.classLink RX0 181 "java/lang/IndexOutOfBoundsException", Cond.initialized "java/lang/IndexOutOfBoundsException", Cond.methodLink RX0 147 yX0_isTold, Cond.instanceMethod yX0_isTold, Cond.selects RX0 yX0_isTold yX0_isTold, Cond.code yX0_isTold cX0_isTold 3 (some .boolean), Cond.fieldLink RX0 16 "Submodulary" "told" "I", Cond.fieldLink RX0 38 "Submodulary" "ordered" "[I", Cond.methodLink RX0 68 yX0_at, Cond.static yX0_at]
def wsX0_corner_r2 : List Cond := [Cond.code yX0_at cX0_at 2 (some .int), Cond.methodLink RX0 140 yX0_needState, Cond.static yX0_needState, Cond.code yX0_needState cX0_needState 1 none, Cond.classLink RX0 193 "java/lang/IllegalStateException", Cond.initialized "java/lang/IllegalStateException", Cond.methodLink RX0 150 yX0_aheadOf, Cond.instanceMethod yX0_aheadOf, Cond.selects RX0 yX0_aheadOf yX0_aheadOf, Cond.code yX0_aheadOf cX0_aheadOf 5 (some .int), Cond.methodLink RX0 72 yX0_with, Cond.static yX0_with, Cond.code yX0_with cX0_with 2 (some .int), Cond.methodLink RX0 136 yX0_gain, Cond.instanceMethod yX0_gain, Cond.selects RX0 yX0_gain yX0_gain, Cond.code yX0_gain cX0_gain 4 (some .int), Cond.methodLink RX0 122 yX0_valueOf, Cond.instanceMethod yX0_valueOf, Cond.selects RX0 yX0_valueOf yX0_valueOf, Cond.code yX0_valueOf cX0_valueOf 3 (some .int), Cond.fieldLink RX0 35 "Submodulary" "values" "[I"]
def wsX0_corner : List Cond := .code yX0_corner cX0_corner 3 (some .int) :: ((wsX0_corner_r1 ++ wsX0_corner_r2) ++ wsX00 ++ (vx_atS RX0 185 "java/lang/IndexOutOfBoundsException" ["java/lang/RuntimeException", "java/lang/Exception"]).filter goodWord ++ (vx_atS RX0 197 "java/lang/IllegalStateException" ["java/lang/RuntimeException", "java/lang/Exception"]).filter goodWord)
def wsX0_greediest : List Cond := .code yX0_greediest cX0_greediest 7 (some .int) :: ([.fieldLink RX0 9 "Submodulary" "elements" "I", .methodLink RX0 136 yX0_gain, .instanceMethod yX0_gain, .selects RX0 yX0_gain yX0_gain, .initialized RX0, .code yX0_gain cX0_gain 4 (some .int), .methodLink RX0 72 yX0_with, .static yX0_with, .code yX0_with cX0_with 2 (some .int), .methodLink RX0 122 yX0_valueOf, .instanceMethod yX0_valueOf, .selects RX0 yX0_valueOf yX0_valueOf, .code yX0_valueOf cX0_valueOf 3 (some .int), .fieldLink RX0 35 "Submodulary" "values" "[I", .methodLink RX0 68 yX0_at, .static yX0_at, .code yX0_at cX0_at 2 (some .int)] ++ wsX00)
def wsX0_greedy_r1 : List Cond := [Cond.methodLink RX0 119 yX0_isFunction, Cond.instanceMethod yX0_isFunction, Cond.selects RX0 yX0_isFunction yX0_isFunction, Cond.initialized RX0, Cond.code yX0_isFunction cX0_isFunction 2 (some .boolean), Cond.fieldLink RX0 13 "Submodulary" "functions" "I", Cond.methodLink RX0 65 yX0_needIndex, Cond.static yX0_needIndex, Cond.code yX0_needIndex cX0_needIndex 1 none, Cond.classLink RX0 181 "java/lang/IndexOutOfBoundsException", Cond.initialized "java/lang/IndexOutOfBoundsException", Cond.methodLink RX0 53 yX0_isWithin, Cond.static yX0_isWithin, Cond.code yX0_isWithin cX0_isWithin 3 (some .boolean), Cond.methodLink RX0 57 yX0_needArgument, Cond.static yX0_needArgument, Cond.code yX0_needArgument cX0_needArgument 1 none, Cond.classLink RX0 188 "java/lang/IllegalArgumentException", Cond.initialized "java/lang/IllegalArgumentException", Cond.methodLink RX0 154 yX0_greediest, Cond.instanceMethod yX0_greediest, Cond.selects RX0 yX0_greediest yX0_greediest, Cond.code yX0_greediest cX0_greediest 7 (some .int), Cond.fieldLink RX0 9 "Submodulary" "elements" "I"]
def wsX0_greedy_r2 : List Cond := [Cond.methodLink RX0 136 yX0_gain, Cond.instanceMethod yX0_gain, Cond.selects RX0 yX0_gain yX0_gain, Cond.code yX0_gain cX0_gain 4 (some .int), Cond.methodLink RX0 72 yX0_with, Cond.static yX0_with, Cond.code yX0_with cX0_with 2 (some .int), Cond.methodLink RX0 122 yX0_valueOf, Cond.instanceMethod yX0_valueOf, Cond.selects RX0 yX0_valueOf yX0_valueOf, Cond.code yX0_valueOf cX0_valueOf 3 (some .int), Cond.fieldLink RX0 35 "Submodulary" "values" "[I", Cond.methodLink RX0 68 yX0_at, Cond.static yX0_at, Cond.code yX0_at cX0_at 2 (some .int)]
def wsX0_greedy : List Cond := .code yX0_greedy cX0_greedy 6 (some .int) :: ((wsX0_greedy_r1 ++ wsX0_greedy_r2) ++ wsX00 ++ (vx_atS RX0 185 "java/lang/IndexOutOfBoundsException" ["java/lang/RuntimeException", "java/lang/Exception"]).filter goodWord ++ (vx_atS RX0 192 "java/lang/IllegalArgumentException" ["java/lang/RuntimeException", "java/lang/Exception"]).filter goodWord)
def wsX0_best_r1 : List Cond := [Cond.methodLink RX0 162 Lib.Math.max.name, Cond.static Lib.Math.max.name, Cond.initialized "java/lang/Math", Cond.code Lib.Math.max.name Lib.Math.max.code 2 (some .int), Cond.methodLink RX0 119 yX0_isFunction, Cond.instanceMethod yX0_isFunction, Cond.selects RX0 yX0_isFunction yX0_isFunction, Cond.initialized RX0, Cond.code yX0_isFunction cX0_isFunction 2 (some .boolean), Cond.fieldLink RX0 13 "Submodulary" "functions" "I", Cond.methodLink RX0 65 yX0_needIndex, Cond.static yX0_needIndex, Cond.code yX0_needIndex cX0_needIndex 1 none, Cond.classLink RX0 181 "java/lang/IndexOutOfBoundsException", Cond.initialized "java/lang/IndexOutOfBoundsException", Cond.methodLink RX0 53 yX0_isWithin, Cond.static yX0_isWithin, Cond.code yX0_isWithin cX0_isWithin 3 (some .boolean), Cond.methodLink RX0 57 yX0_needArgument, Cond.static yX0_needArgument, Cond.code yX0_needArgument cX0_needArgument 1 none, Cond.classLink RX0 188 "java/lang/IllegalArgumentException", Cond.initialized "java/lang/IllegalArgumentException", Cond.methodLink RX0 105 yX0_sets]
def wsX0_best_r2 : List Cond := [Cond.instanceMethod yX0_sets, Cond.selects RX0 yX0_sets yX0_sets, Cond.code yX0_sets cX0_sets 1 (some .int), Cond.fieldLink RX0 9 "Submodulary" "elements" "I", Cond.methodLink RX0 157 yJ6_bitCount_0f7a4, Cond.static yJ6_bitCount_0f7a4, Cond.initialized RJ6, Cond.code yJ6_bitCount_0f7a4 cJ6_bitCount_0f7a4 1 (some .int), Cond.constant RJ6 265 (1431655765), Cond.constant RJ6 266 (858993459), Cond.constant RJ6 267 (252645135), Cond.methodLink RX0 122 yX0_valueOf, Cond.instanceMethod yX0_valueOf, Cond.selects RX0 yX0_valueOf yX0_valueOf, Cond.code yX0_valueOf cX0_valueOf 3 (some .int), Cond.fieldLink RX0 35 "Submodulary" "values" "[I", Cond.methodLink RX0 68 yX0_at, Cond.static yX0_at, Cond.code yX0_at cX0_at 2 (some .int)]
def wsX0_best : List Cond := .code yX0_best cX0_best 5 (some .int) :: ((wsX0_best_r1 ++ wsX0_best_r2) ++ wsX00 ++ (vx_atS RX0 185 "java/lang/IndexOutOfBoundsException" ["java/lang/RuntimeException", "java/lang/Exception"]).filter goodWord ++ (vx_atS RX0 192 "java/lang/IllegalArgumentException" ["java/lang/RuntimeException", "java/lang/Exception"]).filter goodWord)
def wsX0_hasRoom : List Cond := .code yX0_hasRoom cX0_hasRoom 5 (some .boolean) :: ([.methodLink RX0 96 yX0_colourOf, .instanceMethod yX0_colourOf, .selects RX0 yX0_colourOf yX0_colourOf, .initialized RX0, .code yX0_colourOf cX0_colourOf 3 (some .int), .fieldLink RX0 26 "Submodulary" "colours" "[I", .methodLink RX0 68 yX0_at, .static yX0_at, .code yX0_at cX0_at 2 (some .int), .methodLink RX0 83 yX0_has, .static yX0_has, .code yX0_has cX0_has 2 (some .boolean), .methodLink RX0 210 yX0_countOf, .instanceMethod yX0_countOf, .selects RX0 yX0_countOf yX0_countOf, .code yX0_countOf cX0_countOf 6 (some .int), .fieldLink RX0 9 "Submodulary" "elements" "I", .methodLink RX0 99 yX0_roomOf, .instanceMethod yX0_roomOf, .selects RX0 yX0_roomOf yX0_roomOf, .code yX0_roomOf cX0_roomOf 3 (some .int), .fieldLink RX0 29 "Submodulary" "rooms" "[I"] ++ wsX00)
def wsX0_reachFirst_r1 : List Cond := [Cond.fieldLink RX0 41 "Submodulary" "cameFrom" "[I", Cond.fieldLink RX0 9 "Submodulary" "elements" "I", Cond.fieldLink RX0 44 "Submodulary" "reached" "[I", Cond.methodLink RX0 47 yJ7_fill_53178, Cond.static yJ7_fill_53178, Cond.initialized RJ7, Cond.code yJ7_fill_53178 cJ7_fill_53178 4 none, Cond.methodLink RX0 229 yX0_hasRoom, Cond.instanceMethod yX0_hasRoom, Cond.selects RX0 yX0_hasRoom yX0_hasRoom, Cond.initialized RX0, Cond.code yX0_hasRoom cX0_hasRoom 5 (some .boolean), Cond.methodLink RX0 96 yX0_colourOf, Cond.instanceMethod yX0_colourOf, Cond.selects RX0 yX0_colourOf yX0_colourOf, Cond.code yX0_colourOf cX0_colourOf 3 (some .int), Cond.fieldLink RX0 26 "Submodulary" "colours" "[I", Cond.methodLink RX0 68 yX0_at, Cond.static yX0_at, Cond.code yX0_at cX0_at 2 (some .int), Cond.methodLink RX0 83 yX0_has, Cond.static yX0_has, Cond.code yX0_has cX0_has 2 (some .boolean), Cond.methodLink RX0 210 yX0_countOf]
def wsX0_reachFirst_r2 : List Cond := [Cond.instanceMethod yX0_countOf, Cond.selects RX0 yX0_countOf yX0_countOf, Cond.code yX0_countOf cX0_countOf 6 (some .int), Cond.methodLink RX0 99 yX0_roomOf, Cond.instanceMethod yX0_roomOf, Cond.selects RX0 yX0_roomOf yX0_roomOf, Cond.code yX0_roomOf cX0_roomOf 3 (some .int), Cond.fieldLink RX0 29 "Submodulary" "rooms" "[I", Cond.methodLink RX0 79 yX0_put, Cond.static yX0_put, Cond.code yX0_put cX0_put 3 none]
def wsX0_reachFirst : List Cond := .code yX0_reachFirst cX0_reachFirst 4 (some .int) :: ((wsX0_reachFirst_r1 ++ wsX0_reachFirst_r2) ++ wsX00)
def wsX0_isStep : List Cond := .code yX0_isStep cX0_isStep 5 (some .boolean) :: ([.methodLink RX0 83 yX0_has, .static yX0_has, .initialized RX0, .code yX0_has cX0_has 2 (some .boolean), .methodLink RX0 96 yX0_colourOf, .instanceMethod yX0_colourOf, .selects RX0 yX0_colourOf yX0_colourOf, .code yX0_colourOf cX0_colourOf 3 (some .int), .fieldLink RX0 26 "Submodulary" "colours" "[I", .methodLink RX0 68 yX0_at, .static yX0_at, .code yX0_at cX0_at 2 (some .int)] ++ wsX00)
def wsX0_reachFrom : List Cond := .code yX0_reachFrom cX0_reachFrom 6 (some .int) :: ([.fieldLink RX0 9 "Submodulary" "elements" "I", .fieldLink RX0 41 "Submodulary" "cameFrom" "[I", .fieldLink RX0 44 "Submodulary" "reached" "[I", .methodLink RX0 68 yX0_at, .static yX0_at, .initialized RX0, .code yX0_at cX0_at 2 (some .int), .methodLink RX0 235 yX0_isStep, .instanceMethod yX0_isStep, .selects RX0 yX0_isStep yX0_isStep, .code yX0_isStep cX0_isStep 5 (some .boolean), .methodLink RX0 83 yX0_has, .static yX0_has, .code yX0_has cX0_has 2 (some .boolean), .methodLink RX0 96 yX0_colourOf, .instanceMethod yX0_colourOf, .selects RX0 yX0_colourOf yX0_colourOf, .code yX0_colourOf cX0_colourOf 3 (some .int), .fieldLink RX0 26 "Submodulary" "colours" "[I", .methodLink RX0 79 yX0_put, .static yX0_put, .code yX0_put cX0_put 3 none] ++ wsX00)
def wsX0_endOfPath_r1 : List Cond := [Cond.fieldLink RX0 44 "Submodulary" "reached" "[I", Cond.methodLink RX0 226 yX0_reachFirst, Cond.instanceMethod yX0_reachFirst, Cond.selects RX0 yX0_reachFirst yX0_reachFirst, Cond.initialized RX0, Cond.code yX0_reachFirst cX0_reachFirst 4 (some .int), Cond.fieldLink RX0 41 "Submodulary" "cameFrom" "[I", Cond.fieldLink RX0 9 "Submodulary" "elements" "I", Cond.methodLink RX0 47 yJ7_fill_53178, Cond.static yJ7_fill_53178, Cond.initialized RJ7, Cond.code yJ7_fill_53178 cJ7_fill_53178 4 none, Cond.methodLink RX0 229 yX0_hasRoom, Cond.instanceMethod yX0_hasRoom, Cond.selects RX0 yX0_hasRoom yX0_hasRoom, Cond.code yX0_hasRoom cX0_hasRoom 5 (some .boolean), Cond.methodLink RX0 96 yX0_colourOf, Cond.instanceMethod yX0_colourOf, Cond.selects RX0 yX0_colourOf yX0_colourOf, Cond.code yX0_colourOf cX0_colourOf 3 (some .int), Cond.fieldLink RX0 26 "Submodulary" "colours" "[I", Cond.methodLink RX0 68 yX0_at, Cond.static yX0_at, Cond.code yX0_at cX0_at 2 (some .int)]
def wsX0_endOfPath_r2 : List Cond := [Cond.methodLink RX0 83 yX0_has, Cond.static yX0_has, Cond.code yX0_has cX0_has 2 (some .boolean), Cond.methodLink RX0 210 yX0_countOf, Cond.instanceMethod yX0_countOf, Cond.selects RX0 yX0_countOf yX0_countOf, Cond.code yX0_countOf cX0_countOf 6 (some .int), Cond.methodLink RX0 99 yX0_roomOf, Cond.instanceMethod yX0_roomOf, Cond.selects RX0 yX0_roomOf yX0_roomOf, Cond.code yX0_roomOf cX0_roomOf 3 (some .int), Cond.fieldLink RX0 29 "Submodulary" "rooms" "[I", Cond.methodLink RX0 79 yX0_put, Cond.static yX0_put, Cond.code yX0_put cX0_put 3 none, Cond.methodLink RX0 232 yX0_reachFrom, Cond.instanceMethod yX0_reachFrom, Cond.selects RX0 yX0_reachFrom yX0_reachFrom, Cond.code yX0_reachFrom cX0_reachFrom 6 (some .int), Cond.methodLink RX0 235 yX0_isStep, Cond.instanceMethod yX0_isStep, Cond.selects RX0 yX0_isStep yX0_isStep, Cond.code yX0_isStep cX0_isStep 5 (some .boolean)]
def wsX0_endOfPath : List Cond := .code yX0_endOfPath cX0_endOfPath 5 (some .int) :: ((wsX0_endOfPath_r1 ++ wsX0_endOfPath_r2) ++ wsX00)
def wsX0_flippedAlong : List Cond := .code yX0_flippedAlong cX0_flippedAlong 6 (some .int) :: ([.fieldLink RX0 9 "Submodulary" "elements" "I", .fieldLink RX0 41 "Submodulary" "cameFrom" "[I", .methodLink RX0 68 yX0_at, .static yX0_at, .initialized RX0, .code yX0_at cX0_at 2 (some .int)] ++ wsX00)
def wsX0_common_r1 : List Cond := [Cond.fieldLink RX0 9 "Submodulary" "elements" "I", Cond.methodLink RX0 165 yX0_endOfPath, Cond.instanceMethod yX0_endOfPath, Cond.selects RX0 yX0_endOfPath yX0_endOfPath, Cond.initialized RX0, Cond.code yX0_endOfPath cX0_endOfPath 5 (some .int), Cond.fieldLink RX0 44 "Submodulary" "reached" "[I", Cond.methodLink RX0 226 yX0_reachFirst, Cond.instanceMethod yX0_reachFirst, Cond.selects RX0 yX0_reachFirst yX0_reachFirst, Cond.code yX0_reachFirst cX0_reachFirst 4 (some .int), Cond.fieldLink RX0 41 "Submodulary" "cameFrom" "[I", Cond.methodLink RX0 47 yJ7_fill_53178, Cond.static yJ7_fill_53178, Cond.initialized RJ7, Cond.code yJ7_fill_53178 cJ7_fill_53178 4 none, Cond.methodLink RX0 229 yX0_hasRoom, Cond.instanceMethod yX0_hasRoom, Cond.selects RX0 yX0_hasRoom yX0_hasRoom, Cond.code yX0_hasRoom cX0_hasRoom 5 (some .boolean), Cond.methodLink RX0 96 yX0_colourOf, Cond.instanceMethod yX0_colourOf, Cond.selects RX0 yX0_colourOf yX0_colourOf, Cond.code yX0_colourOf cX0_colourOf 3 (some .int)]
def wsX0_common_r2 : List Cond := [Cond.fieldLink RX0 26 "Submodulary" "colours" "[I", Cond.methodLink RX0 68 yX0_at, Cond.static yX0_at, Cond.code yX0_at cX0_at 2 (some .int), Cond.methodLink RX0 83 yX0_has, Cond.static yX0_has, Cond.code yX0_has cX0_has 2 (some .boolean), Cond.methodLink RX0 210 yX0_countOf, Cond.instanceMethod yX0_countOf, Cond.selects RX0 yX0_countOf yX0_countOf, Cond.code yX0_countOf cX0_countOf 6 (some .int), Cond.methodLink RX0 99 yX0_roomOf, Cond.instanceMethod yX0_roomOf, Cond.selects RX0 yX0_roomOf yX0_roomOf, Cond.code yX0_roomOf cX0_roomOf 3 (some .int), Cond.fieldLink RX0 29 "Submodulary" "rooms" "[I", Cond.methodLink RX0 79 yX0_put, Cond.static yX0_put, Cond.code yX0_put cX0_put 3 none, Cond.methodLink RX0 232 yX0_reachFrom, Cond.instanceMethod yX0_reachFrom, Cond.selects RX0 yX0_reachFrom yX0_reachFrom, Cond.code yX0_reachFrom cX0_reachFrom 6 (some .int), Cond.methodLink RX0 235 yX0_isStep]
def wsX0_common_r3 : List Cond := [Cond.instanceMethod yX0_isStep, Cond.selects RX0 yX0_isStep yX0_isStep, Cond.code yX0_isStep cX0_isStep 5 (some .boolean), Cond.methodLink RX0 157 yJ6_bitCount_0f7a4, Cond.static yJ6_bitCount_0f7a4, Cond.initialized RJ6, Cond.code yJ6_bitCount_0f7a4 cJ6_bitCount_0f7a4 1 (some .int), Cond.constant RJ6 265 (1431655765), Cond.constant RJ6 266 (858993459), Cond.constant RJ6 267 (252645135), Cond.methodLink RX0 168 yX0_flippedAlong, Cond.instanceMethod yX0_flippedAlong, Cond.selects RX0 yX0_flippedAlong yX0_flippedAlong, Cond.code yX0_flippedAlong cX0_flippedAlong 6 (some .int)]
def wsX0_common : List Cond := .code yX0_common cX0_common 4 (some .int) :: ((wsX0_common_r1 ++ (wsX0_common_r2 ++ wsX0_common_r3)) ++ wsX00)
def wsX0_isFair : List Cond := .code yX0_isFair cX0_isFair 4 (some .boolean) :: ([.methodLink RX0 210 yX0_countOf, .instanceMethod yX0_countOf, .selects RX0 yX0_countOf yX0_countOf, .initialized RX0, .code yX0_countOf cX0_countOf 6 (some .int), .fieldLink RX0 9 "Submodulary" "elements" "I", .methodLink RX0 83 yX0_has, .static yX0_has, .code yX0_has cX0_has 2 (some .boolean), .methodLink RX0 96 yX0_colourOf, .instanceMethod yX0_colourOf, .selects RX0 yX0_colourOf yX0_colourOf, .code yX0_colourOf cX0_colourOf 3 (some .int), .fieldLink RX0 26 "Submodulary" "colours" "[I", .methodLink RX0 68 yX0_at, .static yX0_at, .code yX0_at cX0_at 2 (some .int), .methodLink RX0 99 yX0_roomOf, .instanceMethod yX0_roomOf, .selects RX0 yX0_roomOf yX0_roomOf, .code yX0_roomOf cX0_roomOf 3 (some .int), .fieldLink RX0 29 "Submodulary" "rooms" "[I"] ++ wsX00)
def wsX0_commonAnew_r1 : List Cond := [Cond.methodLink RX0 162 Lib.Math.max.name, Cond.static Lib.Math.max.name, Cond.initialized "java/lang/Math", Cond.code Lib.Math.max.name Lib.Math.max.code 2 (some .int), Cond.methodLink RX0 105 yX0_sets, Cond.instanceMethod yX0_sets, Cond.selects RX0 yX0_sets yX0_sets, Cond.initialized RX0, Cond.code yX0_sets cX0_sets 1 (some .int), Cond.fieldLink RX0 9 "Submodulary" "elements" "I", Cond.methodLink RX0 171 yX0_isFair, Cond.instanceMethod yX0_isFair, Cond.selects RX0 yX0_isFair yX0_isFair, Cond.code yX0_isFair cX0_isFair 4 (some .boolean), Cond.methodLink RX0 210 yX0_countOf, Cond.instanceMethod yX0_countOf, Cond.selects RX0 yX0_countOf yX0_countOf, Cond.code yX0_countOf cX0_countOf 6 (some .int), Cond.methodLink RX0 83 yX0_has, Cond.static yX0_has, Cond.code yX0_has cX0_has 2 (some .boolean), Cond.methodLink RX0 96 yX0_colourOf, Cond.instanceMethod yX0_colourOf, Cond.selects RX0 yX0_colourOf yX0_colourOf]
def wsX0_commonAnew_r2 : List Cond := [Cond.code yX0_colourOf cX0_colourOf 3 (some .int), Cond.fieldLink RX0 26 "Submodulary" "colours" "[I", Cond.methodLink RX0 68 yX0_at, Cond.static yX0_at, Cond.code yX0_at cX0_at 2 (some .int), Cond.methodLink RX0 99 yX0_roomOf, Cond.instanceMethod yX0_roomOf, Cond.selects RX0 yX0_roomOf yX0_roomOf, Cond.code yX0_roomOf cX0_roomOf 3 (some .int), Cond.fieldLink RX0 29 "Submodulary" "rooms" "[I", Cond.methodLink RX0 157 yJ6_bitCount_0f7a4, Cond.static yJ6_bitCount_0f7a4, Cond.initialized RJ6, Cond.code yJ6_bitCount_0f7a4 cJ6_bitCount_0f7a4 1 (some .int), Cond.constant RJ6 265 (1431655765), Cond.constant RJ6 266 (858993459), Cond.constant RJ6 267 (252645135)]
def wsX0_commonAnew : List Cond := .code yX0_commonAnew cX0_commonAnew 3 (some .int) :: ((wsX0_commonAnew_r1 ++ wsX0_commonAnew_r2) ++ wsX00)
def wsX0_ordersOf : List Cond := .code yX0_ordersOf cX0_ordersOf 3 (some .int) :: ([])
def wsX0_share_r1 : List Cond := [Cond.fieldLink RX0 9 "Submodulary" "elements" "I", Cond.methodLink RX0 119 yX0_isFunction, Cond.instanceMethod yX0_isFunction, Cond.selects RX0 yX0_isFunction yX0_isFunction, Cond.initialized RX0, Cond.code yX0_isFunction cX0_isFunction 2 (some .boolean), Cond.fieldLink RX0 13 "Submodulary" "functions" "I", Cond.methodLink RX0 61 yX0_isElement, Cond.instanceMethod yX0_isElement, Cond.selects RX0 yX0_isElement yX0_isElement, Cond.code yX0_isElement cX0_isElement 2 (some .boolean), Cond.methodLink RX0 65 yX0_needIndex, Cond.static yX0_needIndex, Cond.code yX0_needIndex cX0_needIndex 1 none, Cond.classLink RX0 181 "java/lang/IndexOutOfBoundsException", Cond.initialized "java/lang/IndexOutOfBoundsException", Cond.methodLink RX0 105 yX0_sets, Cond.instanceMethod yX0_sets, Cond.selects RX0 yX0_sets yX0_sets, Cond.code yX0_sets cX0_sets 1 (some .int), Cond.methodLink RX0 83 yX0_has, Cond.static yX0_has, Cond.code yX0_has cX0_has 2 (some .boolean), Cond.methodLink RX0 157 yJ6_bitCount_0f7a4]
def wsX0_share_r2 : List Cond := [Cond.static yJ6_bitCount_0f7a4, Cond.initialized RJ6, Cond.code yJ6_bitCount_0f7a4 cJ6_bitCount_0f7a4 1 (some .int), Cond.constant RJ6 265 (1431655765), Cond.constant RJ6 266 (858993459), Cond.constant RJ6 267 (252645135), Cond.methodLink RX0 174 yX0_ordersOf, Cond.static yX0_ordersOf, Cond.code yX0_ordersOf cX0_ordersOf 3 (some .int), Cond.methodLink RX0 136 yX0_gain, Cond.instanceMethod yX0_gain, Cond.selects RX0 yX0_gain yX0_gain, Cond.code yX0_gain cX0_gain 4 (some .int), Cond.methodLink RX0 72 yX0_with, Cond.static yX0_with, Cond.code yX0_with cX0_with 2 (some .int), Cond.methodLink RX0 122 yX0_valueOf, Cond.instanceMethod yX0_valueOf, Cond.selects RX0 yX0_valueOf yX0_valueOf, Cond.code yX0_valueOf cX0_valueOf 3 (some .int), Cond.fieldLink RX0 35 "Submodulary" "values" "[I", Cond.methodLink RX0 68 yX0_at, Cond.static yX0_at, Cond.code yX0_at cX0_at 2 (some .int)]
def wsX0_share : List Cond := .code yX0_share cX0_share 7 (some .int) :: ((wsX0_share_r1 ++ wsX0_share_r2) ++ wsX00 ++ (vx_atS RX0 185 "java/lang/IndexOutOfBoundsException" ["java/lang/RuntimeException", "java/lang/Exception"]).filter goodWord)
def wsX0_gainsOverOrders : List Cond := .code yX0_gainsOverOrders cX0_gainsOverOrders 9 (some .int) :: ([.fieldLink RX0 9 "Submodulary" "elements" "I", .methodLink RX0 83 yX0_has, .static yX0_has, .initialized RX0, .code yX0_has cX0_has 2 (some .boolean), .methodLink RX0 136 yX0_gain, .instanceMethod yX0_gain, .selects RX0 yX0_gain yX0_gain, .code yX0_gain cX0_gain 4 (some .int), .methodLink RX0 72 yX0_with, .static yX0_with, .code yX0_with cX0_with 2 (some .int), .methodLink RX0 122 yX0_valueOf, .instanceMethod yX0_valueOf, .selects RX0 yX0_valueOf yX0_valueOf, .code yX0_valueOf cX0_valueOf 3 (some .int), .fieldLink RX0 35 "Submodulary" "values" "[I", .methodLink RX0 68 yX0_at, .static yX0_at, .code yX0_at cX0_at 2 (some .int), .methodLink RX0 177 yX0_gainsOverOrders, .instanceMethod yX0_gainsOverOrders, .selects RX0 yX0_gainsOverOrders yX0_gainsOverOrders] ++ wsX00)
def wsX0_shareAnew_r1 : List Cond := [Cond.methodLink RX0 119 yX0_isFunction, Cond.instanceMethod yX0_isFunction, Cond.selects RX0 yX0_isFunction yX0_isFunction, Cond.initialized RX0, Cond.code yX0_isFunction cX0_isFunction 2 (some .boolean), Cond.fieldLink RX0 13 "Submodulary" "functions" "I", Cond.methodLink RX0 61 yX0_isElement, Cond.instanceMethod yX0_isElement, Cond.selects RX0 yX0_isElement yX0_isElement, Cond.code yX0_isElement cX0_isElement 2 (some .boolean), Cond.fieldLink RX0 9 "Submodulary" "elements" "I", Cond.methodLink RX0 65 yX0_needIndex, Cond.static yX0_needIndex, Cond.code yX0_needIndex cX0_needIndex 1 none, Cond.classLink RX0 181 "java/lang/IndexOutOfBoundsException", Cond.initialized "java/lang/IndexOutOfBoundsException", Cond.methodLink RX0 177 yX0_gainsOverOrders, Cond.instanceMethod yX0_gainsOverOrders, Cond.selects RX0 yX0_gainsOverOrders yX0_gainsOverOrders, Cond.code yX0_gainsOverOrders cX0_gainsOverOrders 9 (some .int), Cond.methodLink RX0 83 yX0_has, Cond.static yX0_has, Cond.code yX0_has cX0_has 2 (some .boolean), Cond.methodLink RX0 136 yX0_gain]
def wsX0_shareAnew_r2 : List Cond := [Cond.instanceMethod yX0_gain, Cond.selects RX0 yX0_gain yX0_gain, Cond.code yX0_gain cX0_gain 4 (some .int), Cond.methodLink RX0 72 yX0_with, Cond.static yX0_with, Cond.code yX0_with cX0_with 2 (some .int), Cond.methodLink RX0 122 yX0_valueOf, Cond.instanceMethod yX0_valueOf, Cond.selects RX0 yX0_valueOf yX0_valueOf, Cond.code yX0_valueOf cX0_valueOf 3 (some .int), Cond.fieldLink RX0 35 "Submodulary" "values" "[I", Cond.methodLink RX0 68 yX0_at, Cond.static yX0_at, Cond.code yX0_at cX0_at 2 (some .int)]
def wsX0_shareAnew : List Cond := .code yX0_shareAnew cX0_shareAnew 3 (some .int) :: ((wsX0_shareAnew_r1 ++ wsX0_shareAnew_r2) ++ wsX00 ++ (vx_atS RX0 185 "java/lang/IndexOutOfBoundsException" ["java/lang/RuntimeException", "java/lang/Exception"]).filter goodWord)
def wsX1_forgets : List Cond := .code yX1_forgets cX1_forgets 2 none :: ([.fieldLink RX1 38 "SubmodularyModel" "functions" "I", .fieldLink RX1 41 "SubmodularyModel" "told" "I", .fieldLink RX1 13 "SubmodularyModel" "points" "[I", .fieldLink RX1 26 "SubmodularyModel" "weights" "[I", .fieldLink RX1 17 "SubmodularyModel" "edges" "[I", .fieldLink RX1 20 "SubmodularyModel" "colours" "[I", .fieldLink RX1 23 "SubmodularyModel" "rooms" "[I"] ++ wsX10)
def wsX1_init : List Cond := .code yX1_init cX1_init 1 none :: ([.methodLink RX1 1 objectInit, .instanceMethod objectInit, .code objectInit ⟨#[0xb1]⟩ 1 none, .fieldLink RX1 7 "SubmodularyModel" "n" "I", .arrayClass .int, .fieldLink RX1 13 "SubmodularyModel" "points" "[I", .fieldLink RX1 17 "SubmodularyModel" "edges" "[I", .fieldLink RX1 20 "SubmodularyModel" "colours" "[I", .fieldLink RX1 23 "SubmodularyModel" "rooms" "[I", .fieldLink RX1 26 "SubmodularyModel" "weights" "[I", .fieldLink RX1 29 "SubmodularyModel" "values" "[I", .fieldLink RX1 32 "SubmodularyModel" "order" "[I", .methodLink RX1 35 yX1_forgets, .instanceMethod yX1_forgets, .selects RX1 yX1_forgets yX1_forgets, .initialized RX1, .code yX1_forgets cX1_forgets 2 none, .fieldLink RX1 38 "SubmodularyModel" "functions" "I", .fieldLink RX1 41 "SubmodularyModel" "told" "I"] ++ wsX10)
def wsX1_thrown : List Cond := .code yX1_thrown cX1_thrown 1 (some .int) :: ([.fieldLink RX1 44 "SubmodularyModel" "thrown" "I"] ++ wsX10)
def wsX1_isIn : List Cond := .code yX1_isIn cX1_isIn 3 (some .boolean) :: ([])
def wsX1_isElement : List Cond := .code yX1_isElement cX1_isElement 2 (some .boolean) :: ([.fieldLink RX1 7 "SubmodularyModel" "n" "I", .methodLink RX1 47 yX1_isIn, .static yX1_isIn, .initialized RX1, .code yX1_isIn cX1_isIn 3 (some .boolean)] ++ wsX10)
def wsX1_isFunction : List Cond := .code yX1_isFunction cX1_isFunction 2 (some .boolean) :: ([.fieldLink RX1 38 "SubmodularyModel" "functions" "I", .methodLink RX1 47 yX1_isIn, .static yX1_isIn, .initialized RX1, .code yX1_isIn cX1_isIn 3 (some .boolean)] ++ wsX10)
def wsX1_isSet : List Cond := .code yX1_isSet cX1_isSet 2 (some .boolean) :: ([.fieldLink RX1 7 "SubmodularyModel" "n" "I", .methodLink RX1 47 yX1_isIn, .static yX1_isIn, .initialized RX1, .code yX1_isIn cX1_isIn 3 (some .boolean)] ++ wsX10)
def wsX1_has : List Cond := .code yX1_has cX1_has 2 (some .boolean) :: ([])
def wsX1_many : List Cond := .code yX1_many cX1_many 3 (some .int) :: ([])
def wsX1_elements : List Cond := .code yX1_elements cX1_elements 3 (some .int) :: ([.fieldLink RX1 44 "SubmodularyModel" "thrown" "I", .fieldLink RX1 7 "SubmodularyModel" "n" "I", .methodLink RX1 47 yX1_isIn, .static yX1_isIn, .initialized RX1, .code yX1_isIn cX1_isIn 3 (some .boolean), .methodLink RX1 35 yX1_forgets, .instanceMethod yX1_forgets, .selects RX1 yX1_forgets yX1_forgets, .code yX1_forgets cX1_forgets 2 none, .fieldLink RX1 38 "SubmodularyModel" "functions" "I", .fieldLink RX1 41 "SubmodularyModel" "told" "I", .fieldLink RX1 13 "SubmodularyModel" "points" "[I", .fieldLink RX1 26 "SubmodularyModel" "weights" "[I", .fieldLink RX1 17 "SubmodularyModel" "edges" "[I", .fieldLink RX1 20 "SubmodularyModel" "colours" "[I", .fieldLink RX1 23 "SubmodularyModel" "rooms" "[I"] ++ wsX10)
def wsX1_cover : List Cond := .code yX1_cover cX1_cover 5 (some .boolean) :: ([.fieldLink RX1 44 "SubmodularyModel" "thrown" "I", .fieldLink RX1 13 "SubmodularyModel" "points" "[I", .methodLink RX1 51 yX1_isElement, .instanceMethod yX1_isElement, .selects RX1 yX1_isElement yX1_isElement, .initialized RX1, .code yX1_isElement cX1_isElement 2 (some .boolean), .fieldLink RX1 7 "SubmodularyModel" "n" "I", .methodLink RX1 47 yX1_isIn, .static yX1_isIn, .code yX1_isIn cX1_isIn 3 (some .boolean), .methodLink RX1 55 yX1_has, .static yX1_has, .code yX1_has cX1_has 2 (some .boolean)] ++ wsX10)
def wsX1_edge : List Cond := .code yX1_edge cX1_edge 5 (some .int) :: ([.fieldLink RX1 44 "SubmodularyModel" "thrown" "I", .fieldLink RX1 17 "SubmodularyModel" "edges" "[I", .methodLink RX1 51 yX1_isElement, .instanceMethod yX1_isElement, .selects RX1 yX1_isElement yX1_isElement, .initialized RX1, .code yX1_isElement cX1_isElement 2 (some .boolean), .fieldLink RX1 7 "SubmodularyModel" "n" "I", .methodLink RX1 47 yX1_isIn, .static yX1_isIn, .code yX1_isIn cX1_isIn 3 (some .boolean)] ++ wsX10)
def wsX1_colour : List Cond := .code yX1_colour cX1_colour 5 (some .int) :: ([.fieldLink RX1 44 "SubmodularyModel" "thrown" "I", .fieldLink RX1 20 "SubmodularyModel" "colours" "[I", .methodLink RX1 47 yX1_isIn, .static yX1_isIn, .initialized RX1, .code yX1_isIn cX1_isIn 3 (some .boolean), .methodLink RX1 51 yX1_isElement, .instanceMethod yX1_isElement, .selects RX1 yX1_isElement yX1_isElement, .code yX1_isElement cX1_isElement 2 (some .boolean), .fieldLink RX1 7 "SubmodularyModel" "n" "I"] ++ wsX10)
def wsX1_room : List Cond := .code yX1_room cX1_room 5 (some .int) :: ([.fieldLink RX1 44 "SubmodularyModel" "thrown" "I", .fieldLink RX1 23 "SubmodularyModel" "rooms" "[I", .methodLink RX1 47 yX1_isIn, .static yX1_isIn, .initialized RX1, .code yX1_isIn cX1_isIn 3 (some .boolean)] ++ wsX10)
def wsX1_weigh : List Cond := .code yX1_weigh cX1_weigh 4 (some .int) :: ([.fieldLink RX1 44 "SubmodularyModel" "thrown" "I", .fieldLink RX1 26 "SubmodularyModel" "weights" "[I", .methodLink RX1 51 yX1_isElement, .instanceMethod yX1_isElement, .selects RX1 yX1_isElement yX1_isElement, .initialized RX1, .code yX1_isElement cX1_isElement 2 (some .boolean), .fieldLink RX1 7 "SubmodularyModel" "n" "I", .methodLink RX1 47 yX1_isIn, .static yX1_isIn, .code yX1_isIn cX1_isIn 3 (some .boolean)] ++ wsX10)
def wsX1_covered : List Cond := .code yX1_covered cX1_covered 4 (some .int) :: ([.fieldLink RX1 7 "SubmodularyModel" "n" "I", .fieldLink RX1 13 "SubmodularyModel" "points" "[I", .methodLink RX1 55 yX1_has, .static yX1_has, .initialized RX1, .code yX1_has cX1_has 2 (some .boolean), .methodLink RX1 59 yX1_many, .static yX1_many, .code yX1_many cX1_many 3 (some .int)] ++ wsX10)
def wsX1_cutBy : List Cond := .code yX1_cutBy cX1_cutBy 5 (some .int) :: ([.fieldLink RX1 7 "SubmodularyModel" "n" "I", .fieldLink RX1 17 "SubmodularyModel" "edges" "[I", .methodLink RX1 55 yX1_has, .static yX1_has, .initialized RX1, .code yX1_has cX1_has 2 (some .boolean)] ++ wsX10)
def wsX1_ofColour : List Cond := .code yX1_ofColour cX1_ofColour 6 (some .int) :: ([.fieldLink RX1 7 "SubmodularyModel" "n" "I", .fieldLink RX1 20 "SubmodularyModel" "colours" "[I", .methodLink RX1 55 yX1_has, .static yX1_has, .initialized RX1, .code yX1_has cX1_has 2 (some .boolean)] ++ wsX10)
def wsX1_rank : List Cond := .code yX1_rank cX1_rank 6 (some .int) :: ([.fieldLink RX1 23 "SubmodularyModel" "rooms" "[I", .methodLink RX1 63 yX1_ofColour, .instanceMethod yX1_ofColour, .selects RX1 yX1_ofColour yX1_ofColour, .initialized RX1, .code yX1_ofColour cX1_ofColour 6 (some .int), .fieldLink RX1 7 "SubmodularyModel" "n" "I", .fieldLink RX1 20 "SubmodularyModel" "colours" "[I", .methodLink RX1 55 yX1_has, .static yX1_has, .code yX1_has cX1_has 2 (some .boolean)] ++ wsX10)
def wsX1_weight : List Cond := .code yX1_weight cX1_weight 4 (some .int) :: ([.fieldLink RX1 7 "SubmodularyModel" "n" "I", .fieldLink RX1 26 "SubmodularyModel" "weights" "[I", .methodLink RX1 55 yX1_has, .static yX1_has, .initialized RX1, .code yX1_has cX1_has 2 (some .boolean)] ++ wsX10)
def wsX1_make_r1 : List Cond := [Cond.fieldLink RX1 38 "SubmodularyModel" "functions" "I", Cond.fieldLink RX1 44 "SubmodularyModel" "thrown" "I", Cond.fieldLink RX1 29 "SubmodularyModel" "values" "[I", Cond.methodLink RX1 47 yX1_isIn, Cond.static yX1_isIn, Cond.initialized RX1, Cond.code yX1_isIn cX1_isIn 3 (some .boolean), Cond.methodLink RX1 67 yX1_isSet, Cond.instanceMethod yX1_isSet, Cond.selects RX1 yX1_isSet yX1_isSet, Cond.code yX1_isSet cX1_isSet 2 (some .boolean), Cond.fieldLink RX1 7 "SubmodularyModel" "n" "I", Cond.methodLink RX1 70 yX1_covered, Cond.instanceMethod yX1_covered, Cond.selects RX1 yX1_covered yX1_covered, Cond.code yX1_covered cX1_covered 4 (some .int), Cond.fieldLink RX1 13 "SubmodularyModel" "points" "[I", Cond.methodLink RX1 55 yX1_has, Cond.static yX1_has, Cond.code yX1_has cX1_has 2 (some .boolean), Cond.methodLink RX1 59 yX1_many, Cond.static yX1_many, Cond.code yX1_many cX1_many 3 (some .int), Cond.methodLink RX1 73 yX1_cutBy]
def wsX1_make_r2 : List Cond := [Cond.instanceMethod yX1_cutBy, Cond.selects RX1 yX1_cutBy yX1_cutBy, Cond.code yX1_cutBy cX1_cutBy 5 (some .int), Cond.fieldLink RX1 17 "SubmodularyModel" "edges" "[I", Cond.methodLink RX1 76 yX1_weight, Cond.instanceMethod yX1_weight, Cond.selects RX1 yX1_weight yX1_weight, Cond.code yX1_weight cX1_weight 4 (some .int), Cond.fieldLink RX1 26 "SubmodularyModel" "weights" "[I", Cond.methodLink RX1 79 yX1_rank, Cond.instanceMethod yX1_rank, Cond.selects RX1 yX1_rank yX1_rank, Cond.code yX1_rank cX1_rank 6 (some .int), Cond.fieldLink RX1 23 "SubmodularyModel" "rooms" "[I", Cond.methodLink RX1 63 yX1_ofColour, Cond.instanceMethod yX1_ofColour, Cond.selects RX1 yX1_ofColour yX1_ofColour, Cond.code yX1_ofColour cX1_ofColour 6 (some .int), Cond.fieldLink RX1 20 "SubmodularyModel" "colours" "[I"]
def wsX1_make : List Cond := .code yX1_make cX1_make 3 (some .int) :: ((wsX1_make_r1 ++ wsX1_make_r2) ++ wsX10)
def wsX1_sum : List Cond := .code yX1_sum cX1_sum 4 (some .int) :: ([.fieldLink RX1 38 "SubmodularyModel" "functions" "I", .fieldLink RX1 44 "SubmodularyModel" "thrown" "I", .fieldLink RX1 29 "SubmodularyModel" "values" "[I", .methodLink RX1 83 yX1_isFunction, .instanceMethod yX1_isFunction, .selects RX1 yX1_isFunction yX1_isFunction, .initialized RX1, .code yX1_isFunction cX1_isFunction 2 (some .boolean), .methodLink RX1 47 yX1_isIn, .static yX1_isIn, .code yX1_isIn cX1_isIn 3 (some .boolean), .methodLink RX1 67 yX1_isSet, .instanceMethod yX1_isSet, .selects RX1 yX1_isSet yX1_isSet, .code yX1_isSet cX1_isSet 2 (some .boolean), .fieldLink RX1 7 "SubmodularyModel" "n" "I"] ++ wsX10)
def wsX1_contract : List Cond := .code yX1_contract cX1_contract 4 (some .int) :: ([.fieldLink RX1 38 "SubmodularyModel" "functions" "I", .fieldLink RX1 44 "SubmodularyModel" "thrown" "I", .fieldLink RX1 29 "SubmodularyModel" "values" "[I", .methodLink RX1 83 yX1_isFunction, .instanceMethod yX1_isFunction, .selects RX1 yX1_isFunction yX1_isFunction, .initialized RX1, .code yX1_isFunction cX1_isFunction 2 (some .boolean), .methodLink RX1 47 yX1_isIn, .static yX1_isIn, .code yX1_isIn cX1_isIn 3 (some .boolean), .methodLink RX1 67 yX1_isSet, .instanceMethod yX1_isSet, .selects RX1 yX1_isSet yX1_isSet, .code yX1_isSet cX1_isSet 2 (some .boolean), .fieldLink RX1 7 "SubmodularyModel" "n" "I"] ++ wsX10)
def wsX1_cap : List Cond := .code yX1_cap cX1_cap 5 (some .int) :: ([.fieldLink RX1 38 "SubmodularyModel" "functions" "I", .fieldLink RX1 44 "SubmodularyModel" "thrown" "I", .fieldLink RX1 29 "SubmodularyModel" "values" "[I", .methodLink RX1 83 yX1_isFunction, .instanceMethod yX1_isFunction, .selects RX1 yX1_isFunction yX1_isFunction, .initialized RX1, .code yX1_isFunction cX1_isFunction 2 (some .boolean), .methodLink RX1 47 yX1_isIn, .static yX1_isIn, .code yX1_isIn cX1_isIn 3 (some .boolean), .methodLink RX1 67 yX1_isSet, .instanceMethod yX1_isSet, .selects RX1 yX1_isSet yX1_isSet, .code yX1_isSet cX1_isSet 2 (some .boolean), .fieldLink RX1 7 "SubmodularyModel" "n" "I"] ++ wsX10)
def wsX1_value : List Cond := .code yX1_value cX1_value 3 (some .int) :: ([.fieldLink RX1 44 "SubmodularyModel" "thrown" "I", .fieldLink RX1 29 "SubmodularyModel" "values" "[I", .methodLink RX1 83 yX1_isFunction, .instanceMethod yX1_isFunction, .selects RX1 yX1_isFunction yX1_isFunction, .initialized RX1, .code yX1_isFunction cX1_isFunction 2 (some .boolean), .fieldLink RX1 38 "SubmodularyModel" "functions" "I", .methodLink RX1 47 yX1_isIn, .static yX1_isIn, .code yX1_isIn cX1_isIn 3 (some .boolean), .methodLink RX1 67 yX1_isSet, .instanceMethod yX1_isSet, .selects RX1 yX1_isSet yX1_isSet, .code yX1_isSet cX1_isSet 2 (some .boolean), .fieldLink RX1 7 "SubmodularyModel" "n" "I"] ++ wsX10)
def wsX1_hasLaw : List Cond := .code yX1_hasLaw cX1_hasLaw 8 (some .boolean) :: ([.fieldLink RX1 7 "SubmodularyModel" "n" "I", .fieldLink RX1 29 "SubmodularyModel" "values" "[I", .methodLink RX1 67 yX1_isSet, .instanceMethod yX1_isSet, .selects RX1 yX1_isSet yX1_isSet, .initialized RX1, .code yX1_isSet cX1_isSet 2 (some .boolean), .methodLink RX1 47 yX1_isIn, .static yX1_isIn, .code yX1_isIn cX1_isIn 3 (some .boolean), .methodLink RX1 55 yX1_has, .static yX1_has, .code yX1_has cX1_has 2 (some .boolean)] ++ wsX10)
def wsX1_isLawful : List Cond := .code yX1_isLawful cX1_isLawful 2 (some .boolean) :: ([.fieldLink RX1 44 "SubmodularyModel" "thrown" "I", .methodLink RX1 83 yX1_isFunction, .instanceMethod yX1_isFunction, .selects RX1 yX1_isFunction yX1_isFunction, .initialized RX1, .code yX1_isFunction cX1_isFunction 2 (some .boolean), .fieldLink RX1 38 "SubmodularyModel" "functions" "I", .methodLink RX1 47 yX1_isIn, .static yX1_isIn, .code yX1_isIn cX1_isIn 3 (some .boolean), .methodLink RX1 86 yX1_hasLaw, .instanceMethod yX1_hasLaw, .selects RX1 yX1_hasLaw yX1_hasLaw, .code yX1_hasLaw cX1_hasLaw 8 (some .boolean), .fieldLink RX1 7 "SubmodularyModel" "n" "I", .fieldLink RX1 29 "SubmodularyModel" "values" "[I", .methodLink RX1 67 yX1_isSet, .instanceMethod yX1_isSet, .selects RX1 yX1_isSet yX1_isSet, .code yX1_isSet cX1_isSet 2 (some .boolean), .methodLink RX1 55 yX1_has, .static yX1_has, .code yX1_has cX1_has 2 (some .boolean)] ++ wsX10)
def wsX1_rises : List Cond := .code yX1_rises cX1_rises 5 (some .boolean) :: ([.fieldLink RX1 44 "SubmodularyModel" "thrown" "I", .fieldLink RX1 7 "SubmodularyModel" "n" "I", .fieldLink RX1 29 "SubmodularyModel" "values" "[I", .methodLink RX1 83 yX1_isFunction, .instanceMethod yX1_isFunction, .selects RX1 yX1_isFunction yX1_isFunction, .initialized RX1, .code yX1_isFunction cX1_isFunction 2 (some .boolean), .fieldLink RX1 38 "SubmodularyModel" "functions" "I", .methodLink RX1 47 yX1_isIn, .static yX1_isIn, .code yX1_isIn cX1_isIn 3 (some .boolean), .methodLink RX1 67 yX1_isSet, .instanceMethod yX1_isSet, .selects RX1 yX1_isSet yX1_isSet, .code yX1_isSet cX1_isSet 2 (some .boolean)] ++ wsX10)
def wsX1_leastOf : List Cond := .code yX1_leastOf cX1_leastOf 4 (some .int) :: ([.fieldLink RX1 29 "SubmodularyModel" "values" "[I", .methodLink RX1 67 yX1_isSet, .instanceMethod yX1_isSet, .selects RX1 yX1_isSet yX1_isSet, .initialized RX1, .code yX1_isSet cX1_isSet 2 (some .boolean), .fieldLink RX1 7 "SubmodularyModel" "n" "I", .methodLink RX1 47 yX1_isIn, .static yX1_isIn, .code yX1_isIn cX1_isIn 3 (some .boolean)] ++ wsX10)
def wsX1_least_r1 : List Cond := [Cond.fieldLink RX1 44 "SubmodularyModel" "thrown" "I", Cond.methodLink RX1 83 yX1_isFunction, Cond.instanceMethod yX1_isFunction, Cond.selects RX1 yX1_isFunction yX1_isFunction, Cond.initialized RX1, Cond.code yX1_isFunction cX1_isFunction 2 (some .boolean), Cond.fieldLink RX1 38 "SubmodularyModel" "functions" "I", Cond.methodLink RX1 47 yX1_isIn, Cond.static yX1_isIn, Cond.code yX1_isIn cX1_isIn 3 (some .boolean), Cond.methodLink RX1 86 yX1_hasLaw, Cond.instanceMethod yX1_hasLaw, Cond.selects RX1 yX1_hasLaw yX1_hasLaw, Cond.code yX1_hasLaw cX1_hasLaw 8 (some .boolean), Cond.fieldLink RX1 7 "SubmodularyModel" "n" "I", Cond.fieldLink RX1 29 "SubmodularyModel" "values" "[I", Cond.methodLink RX1 67 yX1_isSet, Cond.instanceMethod yX1_isSet, Cond.selects RX1 yX1_isSet yX1_isSet, Cond.code yX1_isSet cX1_isSet 2 (some .boolean), Cond.methodLink RX1 55 yX1_has, Cond.static yX1_has, Cond.code yX1_has cX1_has 2 (some .boolean), Cond.methodLink RX1 89 yX1_leastOf]
def wsX1_least_r2 : List Cond := [Cond.instanceMethod yX1_leastOf, Cond.selects RX1 yX1_leastOf yX1_leastOf, Cond.code yX1_leastOf cX1_leastOf 4 (some .int)]
def wsX1_least : List Cond := .code yX1_least cX1_least 2 (some .int) :: ((wsX1_least_r1 ++ wsX1_least_r2) ++ wsX10)
def wsX1_leastSets_r1 : List Cond := [Cond.fieldLink RX1 44 "SubmodularyModel" "thrown" "I", Cond.fieldLink RX1 7 "SubmodularyModel" "n" "I", Cond.fieldLink RX1 29 "SubmodularyModel" "values" "[I", Cond.methodLink RX1 83 yX1_isFunction, Cond.instanceMethod yX1_isFunction, Cond.selects RX1 yX1_isFunction yX1_isFunction, Cond.initialized RX1, Cond.code yX1_isFunction cX1_isFunction 2 (some .boolean), Cond.fieldLink RX1 38 "SubmodularyModel" "functions" "I", Cond.methodLink RX1 47 yX1_isIn, Cond.static yX1_isIn, Cond.code yX1_isIn cX1_isIn 3 (some .boolean), Cond.methodLink RX1 86 yX1_hasLaw, Cond.instanceMethod yX1_hasLaw, Cond.selects RX1 yX1_hasLaw yX1_hasLaw, Cond.code yX1_hasLaw cX1_hasLaw 8 (some .boolean), Cond.methodLink RX1 67 yX1_isSet, Cond.instanceMethod yX1_isSet, Cond.selects RX1 yX1_isSet yX1_isSet, Cond.code yX1_isSet cX1_isSet 2 (some .boolean), Cond.methodLink RX1 55 yX1_has, Cond.static yX1_has, Cond.code yX1_has cX1_has 2 (some .boolean), Cond.methodLink RX1 89 yX1_leastOf]
def wsX1_leastSets_r2 : List Cond := [Cond.instanceMethod yX1_leastOf, Cond.selects RX1 yX1_leastOf yX1_leastOf, Cond.code yX1_leastOf cX1_leastOf 4 (some .int)]
def wsX1_leastSets : List Cond := .code yX1_leastSets cX1_leastSets 7 (some .int) :: ((wsX1_leastSets_r1 ++ wsX1_leastSets_r2) ++ wsX10)
def wsX1_leastSet_r1 : List Cond := [Cond.methodLink RX1 92 yX1_leastSets, Cond.instanceMethod yX1_leastSets, Cond.selects RX1 yX1_leastSets yX1_leastSets, Cond.initialized RX1, Cond.code yX1_leastSets cX1_leastSets 7 (some .int), Cond.fieldLink RX1 44 "SubmodularyModel" "thrown" "I", Cond.fieldLink RX1 7 "SubmodularyModel" "n" "I", Cond.fieldLink RX1 29 "SubmodularyModel" "values" "[I", Cond.methodLink RX1 83 yX1_isFunction, Cond.instanceMethod yX1_isFunction, Cond.selects RX1 yX1_isFunction yX1_isFunction, Cond.code yX1_isFunction cX1_isFunction 2 (some .boolean), Cond.fieldLink RX1 38 "SubmodularyModel" "functions" "I", Cond.methodLink RX1 47 yX1_isIn, Cond.static yX1_isIn, Cond.code yX1_isIn cX1_isIn 3 (some .boolean), Cond.methodLink RX1 86 yX1_hasLaw, Cond.instanceMethod yX1_hasLaw, Cond.selects RX1 yX1_hasLaw yX1_hasLaw, Cond.code yX1_hasLaw cX1_hasLaw 8 (some .boolean), Cond.methodLink RX1 67 yX1_isSet, Cond.instanceMethod yX1_isSet, Cond.selects RX1 yX1_isSet yX1_isSet, Cond.code yX1_isSet cX1_isSet 2 (some .boolean)]
def wsX1_leastSet_r2 : List Cond := [Cond.methodLink RX1 55 yX1_has, Cond.static yX1_has, Cond.code yX1_has cX1_has 2 (some .boolean), Cond.methodLink RX1 89 yX1_leastOf, Cond.instanceMethod yX1_leastOf, Cond.selects RX1 yX1_leastOf yX1_leastOf, Cond.code yX1_leastOf cX1_leastOf 4 (some .int)]
def wsX1_leastSet : List Cond := .code yX1_leastSet cX1_leastSet 3 (some .int) :: ((wsX1_leastSet_r1 ++ wsX1_leastSet_r2) ++ wsX10)
def wsX1_leastSetAnew_r1 : List Cond := [Cond.methodLink RX1 92 yX1_leastSets, Cond.instanceMethod yX1_leastSets, Cond.selects RX1 yX1_leastSets yX1_leastSets, Cond.initialized RX1, Cond.code yX1_leastSets cX1_leastSets 7 (some .int), Cond.fieldLink RX1 44 "SubmodularyModel" "thrown" "I", Cond.fieldLink RX1 7 "SubmodularyModel" "n" "I", Cond.fieldLink RX1 29 "SubmodularyModel" "values" "[I", Cond.methodLink RX1 83 yX1_isFunction, Cond.instanceMethod yX1_isFunction, Cond.selects RX1 yX1_isFunction yX1_isFunction, Cond.code yX1_isFunction cX1_isFunction 2 (some .boolean), Cond.fieldLink RX1 38 "SubmodularyModel" "functions" "I", Cond.methodLink RX1 47 yX1_isIn, Cond.static yX1_isIn, Cond.code yX1_isIn cX1_isIn 3 (some .boolean), Cond.methodLink RX1 86 yX1_hasLaw, Cond.instanceMethod yX1_hasLaw, Cond.selects RX1 yX1_hasLaw yX1_hasLaw, Cond.code yX1_hasLaw cX1_hasLaw 8 (some .boolean), Cond.methodLink RX1 67 yX1_isSet, Cond.instanceMethod yX1_isSet, Cond.selects RX1 yX1_isSet yX1_isSet, Cond.code yX1_isSet cX1_isSet 2 (some .boolean)]
def wsX1_leastSetAnew_r2 : List Cond := [Cond.methodLink RX1 55 yX1_has, Cond.static yX1_has, Cond.code yX1_has cX1_has 2 (some .boolean), Cond.methodLink RX1 89 yX1_leastOf, Cond.instanceMethod yX1_leastOf, Cond.selects RX1 yX1_leastOf yX1_leastOf, Cond.code yX1_leastOf cX1_leastOf 4 (some .int)]
def wsX1_leastSetAnew : List Cond := .code yX1_leastSetAnew cX1_leastSetAnew 3 (some .int) :: ((wsX1_leastSetAnew_r1 ++ wsX1_leastSetAnew_r2) ++ wsX10)
def wsX1_placeOf : List Cond := .code yX1_placeOf cX1_placeOf 4 (some .int) :: ([.fieldLink RX1 41 "SubmodularyModel" "told" "I", .fieldLink RX1 32 "SubmodularyModel" "order" "[I"] ++ wsX10)
def wsX1_order : List Cond := .code yX1_order cX1_order 2 (some .int) :: ([.fieldLink RX1 41 "SubmodularyModel" "told" "I", .fieldLink RX1 7 "SubmodularyModel" "n" "I", .fieldLink RX1 44 "SubmodularyModel" "thrown" "I", .fieldLink RX1 32 "SubmodularyModel" "order" "[I", .methodLink RX1 51 yX1_isElement, .instanceMethod yX1_isElement, .selects RX1 yX1_isElement yX1_isElement, .initialized RX1, .code yX1_isElement cX1_isElement 2 (some .boolean), .methodLink RX1 47 yX1_isIn, .static yX1_isIn, .code yX1_isIn cX1_isIn 3 (some .boolean), .methodLink RX1 96 yX1_placeOf, .instanceMethod yX1_placeOf, .selects RX1 yX1_placeOf yX1_placeOf, .code yX1_placeOf cX1_placeOf 4 (some .int)] ++ wsX10)
def wsX1_corner : List Cond := .code yX1_corner cX1_corner 5 (some .int) :: ([.fieldLink RX1 44 "SubmodularyModel" "thrown" "I", .fieldLink RX1 32 "SubmodularyModel" "order" "[I", .fieldLink RX1 29 "SubmodularyModel" "values" "[I", .methodLink RX1 83 yX1_isFunction, .instanceMethod yX1_isFunction, .selects RX1 yX1_isFunction yX1_isFunction, .initialized RX1, .code yX1_isFunction cX1_isFunction 2 (some .boolean), .fieldLink RX1 38 "SubmodularyModel" "functions" "I", .methodLink RX1 47 yX1_isIn, .static yX1_isIn, .code yX1_isIn cX1_isIn 3 (some .boolean), .methodLink RX1 51 yX1_isElement, .instanceMethod yX1_isElement, .selects RX1 yX1_isElement yX1_isElement, .code yX1_isElement cX1_isElement 2 (some .boolean), .fieldLink RX1 7 "SubmodularyModel" "n" "I", .methodLink RX1 96 yX1_placeOf, .instanceMethod yX1_placeOf, .selects RX1 yX1_placeOf yX1_placeOf, .code yX1_placeOf cX1_placeOf 4 (some .int), .fieldLink RX1 41 "SubmodularyModel" "told" "I"] ++ wsX10)
def wsX1_greedy : List Cond := .code yX1_greedy cX1_greedy 7 (some .int) :: ([.fieldLink RX1 44 "SubmodularyModel" "thrown" "I", .fieldLink RX1 7 "SubmodularyModel" "n" "I", .fieldLink RX1 29 "SubmodularyModel" "values" "[I", .methodLink RX1 83 yX1_isFunction, .instanceMethod yX1_isFunction, .selects RX1 yX1_isFunction yX1_isFunction, .initialized RX1, .code yX1_isFunction cX1_isFunction 2 (some .boolean), .fieldLink RX1 38 "SubmodularyModel" "functions" "I", .methodLink RX1 47 yX1_isIn, .static yX1_isIn, .code yX1_isIn cX1_isIn 3 (some .boolean), .methodLink RX1 59 yX1_many, .static yX1_many, .code yX1_many cX1_many 3 (some .int)] ++ wsX10)
def wsX1_best : List Cond := .code yX1_best cX1_best 5 (some .int) :: ([.fieldLink RX1 44 "SubmodularyModel" "thrown" "I", .fieldLink RX1 29 "SubmodularyModel" "values" "[I", .methodLink RX1 83 yX1_isFunction, .instanceMethod yX1_isFunction, .selects RX1 yX1_isFunction yX1_isFunction, .initialized RX1, .code yX1_isFunction cX1_isFunction 2 (some .boolean), .fieldLink RX1 38 "SubmodularyModel" "functions" "I", .methodLink RX1 47 yX1_isIn, .static yX1_isIn, .code yX1_isIn cX1_isIn 3 (some .boolean), .methodLink RX1 67 yX1_isSet, .instanceMethod yX1_isSet, .selects RX1 yX1_isSet yX1_isSet, .code yX1_isSet cX1_isSet 2 (some .boolean), .fieldLink RX1 7 "SubmodularyModel" "n" "I", .methodLink RX1 59 yX1_many, .static yX1_many, .code yX1_many cX1_many 3 (some .int)] ++ wsX10)
def wsX1_isFair : List Cond := .code yX1_isFair cX1_isFair 3 (some .boolean) :: ([.methodLink RX1 79 yX1_rank, .instanceMethod yX1_rank, .selects RX1 yX1_rank yX1_rank, .initialized RX1, .code yX1_rank cX1_rank 6 (some .int), .fieldLink RX1 23 "SubmodularyModel" "rooms" "[I", .methodLink RX1 63 yX1_ofColour, .instanceMethod yX1_ofColour, .selects RX1 yX1_ofColour yX1_ofColour, .code yX1_ofColour cX1_ofColour 6 (some .int), .fieldLink RX1 7 "SubmodularyModel" "n" "I", .fieldLink RX1 20 "SubmodularyModel" "colours" "[I", .methodLink RX1 55 yX1_has, .static yX1_has, .code yX1_has cX1_has 2 (some .boolean), .methodLink RX1 59 yX1_many, .static yX1_many, .code yX1_many cX1_many 3 (some .int)] ++ wsX10)
def wsX1_commonSize_r1 : List Cond := [Cond.methodLink RX1 67 yX1_isSet, Cond.instanceMethod yX1_isSet, Cond.selects RX1 yX1_isSet yX1_isSet, Cond.initialized RX1, Cond.code yX1_isSet cX1_isSet 2 (some .boolean), Cond.fieldLink RX1 7 "SubmodularyModel" "n" "I", Cond.methodLink RX1 47 yX1_isIn, Cond.static yX1_isIn, Cond.code yX1_isIn cX1_isIn 3 (some .boolean), Cond.methodLink RX1 99 yX1_isFair, Cond.instanceMethod yX1_isFair, Cond.selects RX1 yX1_isFair yX1_isFair, Cond.code yX1_isFair cX1_isFair 3 (some .boolean), Cond.methodLink RX1 79 yX1_rank, Cond.instanceMethod yX1_rank, Cond.selects RX1 yX1_rank yX1_rank, Cond.code yX1_rank cX1_rank 6 (some .int), Cond.fieldLink RX1 23 "SubmodularyModel" "rooms" "[I", Cond.methodLink RX1 63 yX1_ofColour, Cond.instanceMethod yX1_ofColour, Cond.selects RX1 yX1_ofColour yX1_ofColour, Cond.code yX1_ofColour cX1_ofColour 6 (some .int), Cond.fieldLink RX1 20 "SubmodularyModel" "colours" "[I", Cond.methodLink RX1 55 yX1_has]
def wsX1_commonSize_r2 : List Cond := [Cond.static yX1_has, Cond.code yX1_has cX1_has 2 (some .boolean), Cond.methodLink RX1 59 yX1_many, Cond.static yX1_many, Cond.code yX1_many cX1_many 3 (some .int)]
def wsX1_commonSize : List Cond := .code yX1_commonSize cX1_commonSize 3 (some .int) :: ((wsX1_commonSize_r1 ++ wsX1_commonSize_r2) ++ wsX10)
def wsX1_common_r1 : List Cond := [Cond.fieldLink RX1 44 "SubmodularyModel" "thrown" "I", Cond.methodLink RX1 102 yX1_commonSize, Cond.instanceMethod yX1_commonSize, Cond.selects RX1 yX1_commonSize yX1_commonSize, Cond.initialized RX1, Cond.code yX1_commonSize cX1_commonSize 3 (some .int), Cond.methodLink RX1 67 yX1_isSet, Cond.instanceMethod yX1_isSet, Cond.selects RX1 yX1_isSet yX1_isSet, Cond.code yX1_isSet cX1_isSet 2 (some .boolean), Cond.fieldLink RX1 7 "SubmodularyModel" "n" "I", Cond.methodLink RX1 47 yX1_isIn, Cond.static yX1_isIn, Cond.code yX1_isIn cX1_isIn 3 (some .boolean), Cond.methodLink RX1 99 yX1_isFair, Cond.instanceMethod yX1_isFair, Cond.selects RX1 yX1_isFair yX1_isFair, Cond.code yX1_isFair cX1_isFair 3 (some .boolean), Cond.methodLink RX1 79 yX1_rank, Cond.instanceMethod yX1_rank, Cond.selects RX1 yX1_rank yX1_rank, Cond.code yX1_rank cX1_rank 6 (some .int), Cond.fieldLink RX1 23 "SubmodularyModel" "rooms" "[I", Cond.methodLink RX1 63 yX1_ofColour]
def wsX1_common_r2 : List Cond := [Cond.instanceMethod yX1_ofColour, Cond.selects RX1 yX1_ofColour yX1_ofColour, Cond.code yX1_ofColour cX1_ofColour 6 (some .int), Cond.fieldLink RX1 20 "SubmodularyModel" "colours" "[I", Cond.methodLink RX1 55 yX1_has, Cond.static yX1_has, Cond.code yX1_has cX1_has 2 (some .boolean), Cond.methodLink RX1 59 yX1_many, Cond.static yX1_many, Cond.code yX1_many cX1_many 3 (some .int)]
def wsX1_common : List Cond := .code yX1_common cX1_common 1 (some .int) :: ((wsX1_common_r1 ++ wsX1_common_r2) ++ wsX10)
def wsX1_commonAnew_r1 : List Cond := [Cond.fieldLink RX1 44 "SubmodularyModel" "thrown" "I", Cond.methodLink RX1 102 yX1_commonSize, Cond.instanceMethod yX1_commonSize, Cond.selects RX1 yX1_commonSize yX1_commonSize, Cond.initialized RX1, Cond.code yX1_commonSize cX1_commonSize 3 (some .int), Cond.methodLink RX1 67 yX1_isSet, Cond.instanceMethod yX1_isSet, Cond.selects RX1 yX1_isSet yX1_isSet, Cond.code yX1_isSet cX1_isSet 2 (some .boolean), Cond.fieldLink RX1 7 "SubmodularyModel" "n" "I", Cond.methodLink RX1 47 yX1_isIn, Cond.static yX1_isIn, Cond.code yX1_isIn cX1_isIn 3 (some .boolean), Cond.methodLink RX1 99 yX1_isFair, Cond.instanceMethod yX1_isFair, Cond.selects RX1 yX1_isFair yX1_isFair, Cond.code yX1_isFair cX1_isFair 3 (some .boolean), Cond.methodLink RX1 79 yX1_rank, Cond.instanceMethod yX1_rank, Cond.selects RX1 yX1_rank yX1_rank, Cond.code yX1_rank cX1_rank 6 (some .int), Cond.fieldLink RX1 23 "SubmodularyModel" "rooms" "[I", Cond.methodLink RX1 63 yX1_ofColour]
def wsX1_commonAnew_r2 : List Cond := [Cond.instanceMethod yX1_ofColour, Cond.selects RX1 yX1_ofColour yX1_ofColour, Cond.code yX1_ofColour cX1_ofColour 6 (some .int), Cond.fieldLink RX1 20 "SubmodularyModel" "colours" "[I", Cond.methodLink RX1 55 yX1_has, Cond.static yX1_has, Cond.code yX1_has cX1_has 2 (some .boolean), Cond.methodLink RX1 59 yX1_many, Cond.static yX1_many, Cond.code yX1_many cX1_many 3 (some .int)]
def wsX1_commonAnew : List Cond := .code yX1_commonAnew cX1_commonAnew 1 (some .int) :: ((wsX1_commonAnew_r1 ++ wsX1_commonAnew_r2) ++ wsX10)
def wsX1_shares : List Cond := .code yX1_shares cX1_shares 12 (some .int) :: ([.fieldLink RX1 44 "SubmodularyModel" "thrown" "I", .fieldLink RX1 7 "SubmodularyModel" "n" "I", .fieldLink RX1 29 "SubmodularyModel" "values" "[I", .methodLink RX1 83 yX1_isFunction, .instanceMethod yX1_isFunction, .selects RX1 yX1_isFunction yX1_isFunction, .initialized RX1, .code yX1_isFunction cX1_isFunction 2 (some .boolean), .fieldLink RX1 38 "SubmodularyModel" "functions" "I", .methodLink RX1 47 yX1_isIn, .static yX1_isIn, .code yX1_isIn cX1_isIn 3 (some .boolean), .methodLink RX1 51 yX1_isElement, .instanceMethod yX1_isElement, .selects RX1 yX1_isElement yX1_isElement, .code yX1_isElement cX1_isElement 2 (some .boolean), .methodLink RX1 55 yX1_has, .static yX1_has, .code yX1_has cX1_has 2 (some .boolean)] ++ wsX10)
def wsX1_share : List Cond := .code yX1_share cX1_share 3 (some .int) :: ([.methodLink RX1 106 yX1_shares, .instanceMethod yX1_shares, .selects RX1 yX1_shares yX1_shares, .initialized RX1, .code yX1_shares cX1_shares 12 (some .int), .fieldLink RX1 44 "SubmodularyModel" "thrown" "I", .fieldLink RX1 7 "SubmodularyModel" "n" "I", .fieldLink RX1 29 "SubmodularyModel" "values" "[I", .methodLink RX1 83 yX1_isFunction, .instanceMethod yX1_isFunction, .selects RX1 yX1_isFunction yX1_isFunction, .code yX1_isFunction cX1_isFunction 2 (some .boolean), .fieldLink RX1 38 "SubmodularyModel" "functions" "I", .methodLink RX1 47 yX1_isIn, .static yX1_isIn, .code yX1_isIn cX1_isIn 3 (some .boolean), .methodLink RX1 51 yX1_isElement, .instanceMethod yX1_isElement, .selects RX1 yX1_isElement yX1_isElement, .code yX1_isElement cX1_isElement 2 (some .boolean), .methodLink RX1 55 yX1_has, .static yX1_has, .code yX1_has cX1_has 2 (some .boolean)] ++ wsX10)
def wsX1_shareAnew : List Cond := .code yX1_shareAnew cX1_shareAnew 3 (some .int) :: ([.methodLink RX1 106 yX1_shares, .instanceMethod yX1_shares, .selects RX1 yX1_shares yX1_shares, .initialized RX1, .code yX1_shares cX1_shares 12 (some .int), .fieldLink RX1 44 "SubmodularyModel" "thrown" "I", .fieldLink RX1 7 "SubmodularyModel" "n" "I", .fieldLink RX1 29 "SubmodularyModel" "values" "[I", .methodLink RX1 83 yX1_isFunction, .instanceMethod yX1_isFunction, .selects RX1 yX1_isFunction yX1_isFunction, .code yX1_isFunction cX1_isFunction 2 (some .boolean), .fieldLink RX1 38 "SubmodularyModel" "functions" "I", .methodLink RX1 47 yX1_isIn, .static yX1_isIn, .code yX1_isIn cX1_isIn 3 (some .boolean), .methodLink RX1 51 yX1_isElement, .instanceMethod yX1_isElement, .selects RX1 yX1_isElement yX1_isElement, .code yX1_isElement cX1_isElement 2 (some .boolean), .methodLink RX1 55 yX1_has, .static yX1_has, .code yX1_has cX1_has 2 (some .boolean)] ++ wsX10)
def wsJ9_max_7cf53 : List Cond := .code yJ9_max_7cf53 cJ9_max_7cf53 2 (some .int) :: ([])
def wsJ9_min_7cf53 : List Cond := .code yJ9_min_7cf53 cJ9_min_7cf53 2 (some .int) :: ([])
def wsL_elements_r1 : List Cond := [Cond.classLink RL 13 "java/lang/IllegalArgumentException", Cond.methodLink RL 7 yX0_elements, Cond.instanceMethod yX0_elements, Cond.selects RX0 yX0_elements yX0_elements, Cond.initialized RX0, Cond.code yX0_elements cX0_elements 3 (some .int), Cond.fieldLink RX0 9 "Submodulary" "elements" "I", Cond.fieldLink RX0 13 "Submodulary" "functions" "I", Cond.fieldLink RX0 16 "Submodulary" "told" "I", Cond.fieldLink RX0 19 "Submodulary" "covered" "[I", Cond.fieldLink RX0 23 "Submodulary" "edges" "[I", Cond.fieldLink RX0 26 "Submodulary" "colours" "[I", Cond.fieldLink RX0 29 "Submodulary" "rooms" "[I", Cond.fieldLink RX0 32 "Submodulary" "weights" "[I", Cond.methodLink RX0 53 yX0_isWithin, Cond.static yX0_isWithin, Cond.code yX0_isWithin cX0_isWithin 3 (some .boolean), Cond.methodLink RX0 57 yX0_needArgument, Cond.static yX0_needArgument, Cond.code yX0_needArgument cX0_needArgument 1 none, Cond.classLink RX0 188 "java/lang/IllegalArgumentException", Cond.initialized "java/lang/IllegalArgumentException", Cond.methodLink RX0 47 yJ7_fill_53178, Cond.static yJ7_fill_53178]
def wsL_elements_r2 : List Cond := [Cond.initialized RJ7, Cond.code yJ7_fill_53178 cJ7_fill_53178 4 none]
def wsL_elements : List Cond := .codeWith yL_elements cL_elements 4 (some .int) [(0, 9, 12, 13)] :: ((wsL_elements_r1 ++ wsL_elements_r2) ++ wsX00 ++ (vx_atS RX0 192 "java/lang/IllegalArgumentException" ["java/lang/RuntimeException", "java/lang/Exception"]).filter goodWord)
def wsL_cover_r1 : List Cond := [Cond.classLink RL 19 "java/lang/IndexOutOfBoundsException", Cond.methodLink RL 15 yX0_cover, Cond.instanceMethod yX0_cover, Cond.selects RX0 yX0_cover yX0_cover, Cond.initialized RX0, Cond.code yX0_cover cX0_cover 5 (some .boolean), Cond.fieldLink RX0 19 "Submodulary" "covered" "[I", Cond.methodLink RX0 61 yX0_isElement, Cond.instanceMethod yX0_isElement, Cond.selects RX0 yX0_isElement yX0_isElement, Cond.code yX0_isElement cX0_isElement 2 (some .boolean), Cond.fieldLink RX0 9 "Submodulary" "elements" "I", Cond.methodLink RX0 53 yX0_isWithin, Cond.static yX0_isWithin, Cond.code yX0_isWithin cX0_isWithin 3 (some .boolean), Cond.methodLink RX0 65 yX0_needIndex, Cond.static yX0_needIndex, Cond.code yX0_needIndex cX0_needIndex 1 none, Cond.classLink RX0 181 "java/lang/IndexOutOfBoundsException", Cond.initialized "java/lang/IndexOutOfBoundsException", Cond.methodLink RX0 68 yX0_at, Cond.static yX0_at, Cond.code yX0_at cX0_at 2 (some .int), Cond.methodLink RX0 72 yX0_with]
def wsL_cover_r2 : List Cond := [Cond.static yX0_with, Cond.code yX0_with cX0_with 2 (some .int), Cond.methodLink RX0 76 yX0_without, Cond.static yX0_without, Cond.code yX0_without cX0_without 2 (some .int), Cond.methodLink RX0 79 yX0_put, Cond.static yX0_put, Cond.code yX0_put cX0_put 3 none, Cond.methodLink RX0 83 yX0_has, Cond.static yX0_has, Cond.code yX0_has cX0_has 2 (some .boolean)]
def wsL_cover : List Cond := .codeWith yL_cover cL_cover 6 (some .int) [(0, 19, 22, 19)] :: ((wsL_cover_r1 ++ wsL_cover_r2) ++ wsX00 ++ (vx_atS RX0 185 "java/lang/IndexOutOfBoundsException" ["java/lang/RuntimeException", "java/lang/Exception"]).filter goodWord)
def wsL_edge_r1 : List Cond := [Cond.classLink RL 19 "java/lang/IndexOutOfBoundsException", Cond.classLink RL 13 "java/lang/IllegalArgumentException", Cond.methodLink RL 21 yX0_edge, Cond.instanceMethod yX0_edge, Cond.selects RX0 yX0_edge yX0_edge, Cond.initialized RX0, Cond.code yX0_edge cX0_edge 5 (some .int), Cond.fieldLink RX0 23 "Submodulary" "edges" "[I", Cond.methodLink RX0 61 yX0_isElement, Cond.instanceMethod yX0_isElement, Cond.selects RX0 yX0_isElement yX0_isElement, Cond.code yX0_isElement cX0_isElement 2 (some .boolean), Cond.fieldLink RX0 9 "Submodulary" "elements" "I", Cond.methodLink RX0 65 yX0_needIndex, Cond.static yX0_needIndex, Cond.code yX0_needIndex cX0_needIndex 1 none, Cond.classLink RX0 181 "java/lang/IndexOutOfBoundsException", Cond.initialized "java/lang/IndexOutOfBoundsException", Cond.methodLink RX0 53 yX0_isWithin, Cond.static yX0_isWithin, Cond.code yX0_isWithin cX0_isWithin 3 (some .boolean), Cond.methodLink RX0 57 yX0_needArgument, Cond.static yX0_needArgument, Cond.code yX0_needArgument cX0_needArgument 1 none]
def wsL_edge_r2 : List Cond := [Cond.classLink RX0 188 "java/lang/IllegalArgumentException", Cond.initialized "java/lang/IllegalArgumentException", Cond.methodLink RX0 87 yX0_edgeWeight, Cond.instanceMethod yX0_edgeWeight, Cond.selects RX0 yX0_edgeWeight yX0_edgeWeight, Cond.code yX0_edgeWeight cX0_edgeWeight 3 (some .int), Cond.methodLink RX0 68 yX0_at, Cond.static yX0_at, Cond.code yX0_at cX0_at 2 (some .int), Cond.methodLink RX0 79 yX0_put, Cond.static yX0_put, Cond.code yX0_put cX0_put 3 none]
def wsL_edge : List Cond := .codeWith yL_edge cL_edge 6 (some .int) [(0, 12, 15, 19), (0, 12, 19, 13)] :: ((wsL_edge_r1 ++ wsL_edge_r2) ++ wsX00 ++ (vx_atS RX0 185 "java/lang/IndexOutOfBoundsException" ["java/lang/RuntimeException", "java/lang/Exception"]).filter goodWord ++ (vx_atS RX0 192 "java/lang/IllegalArgumentException" ["java/lang/RuntimeException", "java/lang/Exception"]).filter goodWord)
def wsL_colour_r1 : List Cond := [Cond.classLink RL 19 "java/lang/IndexOutOfBoundsException", Cond.methodLink RL 25 yX0_colour, Cond.instanceMethod yX0_colour, Cond.selects RX0 yX0_colour yX0_colour, Cond.initialized RX0, Cond.code yX0_colour cX0_colour 5 (some .int), Cond.fieldLink RX0 26 "Submodulary" "colours" "[I", Cond.methodLink RX0 90 yX0_isFamily, Cond.static yX0_isFamily, Cond.code yX0_isFamily cX0_isFamily 1 (some .boolean), Cond.methodLink RX0 61 yX0_isElement, Cond.instanceMethod yX0_isElement, Cond.selects RX0 yX0_isElement yX0_isElement, Cond.code yX0_isElement cX0_isElement 2 (some .boolean), Cond.fieldLink RX0 9 "Submodulary" "elements" "I", Cond.methodLink RX0 93 yX0_isColour, Cond.static yX0_isColour, Cond.code yX0_isColour cX0_isColour 1 (some .boolean), Cond.methodLink RX0 65 yX0_needIndex, Cond.static yX0_needIndex, Cond.code yX0_needIndex cX0_needIndex 1 none, Cond.classLink RX0 181 "java/lang/IndexOutOfBoundsException", Cond.initialized "java/lang/IndexOutOfBoundsException", Cond.methodLink RX0 96 yX0_colourOf]
def wsL_colour_r2 : List Cond := [Cond.instanceMethod yX0_colourOf, Cond.selects RX0 yX0_colourOf yX0_colourOf, Cond.code yX0_colourOf cX0_colourOf 3 (some .int), Cond.methodLink RX0 68 yX0_at, Cond.static yX0_at, Cond.code yX0_at cX0_at 2 (some .int), Cond.methodLink RX0 79 yX0_put, Cond.static yX0_put, Cond.code yX0_put cX0_put 3 none]
def wsL_colour : List Cond := .codeWith yL_colour cL_colour 6 (some .int) [(0, 12, 15, 19)] :: ((wsL_colour_r1 ++ wsL_colour_r2) ++ wsX00 ++ (vx_atS RX0 185 "java/lang/IndexOutOfBoundsException" ["java/lang/RuntimeException", "java/lang/Exception"]).filter goodWord)
def wsL_room_r1 : List Cond := [Cond.classLink RL 19 "java/lang/IndexOutOfBoundsException", Cond.classLink RL 13 "java/lang/IllegalArgumentException", Cond.methodLink RL 28 yX0_room, Cond.instanceMethod yX0_room, Cond.selects RX0 yX0_room yX0_room, Cond.initialized RX0, Cond.code yX0_room cX0_room 5 (some .int), Cond.fieldLink RX0 29 "Submodulary" "rooms" "[I", Cond.methodLink RX0 90 yX0_isFamily, Cond.static yX0_isFamily, Cond.code yX0_isFamily cX0_isFamily 1 (some .boolean), Cond.methodLink RX0 93 yX0_isColour, Cond.static yX0_isColour, Cond.code yX0_isColour cX0_isColour 1 (some .boolean), Cond.methodLink RX0 65 yX0_needIndex, Cond.static yX0_needIndex, Cond.code yX0_needIndex cX0_needIndex 1 none, Cond.classLink RX0 181 "java/lang/IndexOutOfBoundsException", Cond.initialized "java/lang/IndexOutOfBoundsException", Cond.methodLink RX0 53 yX0_isWithin, Cond.static yX0_isWithin, Cond.code yX0_isWithin cX0_isWithin 3 (some .boolean), Cond.methodLink RX0 57 yX0_needArgument, Cond.static yX0_needArgument]
def wsL_room_r2 : List Cond := [Cond.code yX0_needArgument cX0_needArgument 1 none, Cond.classLink RX0 188 "java/lang/IllegalArgumentException", Cond.initialized "java/lang/IllegalArgumentException", Cond.methodLink RX0 99 yX0_roomOf, Cond.instanceMethod yX0_roomOf, Cond.selects RX0 yX0_roomOf yX0_roomOf, Cond.code yX0_roomOf cX0_roomOf 3 (some .int), Cond.methodLink RX0 68 yX0_at, Cond.static yX0_at, Cond.code yX0_at cX0_at 2 (some .int), Cond.methodLink RX0 79 yX0_put, Cond.static yX0_put, Cond.code yX0_put cX0_put 3 none]
def wsL_room : List Cond := .codeWith yL_room cL_room 6 (some .int) [(0, 12, 15, 19), (0, 12, 19, 13)] :: ((wsL_room_r1 ++ wsL_room_r2) ++ wsX00 ++ (vx_atS RX0 185 "java/lang/IndexOutOfBoundsException" ["java/lang/RuntimeException", "java/lang/Exception"]).filter goodWord ++ (vx_atS RX0 192 "java/lang/IllegalArgumentException" ["java/lang/RuntimeException", "java/lang/Exception"]).filter goodWord)
def wsL_weigh_r1 : List Cond := [Cond.classLink RL 19 "java/lang/IndexOutOfBoundsException", Cond.classLink RL 13 "java/lang/IllegalArgumentException", Cond.methodLink RL 31 yX0_weigh, Cond.instanceMethod yX0_weigh, Cond.selects RX0 yX0_weigh yX0_weigh, Cond.initialized RX0, Cond.code yX0_weigh cX0_weigh 4 (some .int), Cond.fieldLink RX0 32 "Submodulary" "weights" "[I", Cond.methodLink RX0 61 yX0_isElement, Cond.instanceMethod yX0_isElement, Cond.selects RX0 yX0_isElement yX0_isElement, Cond.code yX0_isElement cX0_isElement 2 (some .boolean), Cond.fieldLink RX0 9 "Submodulary" "elements" "I", Cond.methodLink RX0 65 yX0_needIndex, Cond.static yX0_needIndex, Cond.code yX0_needIndex cX0_needIndex 1 none, Cond.classLink RX0 181 "java/lang/IndexOutOfBoundsException", Cond.initialized "java/lang/IndexOutOfBoundsException", Cond.methodLink RX0 53 yX0_isWithin, Cond.static yX0_isWithin, Cond.code yX0_isWithin cX0_isWithin 3 (some .boolean), Cond.methodLink RX0 57 yX0_needArgument, Cond.static yX0_needArgument, Cond.code yX0_needArgument cX0_needArgument 1 none]
def wsL_weigh_r2 : List Cond := [Cond.classLink RX0 188 "java/lang/IllegalArgumentException", Cond.initialized "java/lang/IllegalArgumentException", Cond.methodLink RX0 68 yX0_at, Cond.static yX0_at, Cond.code yX0_at cX0_at 2 (some .int), Cond.methodLink RX0 79 yX0_put, Cond.static yX0_put, Cond.code yX0_put cX0_put 3 none]
def wsL_weigh : List Cond := .codeWith yL_weigh cL_weigh 5 (some .int) [(0, 10, 13, 19), (0, 10, 17, 13)] :: ((wsL_weigh_r1 ++ wsL_weigh_r2) ++ wsX00 ++ (vx_atS RX0 185 "java/lang/IndexOutOfBoundsException" ["java/lang/RuntimeException", "java/lang/Exception"]).filter goodWord ++ (vx_atS RX0 192 "java/lang/IllegalArgumentException" ["java/lang/RuntimeException", "java/lang/Exception"]).filter goodWord)
def wsL_make_r1 : List Cond := [Cond.classLink RL 13 "java/lang/IllegalArgumentException", Cond.classLink RL 38 "java/lang/IllegalStateException", Cond.methodLink RL 35 yX0_make, Cond.instanceMethod yX0_make, Cond.selects RX0 yX0_make yX0_make, Cond.initialized RX0, Cond.code yX0_make cX0_make 3 (some .int), Cond.methodLink RX0 53 yX0_isWithin, Cond.static yX0_isWithin, Cond.code yX0_isWithin cX0_isWithin 3 (some .boolean), Cond.methodLink RX0 57 yX0_needArgument, Cond.static yX0_needArgument, Cond.code yX0_needArgument cX0_needArgument 1 none, Cond.classLink RX0 188 "java/lang/IllegalArgumentException", Cond.initialized "java/lang/IllegalArgumentException", Cond.methodLink RX0 102 yX0_needPlace, Cond.instanceMethod yX0_needPlace, Cond.selects RX0 yX0_needPlace yX0_needPlace, Cond.code yX0_needPlace cX0_needPlace 1 none, Cond.fieldLink RX0 13 "Submodulary" "functions" "I", Cond.methodLink RX0 140 yX0_needState, Cond.static yX0_needState, Cond.code yX0_needState cX0_needState 1 none, Cond.classLink RX0 193 "java/lang/IllegalStateException"]
def wsL_make_r2 : List Cond := [Cond.initialized "java/lang/IllegalStateException", Cond.methodLink RX0 105 yX0_sets, Cond.instanceMethod yX0_sets, Cond.selects RX0 yX0_sets yX0_sets, Cond.code yX0_sets cX0_sets 1 (some .int), Cond.fieldLink RX0 9 "Submodulary" "elements" "I", Cond.methodLink RX0 109 yX0_toldValue, Cond.instanceMethod yX0_toldValue, Cond.selects RX0 yX0_toldValue yX0_toldValue, Cond.code yX0_toldValue cX0_toldValue 3 (some .int), Cond.methodLink RX0 198 yX0_coverValue, Cond.instanceMethod yX0_coverValue, Cond.selects RX0 yX0_coverValue yX0_coverValue, Cond.code yX0_coverValue cX0_coverValue 4 (some .int), Cond.fieldLink RX0 19 "Submodulary" "covered" "[I", Cond.methodLink RX0 83 yX0_has, Cond.static yX0_has, Cond.code yX0_has cX0_has 2 (some .boolean), Cond.methodLink RX0 68 yX0_at, Cond.static yX0_at, Cond.code yX0_at cX0_at 2 (some .int), Cond.methodLink RX0 157 yJ6_bitCount_0f7a4, Cond.static yJ6_bitCount_0f7a4, Cond.initialized RJ6]
def wsL_make_r3 : List Cond := [Cond.code yJ6_bitCount_0f7a4 cJ6_bitCount_0f7a4 1 (some .int), Cond.constant RJ6 265 (1431655765), Cond.constant RJ6 266 (858993459), Cond.constant RJ6 267 (252645135), Cond.methodLink RX0 201 yX0_cutValue, Cond.instanceMethod yX0_cutValue, Cond.selects RX0 yX0_cutValue yX0_cutValue, Cond.code yX0_cutValue cX0_cutValue 5 (some .int), Cond.methodLink RX0 87 yX0_edgeWeight, Cond.instanceMethod yX0_edgeWeight, Cond.selects RX0 yX0_edgeWeight yX0_edgeWeight, Cond.code yX0_edgeWeight cX0_edgeWeight 3 (some .int), Cond.fieldLink RX0 23 "Submodulary" "edges" "[I", Cond.methodLink RX0 204 yX0_rankValue, Cond.instanceMethod yX0_rankValue, Cond.selects RX0 yX0_rankValue yX0_rankValue, Cond.code yX0_rankValue cX0_rankValue 5 (some .int), Cond.methodLink RX0 128 Lib.Math.min.name, Cond.static Lib.Math.min.name, Cond.initialized "java/lang/Math", Cond.code Lib.Math.min.name Lib.Math.min.code 2 (some .int), Cond.methodLink RX0 210 yX0_countOf, Cond.instanceMethod yX0_countOf, Cond.selects RX0 yX0_countOf yX0_countOf]
def wsL_make_r4 : List Cond := [Cond.code yX0_countOf cX0_countOf 6 (some .int), Cond.methodLink RX0 96 yX0_colourOf, Cond.instanceMethod yX0_colourOf, Cond.selects RX0 yX0_colourOf yX0_colourOf, Cond.code yX0_colourOf cX0_colourOf 3 (some .int), Cond.fieldLink RX0 26 "Submodulary" "colours" "[I", Cond.methodLink RX0 99 yX0_roomOf, Cond.instanceMethod yX0_roomOf, Cond.selects RX0 yX0_roomOf yX0_roomOf, Cond.code yX0_roomOf cX0_roomOf 3 (some .int), Cond.fieldLink RX0 29 "Submodulary" "rooms" "[I", Cond.methodLink RX0 207 yX0_weightsValue, Cond.instanceMethod yX0_weightsValue, Cond.selects RX0 yX0_weightsValue yX0_weightsValue, Cond.code yX0_weightsValue cX0_weightsValue 4 (some .int), Cond.fieldLink RX0 32 "Submodulary" "weights" "[I", Cond.methodLink RX0 112 yX0_putNew, Cond.instanceMethod yX0_putNew, Cond.selects RX0 yX0_putNew yX0_putNew, Cond.code yX0_putNew cX0_putNew 3 none, Cond.fieldLink RX0 35 "Submodulary" "values" "[I", Cond.methodLink RX0 79 yX0_put, Cond.static yX0_put, Cond.code yX0_put cX0_put 3 none]
def wsL_make_r5 : List Cond := [Cond.methodLink RX0 116 yX0_countNew, Cond.instanceMethod yX0_countNew, Cond.selects RX0 yX0_countNew yX0_countNew, Cond.code yX0_countNew cX0_countNew 2 (some .int)]
def wsL_make : List Cond := .codeWith yL_make cL_make 4 (some .int) [(0, 9, 12, 13), (0, 9, 15, 38)] :: ((wsL_make_r1 ++ (wsL_make_r2 ++ (wsL_make_r3 ++ (wsL_make_r4 ++ wsL_make_r5)))) ++ wsX00 ++ (vx_atS RX0 192 "java/lang/IllegalArgumentException" ["java/lang/RuntimeException", "java/lang/Exception"]).filter goodWord ++ (vx_atS RX0 197 "java/lang/IllegalStateException" ["java/lang/RuntimeException", "java/lang/Exception"]).filter goodWord)
def wsL_sum_r1 : List Cond := [Cond.classLink RL 19 "java/lang/IndexOutOfBoundsException", Cond.classLink RL 38 "java/lang/IllegalStateException", Cond.methodLink RL 40 yX0_sum, Cond.instanceMethod yX0_sum, Cond.selects RX0 yX0_sum yX0_sum, Cond.initialized RX0, Cond.code yX0_sum cX0_sum 4 (some .int), Cond.methodLink RX0 119 yX0_isFunction, Cond.instanceMethod yX0_isFunction, Cond.selects RX0 yX0_isFunction yX0_isFunction, Cond.code yX0_isFunction cX0_isFunction 2 (some .boolean), Cond.fieldLink RX0 13 "Submodulary" "functions" "I", Cond.methodLink RX0 65 yX0_needIndex, Cond.static yX0_needIndex, Cond.code yX0_needIndex cX0_needIndex 1 none, Cond.classLink RX0 181 "java/lang/IndexOutOfBoundsException", Cond.initialized "java/lang/IndexOutOfBoundsException", Cond.methodLink RX0 102 yX0_needPlace, Cond.instanceMethod yX0_needPlace, Cond.selects RX0 yX0_needPlace yX0_needPlace, Cond.code yX0_needPlace cX0_needPlace 1 none, Cond.methodLink RX0 140 yX0_needState, Cond.static yX0_needState, Cond.code yX0_needState cX0_needState 1 none]
def wsL_sum_r2 : List Cond := [Cond.classLink RX0 193 "java/lang/IllegalStateException", Cond.initialized "java/lang/IllegalStateException", Cond.methodLink RX0 105 yX0_sets, Cond.instanceMethod yX0_sets, Cond.selects RX0 yX0_sets yX0_sets, Cond.code yX0_sets cX0_sets 1 (some .int), Cond.fieldLink RX0 9 "Submodulary" "elements" "I", Cond.methodLink RX0 122 yX0_valueOf, Cond.instanceMethod yX0_valueOf, Cond.selects RX0 yX0_valueOf yX0_valueOf, Cond.code yX0_valueOf cX0_valueOf 3 (some .int), Cond.fieldLink RX0 35 "Submodulary" "values" "[I", Cond.methodLink RX0 68 yX0_at, Cond.static yX0_at, Cond.code yX0_at cX0_at 2 (some .int), Cond.methodLink RX0 112 yX0_putNew, Cond.instanceMethod yX0_putNew, Cond.selects RX0 yX0_putNew yX0_putNew, Cond.code yX0_putNew cX0_putNew 3 none, Cond.methodLink RX0 79 yX0_put, Cond.static yX0_put, Cond.code yX0_put cX0_put 3 none, Cond.methodLink RX0 116 yX0_countNew, Cond.instanceMethod yX0_countNew]
def wsL_sum_r3 : List Cond := [Cond.selects RX0 yX0_countNew yX0_countNew, Cond.code yX0_countNew cX0_countNew 2 (some .int)]
def wsL_sum : List Cond := .codeWith yL_sum cL_sum 5 (some .int) [(0, 10, 13, 19), (0, 10, 17, 38)] :: ((wsL_sum_r1 ++ (wsL_sum_r2 ++ wsL_sum_r3)) ++ wsX00 ++ (vx_atS RX0 185 "java/lang/IndexOutOfBoundsException" ["java/lang/RuntimeException", "java/lang/Exception"]).filter goodWord ++ (vx_atS RX0 197 "java/lang/IllegalStateException" ["java/lang/RuntimeException", "java/lang/Exception"]).filter goodWord)
def wsL_contract_r1 : List Cond := [Cond.classLink RL 19 "java/lang/IndexOutOfBoundsException", Cond.classLink RL 13 "java/lang/IllegalArgumentException", Cond.classLink RL 38 "java/lang/IllegalStateException", Cond.methodLink RL 43 yX0_contract, Cond.instanceMethod yX0_contract, Cond.selects RX0 yX0_contract yX0_contract, Cond.initialized RX0, Cond.code yX0_contract cX0_contract 4 (some .int), Cond.methodLink RX0 119 yX0_isFunction, Cond.instanceMethod yX0_isFunction, Cond.selects RX0 yX0_isFunction yX0_isFunction, Cond.code yX0_isFunction cX0_isFunction 2 (some .boolean), Cond.fieldLink RX0 13 "Submodulary" "functions" "I", Cond.methodLink RX0 65 yX0_needIndex, Cond.static yX0_needIndex, Cond.code yX0_needIndex cX0_needIndex 1 none, Cond.classLink RX0 181 "java/lang/IndexOutOfBoundsException", Cond.initialized "java/lang/IndexOutOfBoundsException", Cond.methodLink RX0 125 yX0_isSet, Cond.instanceMethod yX0_isSet, Cond.selects RX0 yX0_isSet yX0_isSet, Cond.code yX0_isSet cX0_isSet 2 (some .boolean), Cond.methodLink RX0 105 yX0_sets, Cond.instanceMethod yX0_sets]
def wsL_contract_r2 : List Cond := [Cond.selects RX0 yX0_sets yX0_sets, Cond.code yX0_sets cX0_sets 1 (some .int), Cond.fieldLink RX0 9 "Submodulary" "elements" "I", Cond.methodLink RX0 57 yX0_needArgument, Cond.static yX0_needArgument, Cond.code yX0_needArgument cX0_needArgument 1 none, Cond.classLink RX0 188 "java/lang/IllegalArgumentException", Cond.initialized "java/lang/IllegalArgumentException", Cond.methodLink RX0 102 yX0_needPlace, Cond.instanceMethod yX0_needPlace, Cond.selects RX0 yX0_needPlace yX0_needPlace, Cond.code yX0_needPlace cX0_needPlace 1 none, Cond.methodLink RX0 140 yX0_needState, Cond.static yX0_needState, Cond.code yX0_needState cX0_needState 1 none, Cond.classLink RX0 193 "java/lang/IllegalStateException", Cond.initialized "java/lang/IllegalStateException", Cond.methodLink RX0 122 yX0_valueOf, Cond.instanceMethod yX0_valueOf, Cond.selects RX0 yX0_valueOf yX0_valueOf, Cond.code yX0_valueOf cX0_valueOf 3 (some .int), Cond.fieldLink RX0 35 "Submodulary" "values" "[I", Cond.methodLink RX0 68 yX0_at, Cond.static yX0_at]
def wsL_contract_r3 : List Cond := [Cond.code yX0_at cX0_at 2 (some .int), Cond.methodLink RX0 112 yX0_putNew, Cond.instanceMethod yX0_putNew, Cond.selects RX0 yX0_putNew yX0_putNew, Cond.code yX0_putNew cX0_putNew 3 none, Cond.methodLink RX0 79 yX0_put, Cond.static yX0_put, Cond.code yX0_put cX0_put 3 none, Cond.methodLink RX0 116 yX0_countNew, Cond.instanceMethod yX0_countNew, Cond.selects RX0 yX0_countNew yX0_countNew, Cond.code yX0_countNew cX0_countNew 2 (some .int)]
def wsL_contract : List Cond := .codeWith yL_contract cL_contract 5 (some .int) [(0, 10, 13, 19), (0, 10, 17, 13), (0, 10, 21, 38)] :: ((wsL_contract_r1 ++ (wsL_contract_r2 ++ wsL_contract_r3)) ++ wsX00 ++ (vx_atS RX0 185 "java/lang/IndexOutOfBoundsException" ["java/lang/RuntimeException", "java/lang/Exception"]).filter goodWord ++ (vx_atS RX0 192 "java/lang/IllegalArgumentException" ["java/lang/RuntimeException", "java/lang/Exception"]).filter goodWord ++ (vx_atS RX0 197 "java/lang/IllegalStateException" ["java/lang/RuntimeException", "java/lang/Exception"]).filter goodWord)
def wsL_cap_r1 : List Cond := [Cond.classLink RL 19 "java/lang/IndexOutOfBoundsException", Cond.classLink RL 13 "java/lang/IllegalArgumentException", Cond.classLink RL 38 "java/lang/IllegalStateException", Cond.methodLink RL 46 yX0_cap, Cond.instanceMethod yX0_cap, Cond.selects RX0 yX0_cap yX0_cap, Cond.initialized RX0, Cond.code yX0_cap cX0_cap 4 (some .int), Cond.methodLink RX0 128 Lib.Math.min.name, Cond.static Lib.Math.min.name, Cond.initialized "java/lang/Math", Cond.code Lib.Math.min.name Lib.Math.min.code 2 (some .int), Cond.methodLink RX0 119 yX0_isFunction, Cond.instanceMethod yX0_isFunction, Cond.selects RX0 yX0_isFunction yX0_isFunction, Cond.code yX0_isFunction cX0_isFunction 2 (some .boolean), Cond.fieldLink RX0 13 "Submodulary" "functions" "I", Cond.methodLink RX0 65 yX0_needIndex, Cond.static yX0_needIndex, Cond.code yX0_needIndex cX0_needIndex 1 none, Cond.classLink RX0 181 "java/lang/IndexOutOfBoundsException", Cond.initialized "java/lang/IndexOutOfBoundsException", Cond.methodLink RX0 53 yX0_isWithin, Cond.static yX0_isWithin]
def wsL_cap_r2 : List Cond := [Cond.code yX0_isWithin cX0_isWithin 3 (some .boolean), Cond.methodLink RX0 57 yX0_needArgument, Cond.static yX0_needArgument, Cond.code yX0_needArgument cX0_needArgument 1 none, Cond.classLink RX0 188 "java/lang/IllegalArgumentException", Cond.initialized "java/lang/IllegalArgumentException", Cond.methodLink RX0 102 yX0_needPlace, Cond.instanceMethod yX0_needPlace, Cond.selects RX0 yX0_needPlace yX0_needPlace, Cond.code yX0_needPlace cX0_needPlace 1 none, Cond.methodLink RX0 140 yX0_needState, Cond.static yX0_needState, Cond.code yX0_needState cX0_needState 1 none, Cond.classLink RX0 193 "java/lang/IllegalStateException", Cond.initialized "java/lang/IllegalStateException", Cond.methodLink RX0 105 yX0_sets, Cond.instanceMethod yX0_sets, Cond.selects RX0 yX0_sets yX0_sets, Cond.code yX0_sets cX0_sets 1 (some .int), Cond.fieldLink RX0 9 "Submodulary" "elements" "I", Cond.methodLink RX0 122 yX0_valueOf, Cond.instanceMethod yX0_valueOf, Cond.selects RX0 yX0_valueOf yX0_valueOf, Cond.code yX0_valueOf cX0_valueOf 3 (some .int)]
def wsL_cap_r3 : List Cond := [Cond.fieldLink RX0 35 "Submodulary" "values" "[I", Cond.methodLink RX0 68 yX0_at, Cond.static yX0_at, Cond.code yX0_at cX0_at 2 (some .int), Cond.methodLink RX0 112 yX0_putNew, Cond.instanceMethod yX0_putNew, Cond.selects RX0 yX0_putNew yX0_putNew, Cond.code yX0_putNew cX0_putNew 3 none, Cond.methodLink RX0 79 yX0_put, Cond.static yX0_put, Cond.code yX0_put cX0_put 3 none, Cond.methodLink RX0 116 yX0_countNew, Cond.instanceMethod yX0_countNew, Cond.selects RX0 yX0_countNew yX0_countNew, Cond.code yX0_countNew cX0_countNew 2 (some .int)]
def wsL_cap : List Cond := .codeWith yL_cap cL_cap 5 (some .int) [(0, 10, 13, 19), (0, 10, 17, 13), (0, 10, 21, 38)] :: ((wsL_cap_r1 ++ (wsL_cap_r2 ++ wsL_cap_r3)) ++ wsX00 ++ (vx_atS RX0 185 "java/lang/IndexOutOfBoundsException" ["java/lang/RuntimeException", "java/lang/Exception"]).filter goodWord ++ (vx_atS RX0 192 "java/lang/IllegalArgumentException" ["java/lang/RuntimeException", "java/lang/Exception"]).filter goodWord ++ (vx_atS RX0 197 "java/lang/IllegalStateException" ["java/lang/RuntimeException", "java/lang/Exception"]).filter goodWord)
def wsL_value_r1 : List Cond := [Cond.classLink RL 19 "java/lang/IndexOutOfBoundsException", Cond.classLink RL 13 "java/lang/IllegalArgumentException", Cond.methodLink RL 49 yX0_value, Cond.instanceMethod yX0_value, Cond.selects RX0 yX0_value yX0_value, Cond.initialized RX0, Cond.code yX0_value cX0_value 3 (some .int), Cond.methodLink RX0 119 yX0_isFunction, Cond.instanceMethod yX0_isFunction, Cond.selects RX0 yX0_isFunction yX0_isFunction, Cond.code yX0_isFunction cX0_isFunction 2 (some .boolean), Cond.fieldLink RX0 13 "Submodulary" "functions" "I", Cond.methodLink RX0 65 yX0_needIndex, Cond.static yX0_needIndex, Cond.code yX0_needIndex cX0_needIndex 1 none, Cond.classLink RX0 181 "java/lang/IndexOutOfBoundsException", Cond.initialized "java/lang/IndexOutOfBoundsException", Cond.methodLink RX0 125 yX0_isSet, Cond.instanceMethod yX0_isSet, Cond.selects RX0 yX0_isSet yX0_isSet, Cond.code yX0_isSet cX0_isSet 2 (some .boolean), Cond.methodLink RX0 105 yX0_sets, Cond.instanceMethod yX0_sets, Cond.selects RX0 yX0_sets yX0_sets]
def wsL_value_r2 : List Cond := [Cond.code yX0_sets cX0_sets 1 (some .int), Cond.fieldLink RX0 9 "Submodulary" "elements" "I", Cond.methodLink RX0 57 yX0_needArgument, Cond.static yX0_needArgument, Cond.code yX0_needArgument cX0_needArgument 1 none, Cond.classLink RX0 188 "java/lang/IllegalArgumentException", Cond.initialized "java/lang/IllegalArgumentException", Cond.methodLink RX0 122 yX0_valueOf, Cond.instanceMethod yX0_valueOf, Cond.selects RX0 yX0_valueOf yX0_valueOf, Cond.code yX0_valueOf cX0_valueOf 3 (some .int), Cond.fieldLink RX0 35 "Submodulary" "values" "[I", Cond.methodLink RX0 68 yX0_at, Cond.static yX0_at, Cond.code yX0_at cX0_at 2 (some .int)]
def wsL_value : List Cond := .codeWith yL_value cL_value 5 (some .int) [(0, 10, 13, 19), (0, 10, 17, 13)] :: ((wsL_value_r1 ++ wsL_value_r2) ++ wsX00 ++ (vx_atS RX0 185 "java/lang/IndexOutOfBoundsException" ["java/lang/RuntimeException", "java/lang/Exception"]).filter goodWord ++ (vx_atS RX0 192 "java/lang/IllegalArgumentException" ["java/lang/RuntimeException", "java/lang/Exception"]).filter goodWord)
def wsL_isLawful_r1 : List Cond := [Cond.classLink RL 19 "java/lang/IndexOutOfBoundsException", Cond.methodLink RL 52 yX0_isLawful, Cond.instanceMethod yX0_isLawful, Cond.selects RX0 yX0_isLawful yX0_isLawful, Cond.initialized RX0, Cond.code yX0_isLawful cX0_isLawful 2 (some .boolean), Cond.methodLink RX0 119 yX0_isFunction, Cond.instanceMethod yX0_isFunction, Cond.selects RX0 yX0_isFunction yX0_isFunction, Cond.code yX0_isFunction cX0_isFunction 2 (some .boolean), Cond.fieldLink RX0 13 "Submodulary" "functions" "I", Cond.methodLink RX0 65 yX0_needIndex, Cond.static yX0_needIndex, Cond.code yX0_needIndex cX0_needIndex 1 none, Cond.classLink RX0 181 "java/lang/IndexOutOfBoundsException", Cond.initialized "java/lang/IndexOutOfBoundsException", Cond.methodLink RX0 133 yX0_hasLaw, Cond.instanceMethod yX0_hasLaw, Cond.selects RX0 yX0_hasLaw yX0_hasLaw, Cond.code yX0_hasLaw cX0_hasLaw 3 (some .boolean), Cond.methodLink RX0 105 yX0_sets, Cond.instanceMethod yX0_sets, Cond.selects RX0 yX0_sets yX0_sets, Cond.code yX0_sets cX0_sets 1 (some .int)]
def wsL_isLawful_r2 : List Cond := [Cond.fieldLink RX0 9 "Submodulary" "elements" "I", Cond.methodLink RX0 213 yX0_hasLawAbove, Cond.instanceMethod yX0_hasLawAbove, Cond.selects RX0 yX0_hasLawAbove yX0_hasLawAbove, Cond.code yX0_hasLawAbove cX0_hasLawAbove 6 (some .boolean), Cond.methodLink RX0 83 yX0_has, Cond.static yX0_has, Cond.code yX0_has cX0_has 2 (some .boolean), Cond.methodLink RX0 136 yX0_gain, Cond.instanceMethod yX0_gain, Cond.selects RX0 yX0_gain yX0_gain, Cond.code yX0_gain cX0_gain 4 (some .int), Cond.methodLink RX0 72 yX0_with, Cond.static yX0_with, Cond.code yX0_with cX0_with 2 (some .int), Cond.methodLink RX0 122 yX0_valueOf, Cond.instanceMethod yX0_valueOf, Cond.selects RX0 yX0_valueOf yX0_valueOf, Cond.code yX0_valueOf cX0_valueOf 3 (some .int), Cond.fieldLink RX0 35 "Submodulary" "values" "[I", Cond.methodLink RX0 68 yX0_at, Cond.static yX0_at, Cond.code yX0_at cX0_at 2 (some .int)]
def wsL_isLawful : List Cond := .codeWith yL_isLawful cL_isLawful 4 (some .int) [(0, 16, 19, 19)] :: ((wsL_isLawful_r1 ++ wsL_isLawful_r2) ++ wsX00 ++ (vx_atS RX0 185 "java/lang/IndexOutOfBoundsException" ["java/lang/RuntimeException", "java/lang/Exception"]).filter goodWord)
def wsL_rises_r1 : List Cond := [Cond.classLink RL 19 "java/lang/IndexOutOfBoundsException", Cond.methodLink RL 56 yX0_rises, Cond.instanceMethod yX0_rises, Cond.selects RX0 yX0_rises yX0_rises, Cond.initialized RX0, Cond.code yX0_rises cX0_rises 4 (some .boolean), Cond.fieldLink RX0 9 "Submodulary" "elements" "I", Cond.methodLink RX0 119 yX0_isFunction, Cond.instanceMethod yX0_isFunction, Cond.selects RX0 yX0_isFunction yX0_isFunction, Cond.code yX0_isFunction cX0_isFunction 2 (some .boolean), Cond.fieldLink RX0 13 "Submodulary" "functions" "I", Cond.methodLink RX0 65 yX0_needIndex, Cond.static yX0_needIndex, Cond.code yX0_needIndex cX0_needIndex 1 none, Cond.classLink RX0 181 "java/lang/IndexOutOfBoundsException", Cond.initialized "java/lang/IndexOutOfBoundsException", Cond.methodLink RX0 105 yX0_sets, Cond.instanceMethod yX0_sets, Cond.selects RX0 yX0_sets yX0_sets, Cond.code yX0_sets cX0_sets 1 (some .int), Cond.methodLink RX0 136 yX0_gain, Cond.instanceMethod yX0_gain, Cond.selects RX0 yX0_gain yX0_gain]
def wsL_rises_r2 : List Cond := [Cond.code yX0_gain cX0_gain 4 (some .int), Cond.methodLink RX0 72 yX0_with, Cond.static yX0_with, Cond.code yX0_with cX0_with 2 (some .int), Cond.methodLink RX0 122 yX0_valueOf, Cond.instanceMethod yX0_valueOf, Cond.selects RX0 yX0_valueOf yX0_valueOf, Cond.code yX0_valueOf cX0_valueOf 3 (some .int), Cond.fieldLink RX0 35 "Submodulary" "values" "[I", Cond.methodLink RX0 68 yX0_at, Cond.static yX0_at, Cond.code yX0_at cX0_at 2 (some .int)]
def wsL_rises : List Cond := .codeWith yL_rises cL_rises 4 (some .int) [(0, 16, 19, 19)] :: ((wsL_rises_r1 ++ wsL_rises_r2) ++ wsX00 ++ (vx_atS RX0 185 "java/lang/IndexOutOfBoundsException" ["java/lang/RuntimeException", "java/lang/Exception"]).filter goodWord)
def wsL_least_r1 : List Cond := [Cond.classLink RL 19 "java/lang/IndexOutOfBoundsException", Cond.classLink RL 38 "java/lang/IllegalStateException", Cond.methodLink RL 59 yX0_least, Cond.instanceMethod yX0_least, Cond.selects RX0 yX0_least yX0_least, Cond.initialized RX0, Cond.code yX0_least cX0_least 2 (some .int), Cond.methodLink RX0 119 yX0_isFunction, Cond.instanceMethod yX0_isFunction, Cond.selects RX0 yX0_isFunction yX0_isFunction, Cond.code yX0_isFunction cX0_isFunction 2 (some .boolean), Cond.fieldLink RX0 13 "Submodulary" "functions" "I", Cond.methodLink RX0 65 yX0_needIndex, Cond.static yX0_needIndex, Cond.code yX0_needIndex cX0_needIndex 1 none, Cond.classLink RX0 181 "java/lang/IndexOutOfBoundsException", Cond.initialized "java/lang/IndexOutOfBoundsException", Cond.methodLink RX0 133 yX0_hasLaw, Cond.instanceMethod yX0_hasLaw, Cond.selects RX0 yX0_hasLaw yX0_hasLaw, Cond.code yX0_hasLaw cX0_hasLaw 3 (some .boolean), Cond.methodLink RX0 105 yX0_sets, Cond.instanceMethod yX0_sets, Cond.selects RX0 yX0_sets yX0_sets]
def wsL_least_r2 : List Cond := [Cond.code yX0_sets cX0_sets 1 (some .int), Cond.fieldLink RX0 9 "Submodulary" "elements" "I", Cond.methodLink RX0 213 yX0_hasLawAbove, Cond.instanceMethod yX0_hasLawAbove, Cond.selects RX0 yX0_hasLawAbove yX0_hasLawAbove, Cond.code yX0_hasLawAbove cX0_hasLawAbove 6 (some .boolean), Cond.methodLink RX0 83 yX0_has, Cond.static yX0_has, Cond.code yX0_has cX0_has 2 (some .boolean), Cond.methodLink RX0 136 yX0_gain, Cond.instanceMethod yX0_gain, Cond.selects RX0 yX0_gain yX0_gain, Cond.code yX0_gain cX0_gain 4 (some .int), Cond.methodLink RX0 72 yX0_with, Cond.static yX0_with, Cond.code yX0_with cX0_with 2 (some .int), Cond.methodLink RX0 122 yX0_valueOf, Cond.instanceMethod yX0_valueOf, Cond.selects RX0 yX0_valueOf yX0_valueOf, Cond.code yX0_valueOf cX0_valueOf 3 (some .int), Cond.fieldLink RX0 35 "Submodulary" "values" "[I", Cond.methodLink RX0 68 yX0_at, Cond.static yX0_at, Cond.code yX0_at cX0_at 2 (some .int)]
def wsL_least_r3 : List Cond := [Cond.methodLink RX0 140 yX0_needState, Cond.static yX0_needState, Cond.code yX0_needState cX0_needState 1 none, Cond.classLink RX0 193 "java/lang/IllegalStateException", Cond.initialized "java/lang/IllegalStateException", Cond.methodLink RX0 143 yX0_leastBetween, Cond.instanceMethod yX0_leastBetween, Cond.selects RX0 yX0_leastBetween yX0_leastBetween, Cond.code yX0_leastBetween cX0_leastBetween 12 (some .int), Cond.methodLink RX0 216 yX0_takenIn, Cond.instanceMethod yX0_takenIn, Cond.selects RX0 yX0_takenIn yX0_takenIn, Cond.code yX0_takenIn cX0_takenIn 8 (some .int), Cond.methodLink RX0 220 yX0_takenOut, Cond.instanceMethod yX0_takenOut, Cond.selects RX0 yX0_takenOut yX0_takenOut, Cond.code yX0_takenOut cX0_takenOut 8 (some .int), Cond.methodLink RX0 76 yX0_without, Cond.static yX0_without, Cond.code yX0_without cX0_without 2 (some .int), Cond.methodLink RX0 223 yX0_lowest, Cond.instanceMethod yX0_lowest, Cond.selects RX0 yX0_lowest yX0_lowest, Cond.code yX0_lowest cX0_lowest 3 (some .int)]
def wsL_least : List Cond := .codeWith yL_least cL_least 4 (some .int) [(0, 9, 12, 19), (0, 9, 15, 38)] :: ((wsL_least_r1 ++ (wsL_least_r2 ++ wsL_least_r3)) ++ wsX00 ++ (vx_atS RX0 185 "java/lang/IndexOutOfBoundsException" ["java/lang/RuntimeException", "java/lang/Exception"]).filter goodWord ++ (vx_atS RX0 197 "java/lang/IllegalStateException" ["java/lang/RuntimeException", "java/lang/Exception"]).filter goodWord)
def wsL_leastSet_r1 : List Cond := [Cond.classLink RL 19 "java/lang/IndexOutOfBoundsException", Cond.classLink RL 38 "java/lang/IllegalStateException", Cond.methodLink RL 62 yX0_leastSet, Cond.instanceMethod yX0_leastSet, Cond.selects RX0 yX0_leastSet yX0_leastSet, Cond.initialized RX0, Cond.code yX0_leastSet cX0_leastSet 3 (some .int), Cond.methodLink RX0 119 yX0_isFunction, Cond.instanceMethod yX0_isFunction, Cond.selects RX0 yX0_isFunction yX0_isFunction, Cond.code yX0_isFunction cX0_isFunction 2 (some .boolean), Cond.fieldLink RX0 13 "Submodulary" "functions" "I", Cond.methodLink RX0 65 yX0_needIndex, Cond.static yX0_needIndex, Cond.code yX0_needIndex cX0_needIndex 1 none, Cond.classLink RX0 181 "java/lang/IndexOutOfBoundsException", Cond.initialized "java/lang/IndexOutOfBoundsException", Cond.methodLink RX0 133 yX0_hasLaw, Cond.instanceMethod yX0_hasLaw, Cond.selects RX0 yX0_hasLaw yX0_hasLaw, Cond.code yX0_hasLaw cX0_hasLaw 3 (some .boolean), Cond.methodLink RX0 105 yX0_sets, Cond.instanceMethod yX0_sets, Cond.selects RX0 yX0_sets yX0_sets]
def wsL_leastSet_r2 : List Cond := [Cond.code yX0_sets cX0_sets 1 (some .int), Cond.fieldLink RX0 9 "Submodulary" "elements" "I", Cond.methodLink RX0 213 yX0_hasLawAbove, Cond.instanceMethod yX0_hasLawAbove, Cond.selects RX0 yX0_hasLawAbove yX0_hasLawAbove, Cond.code yX0_hasLawAbove cX0_hasLawAbove 6 (some .boolean), Cond.methodLink RX0 83 yX0_has, Cond.static yX0_has, Cond.code yX0_has cX0_has 2 (some .boolean), Cond.methodLink RX0 136 yX0_gain, Cond.instanceMethod yX0_gain, Cond.selects RX0 yX0_gain yX0_gain, Cond.code yX0_gain cX0_gain 4 (some .int), Cond.methodLink RX0 72 yX0_with, Cond.static yX0_with, Cond.code yX0_with cX0_with 2 (some .int), Cond.methodLink RX0 122 yX0_valueOf, Cond.instanceMethod yX0_valueOf, Cond.selects RX0 yX0_valueOf yX0_valueOf, Cond.code yX0_valueOf cX0_valueOf 3 (some .int), Cond.fieldLink RX0 35 "Submodulary" "values" "[I", Cond.methodLink RX0 68 yX0_at, Cond.static yX0_at, Cond.code yX0_at cX0_at 2 (some .int)]
def wsL_leastSet_r3 : List Cond := [Cond.methodLink RX0 140 yX0_needState, Cond.static yX0_needState, Cond.code yX0_needState cX0_needState 1 none, Cond.classLink RX0 193 "java/lang/IllegalStateException", Cond.initialized "java/lang/IllegalStateException", Cond.methodLink RX0 143 yX0_leastBetween, Cond.instanceMethod yX0_leastBetween, Cond.selects RX0 yX0_leastBetween yX0_leastBetween, Cond.code yX0_leastBetween cX0_leastBetween 12 (some .int), Cond.methodLink RX0 216 yX0_takenIn, Cond.instanceMethod yX0_takenIn, Cond.selects RX0 yX0_takenIn yX0_takenIn, Cond.code yX0_takenIn cX0_takenIn 8 (some .int), Cond.methodLink RX0 220 yX0_takenOut, Cond.instanceMethod yX0_takenOut, Cond.selects RX0 yX0_takenOut yX0_takenOut, Cond.code yX0_takenOut cX0_takenOut 8 (some .int), Cond.methodLink RX0 76 yX0_without, Cond.static yX0_without, Cond.code yX0_without cX0_without 2 (some .int), Cond.methodLink RX0 223 yX0_lowest, Cond.instanceMethod yX0_lowest, Cond.selects RX0 yX0_lowest yX0_lowest, Cond.code yX0_lowest cX0_lowest 3 (some .int)]
def wsL_leastSet : List Cond := .codeWith yL_leastSet cL_leastSet 5 (some .int) [(0, 10, 13, 19), (0, 10, 17, 38)] :: ((wsL_leastSet_r1 ++ (wsL_leastSet_r2 ++ wsL_leastSet_r3)) ++ wsX00 ++ (vx_atS RX0 185 "java/lang/IndexOutOfBoundsException" ["java/lang/RuntimeException", "java/lang/Exception"]).filter goodWord ++ (vx_atS RX0 197 "java/lang/IllegalStateException" ["java/lang/RuntimeException", "java/lang/Exception"]).filter goodWord)
def wsL_leastSetAnew_r1 : List Cond := [Cond.classLink RL 19 "java/lang/IndexOutOfBoundsException", Cond.classLink RL 38 "java/lang/IllegalStateException", Cond.methodLink RL 66 yX0_leastSetAnew, Cond.instanceMethod yX0_leastSetAnew, Cond.selects RX0 yX0_leastSetAnew yX0_leastSetAnew, Cond.initialized RX0, Cond.code yX0_leastSetAnew cX0_leastSetAnew 7 (some .int), Cond.methodLink RX0 128 Lib.Math.min.name, Cond.static Lib.Math.min.name, Cond.initialized "java/lang/Math", Cond.code Lib.Math.min.name Lib.Math.min.code 2 (some .int), Cond.methodLink RX0 119 yX0_isFunction, Cond.instanceMethod yX0_isFunction, Cond.selects RX0 yX0_isFunction yX0_isFunction, Cond.code yX0_isFunction cX0_isFunction 2 (some .boolean), Cond.fieldLink RX0 13 "Submodulary" "functions" "I", Cond.methodLink RX0 65 yX0_needIndex, Cond.static yX0_needIndex, Cond.code yX0_needIndex cX0_needIndex 1 none, Cond.classLink RX0 181 "java/lang/IndexOutOfBoundsException", Cond.initialized "java/lang/IndexOutOfBoundsException", Cond.methodLink RX0 133 yX0_hasLaw, Cond.instanceMethod yX0_hasLaw, Cond.selects RX0 yX0_hasLaw yX0_hasLaw]
def wsL_leastSetAnew_r2 : List Cond := [Cond.code yX0_hasLaw cX0_hasLaw 3 (some .boolean), Cond.methodLink RX0 105 yX0_sets, Cond.instanceMethod yX0_sets, Cond.selects RX0 yX0_sets yX0_sets, Cond.code yX0_sets cX0_sets 1 (some .int), Cond.fieldLink RX0 9 "Submodulary" "elements" "I", Cond.methodLink RX0 213 yX0_hasLawAbove, Cond.instanceMethod yX0_hasLawAbove, Cond.selects RX0 yX0_hasLawAbove yX0_hasLawAbove, Cond.code yX0_hasLawAbove cX0_hasLawAbove 6 (some .boolean), Cond.methodLink RX0 83 yX0_has, Cond.static yX0_has, Cond.code yX0_has cX0_has 2 (some .boolean), Cond.methodLink RX0 136 yX0_gain, Cond.instanceMethod yX0_gain, Cond.selects RX0 yX0_gain yX0_gain, Cond.code yX0_gain cX0_gain 4 (some .int), Cond.methodLink RX0 72 yX0_with, Cond.static yX0_with, Cond.code yX0_with cX0_with 2 (some .int), Cond.methodLink RX0 122 yX0_valueOf, Cond.instanceMethod yX0_valueOf, Cond.selects RX0 yX0_valueOf yX0_valueOf, Cond.code yX0_valueOf cX0_valueOf 3 (some .int)]
def wsL_leastSetAnew_r3 : List Cond := [Cond.fieldLink RX0 35 "Submodulary" "values" "[I", Cond.methodLink RX0 68 yX0_at, Cond.static yX0_at, Cond.code yX0_at cX0_at 2 (some .int), Cond.methodLink RX0 140 yX0_needState, Cond.static yX0_needState, Cond.code yX0_needState cX0_needState 1 none, Cond.classLink RX0 193 "java/lang/IllegalStateException", Cond.initialized "java/lang/IllegalStateException"]
def wsL_leastSetAnew : List Cond := .codeWith yL_leastSetAnew cL_leastSetAnew 5 (some .int) [(0, 10, 13, 19), (0, 10, 17, 38)] :: ((wsL_leastSetAnew_r1 ++ (wsL_leastSetAnew_r2 ++ wsL_leastSetAnew_r3)) ++ wsX00 ++ (vx_atS RX0 185 "java/lang/IndexOutOfBoundsException" ["java/lang/RuntimeException", "java/lang/Exception"]).filter goodWord ++ (vx_atS RX0 197 "java/lang/IllegalStateException" ["java/lang/RuntimeException", "java/lang/Exception"]).filter goodWord)
def wsL_order_r1 : List Cond := [Cond.classLink RL 19 "java/lang/IndexOutOfBoundsException", Cond.classLink RL 38 "java/lang/IllegalStateException", Cond.methodLink RL 69 yX0_order, Cond.instanceMethod yX0_order, Cond.selects RX0 yX0_order yX0_order, Cond.initialized RX0, Cond.code yX0_order cX0_order 3 (some .int), Cond.fieldLink RX0 16 "Submodulary" "told" "I", Cond.fieldLink RX0 9 "Submodulary" "elements" "I", Cond.fieldLink RX0 38 "Submodulary" "ordered" "[I", Cond.methodLink RX0 61 yX0_isElement, Cond.instanceMethod yX0_isElement, Cond.selects RX0 yX0_isElement yX0_isElement, Cond.code yX0_isElement cX0_isElement 2 (some .boolean), Cond.methodLink RX0 65 yX0_needIndex, Cond.static yX0_needIndex, Cond.code yX0_needIndex cX0_needIndex 1 none, Cond.classLink RX0 181 "java/lang/IndexOutOfBoundsException", Cond.initialized "java/lang/IndexOutOfBoundsException", Cond.methodLink RX0 147 yX0_isTold, Cond.instanceMethod yX0_isTold, Cond.selects RX0 yX0_isTold yX0_isTold, Cond.code yX0_isTold cX0_isTold 3 (some .boolean), Cond.methodLink RX0 68 yX0_at]
def wsL_order_r2 : List Cond := [Cond.static yX0_at, Cond.code yX0_at cX0_at 2 (some .int), Cond.methodLink RX0 140 yX0_needState, Cond.static yX0_needState, Cond.code yX0_needState cX0_needState 1 none, Cond.classLink RX0 193 "java/lang/IllegalStateException", Cond.initialized "java/lang/IllegalStateException", Cond.methodLink RX0 79 yX0_put, Cond.static yX0_put, Cond.code yX0_put cX0_put 3 none]
def wsL_order : List Cond := .codeWith yL_order cL_order 4 (some .int) [(0, 9, 12, 19), (0, 9, 15, 38)] :: ((wsL_order_r1 ++ wsL_order_r2) ++ wsX00 ++ (vx_atS RX0 185 "java/lang/IndexOutOfBoundsException" ["java/lang/RuntimeException", "java/lang/Exception"]).filter goodWord ++ (vx_atS RX0 197 "java/lang/IllegalStateException" ["java/lang/RuntimeException", "java/lang/Exception"]).filter goodWord)
def wsL_corner_r1 : List Cond := [Cond.classLink RL 19 "java/lang/IndexOutOfBoundsException", Cond.classLink RL 38 "java/lang/IllegalStateException", Cond.methodLink RL 72 yX0_corner, Cond.instanceMethod yX0_corner, Cond.selects RX0 yX0_corner yX0_corner, Cond.initialized RX0, Cond.code yX0_corner cX0_corner 3 (some .int), Cond.methodLink RX0 119 yX0_isFunction, Cond.instanceMethod yX0_isFunction, Cond.selects RX0 yX0_isFunction yX0_isFunction, Cond.code yX0_isFunction cX0_isFunction 2 (some .boolean), Cond.fieldLink RX0 13 "Submodulary" "functions" "I", Cond.methodLink RX0 61 yX0_isElement, Cond.instanceMethod yX0_isElement, Cond.selects RX0 yX0_isElement yX0_isElement, Cond.code yX0_isElement cX0_isElement 2 (some .boolean), Cond.fieldLink RX0 9 "Submodulary" "elements" "I", Cond.methodLink RX0 65 yX0_needIndex, Cond.static yX0_needIndex, Cond.code yX0_needIndex cX0_needIndex 1 none, Cond.classLink RX0 181 "java/lang/IndexOutOfBoundsException", Cond.initialized "java/lang/IndexOutOfBoundsException", Cond.methodLink RX0 147 yX0_isTold, Cond.instanceMethod yX0_isTold]
def wsL_corner_r2 : List Cond := [Cond.selects RX0 yX0_isTold yX0_isTold, Cond.code yX0_isTold cX0_isTold 3 (some .boolean), Cond.fieldLink RX0 16 "Submodulary" "told" "I", Cond.fieldLink RX0 38 "Submodulary" "ordered" "[I", Cond.methodLink RX0 68 yX0_at, Cond.static yX0_at, Cond.code yX0_at cX0_at 2 (some .int), Cond.methodLink RX0 140 yX0_needState, Cond.static yX0_needState, Cond.code yX0_needState cX0_needState 1 none, Cond.classLink RX0 193 "java/lang/IllegalStateException", Cond.initialized "java/lang/IllegalStateException", Cond.methodLink RX0 150 yX0_aheadOf, Cond.instanceMethod yX0_aheadOf, Cond.selects RX0 yX0_aheadOf yX0_aheadOf, Cond.code yX0_aheadOf cX0_aheadOf 5 (some .int), Cond.methodLink RX0 72 yX0_with, Cond.static yX0_with, Cond.code yX0_with cX0_with 2 (some .int), Cond.methodLink RX0 136 yX0_gain, Cond.instanceMethod yX0_gain, Cond.selects RX0 yX0_gain yX0_gain, Cond.code yX0_gain cX0_gain 4 (some .int), Cond.methodLink RX0 122 yX0_valueOf]
def wsL_corner_r3 : List Cond := [Cond.instanceMethod yX0_valueOf, Cond.selects RX0 yX0_valueOf yX0_valueOf, Cond.code yX0_valueOf cX0_valueOf 3 (some .int), Cond.fieldLink RX0 35 "Submodulary" "values" "[I"]
def wsL_corner : List Cond := .codeWith yL_corner cL_corner 5 (some .int) [(0, 10, 13, 19), (0, 10, 17, 38)] :: ((wsL_corner_r1 ++ (wsL_corner_r2 ++ wsL_corner_r3)) ++ wsX00 ++ (vx_atS RX0 185 "java/lang/IndexOutOfBoundsException" ["java/lang/RuntimeException", "java/lang/Exception"]).filter goodWord ++ (vx_atS RX0 197 "java/lang/IllegalStateException" ["java/lang/RuntimeException", "java/lang/Exception"]).filter goodWord)
def wsL_greedy_r1 : List Cond := [Cond.classLink RL 19 "java/lang/IndexOutOfBoundsException", Cond.classLink RL 13 "java/lang/IllegalArgumentException", Cond.methodLink RL 75 yX0_greedy, Cond.instanceMethod yX0_greedy, Cond.selects RX0 yX0_greedy yX0_greedy, Cond.initialized RX0, Cond.code yX0_greedy cX0_greedy 6 (some .int), Cond.methodLink RX0 119 yX0_isFunction, Cond.instanceMethod yX0_isFunction, Cond.selects RX0 yX0_isFunction yX0_isFunction, Cond.code yX0_isFunction cX0_isFunction 2 (some .boolean), Cond.fieldLink RX0 13 "Submodulary" "functions" "I", Cond.methodLink RX0 65 yX0_needIndex, Cond.static yX0_needIndex, Cond.code yX0_needIndex cX0_needIndex 1 none, Cond.classLink RX0 181 "java/lang/IndexOutOfBoundsException", Cond.initialized "java/lang/IndexOutOfBoundsException", Cond.methodLink RX0 53 yX0_isWithin, Cond.static yX0_isWithin, Cond.code yX0_isWithin cX0_isWithin 3 (some .boolean), Cond.methodLink RX0 57 yX0_needArgument, Cond.static yX0_needArgument, Cond.code yX0_needArgument cX0_needArgument 1 none, Cond.classLink RX0 188 "java/lang/IllegalArgumentException"]
def wsL_greedy_r2 : List Cond := [Cond.initialized "java/lang/IllegalArgumentException", Cond.methodLink RX0 154 yX0_greediest, Cond.instanceMethod yX0_greediest, Cond.selects RX0 yX0_greediest yX0_greediest, Cond.code yX0_greediest cX0_greediest 7 (some .int), Cond.fieldLink RX0 9 "Submodulary" "elements" "I", Cond.methodLink RX0 136 yX0_gain, Cond.instanceMethod yX0_gain, Cond.selects RX0 yX0_gain yX0_gain, Cond.code yX0_gain cX0_gain 4 (some .int), Cond.methodLink RX0 72 yX0_with, Cond.static yX0_with, Cond.code yX0_with cX0_with 2 (some .int), Cond.methodLink RX0 122 yX0_valueOf, Cond.instanceMethod yX0_valueOf, Cond.selects RX0 yX0_valueOf yX0_valueOf, Cond.code yX0_valueOf cX0_valueOf 3 (some .int), Cond.fieldLink RX0 35 "Submodulary" "values" "[I", Cond.methodLink RX0 68 yX0_at, Cond.static yX0_at, Cond.code yX0_at cX0_at 2 (some .int)]
def wsL_greedy : List Cond := .codeWith yL_greedy cL_greedy 5 (some .int) [(0, 10, 13, 19), (0, 10, 17, 13)] :: ((wsL_greedy_r1 ++ wsL_greedy_r2) ++ wsX00 ++ (vx_atS RX0 185 "java/lang/IndexOutOfBoundsException" ["java/lang/RuntimeException", "java/lang/Exception"]).filter goodWord ++ (vx_atS RX0 192 "java/lang/IllegalArgumentException" ["java/lang/RuntimeException", "java/lang/Exception"]).filter goodWord)
def wsL_best_r1 : List Cond := [Cond.classLink RL 19 "java/lang/IndexOutOfBoundsException", Cond.classLink RL 13 "java/lang/IllegalArgumentException", Cond.methodLink RL 78 yX0_best, Cond.instanceMethod yX0_best, Cond.selects RX0 yX0_best yX0_best, Cond.initialized RX0, Cond.code yX0_best cX0_best 5 (some .int), Cond.methodLink RX0 162 Lib.Math.max.name, Cond.static Lib.Math.max.name, Cond.initialized "java/lang/Math", Cond.code Lib.Math.max.name Lib.Math.max.code 2 (some .int), Cond.methodLink RX0 119 yX0_isFunction, Cond.instanceMethod yX0_isFunction, Cond.selects RX0 yX0_isFunction yX0_isFunction, Cond.code yX0_isFunction cX0_isFunction 2 (some .boolean), Cond.fieldLink RX0 13 "Submodulary" "functions" "I", Cond.methodLink RX0 65 yX0_needIndex, Cond.static yX0_needIndex, Cond.code yX0_needIndex cX0_needIndex 1 none, Cond.classLink RX0 181 "java/lang/IndexOutOfBoundsException", Cond.initialized "java/lang/IndexOutOfBoundsException", Cond.methodLink RX0 53 yX0_isWithin, Cond.static yX0_isWithin, Cond.code yX0_isWithin cX0_isWithin 3 (some .boolean)]
def wsL_best_r2 : List Cond := [Cond.methodLink RX0 57 yX0_needArgument, Cond.static yX0_needArgument, Cond.code yX0_needArgument cX0_needArgument 1 none, Cond.classLink RX0 188 "java/lang/IllegalArgumentException", Cond.initialized "java/lang/IllegalArgumentException", Cond.methodLink RX0 105 yX0_sets, Cond.instanceMethod yX0_sets, Cond.selects RX0 yX0_sets yX0_sets, Cond.code yX0_sets cX0_sets 1 (some .int), Cond.fieldLink RX0 9 "Submodulary" "elements" "I", Cond.methodLink RX0 157 yJ6_bitCount_0f7a4, Cond.static yJ6_bitCount_0f7a4, Cond.initialized RJ6, Cond.code yJ6_bitCount_0f7a4 cJ6_bitCount_0f7a4 1 (some .int), Cond.constant RJ6 265 (1431655765), Cond.constant RJ6 266 (858993459), Cond.constant RJ6 267 (252645135), Cond.methodLink RX0 122 yX0_valueOf, Cond.instanceMethod yX0_valueOf, Cond.selects RX0 yX0_valueOf yX0_valueOf, Cond.code yX0_valueOf cX0_valueOf 3 (some .int), Cond.fieldLink RX0 35 "Submodulary" "values" "[I", Cond.methodLink RX0 68 yX0_at, Cond.static yX0_at]
def wsL_best_r3 : List Cond := [Cond.code yX0_at cX0_at 2 (some .int)]
def wsL_best : List Cond := .codeWith yL_best cL_best 5 (some .int) [(0, 10, 13, 19), (0, 10, 17, 13)] :: ((wsL_best_r1 ++ (wsL_best_r2 ++ wsL_best_r3)) ++ wsX00 ++ (vx_atS RX0 185 "java/lang/IndexOutOfBoundsException" ["java/lang/RuntimeException", "java/lang/Exception"]).filter goodWord ++ (vx_atS RX0 192 "java/lang/IllegalArgumentException" ["java/lang/RuntimeException", "java/lang/Exception"]).filter goodWord)
def wsL_share_r1 : List Cond := [Cond.classLink RL 19 "java/lang/IndexOutOfBoundsException", Cond.methodLink RL 81 yX0_share, Cond.instanceMethod yX0_share, Cond.selects RX0 yX0_share yX0_share, Cond.initialized RX0, Cond.code yX0_share cX0_share 7 (some .int), Cond.fieldLink RX0 9 "Submodulary" "elements" "I", Cond.methodLink RX0 119 yX0_isFunction, Cond.instanceMethod yX0_isFunction, Cond.selects RX0 yX0_isFunction yX0_isFunction, Cond.code yX0_isFunction cX0_isFunction 2 (some .boolean), Cond.fieldLink RX0 13 "Submodulary" "functions" "I", Cond.methodLink RX0 61 yX0_isElement, Cond.instanceMethod yX0_isElement, Cond.selects RX0 yX0_isElement yX0_isElement, Cond.code yX0_isElement cX0_isElement 2 (some .boolean), Cond.methodLink RX0 65 yX0_needIndex, Cond.static yX0_needIndex, Cond.code yX0_needIndex cX0_needIndex 1 none, Cond.classLink RX0 181 "java/lang/IndexOutOfBoundsException", Cond.initialized "java/lang/IndexOutOfBoundsException", Cond.methodLink RX0 105 yX0_sets, Cond.instanceMethod yX0_sets, Cond.selects RX0 yX0_sets yX0_sets]
def wsL_share_r2 : List Cond := [Cond.code yX0_sets cX0_sets 1 (some .int), Cond.methodLink RX0 83 yX0_has, Cond.static yX0_has, Cond.code yX0_has cX0_has 2 (some .boolean), Cond.methodLink RX0 157 yJ6_bitCount_0f7a4, Cond.static yJ6_bitCount_0f7a4, Cond.initialized RJ6, Cond.code yJ6_bitCount_0f7a4 cJ6_bitCount_0f7a4 1 (some .int), Cond.constant RJ6 265 (1431655765), Cond.constant RJ6 266 (858993459), Cond.constant RJ6 267 (252645135), Cond.methodLink RX0 174 yX0_ordersOf, Cond.static yX0_ordersOf, Cond.code yX0_ordersOf cX0_ordersOf 3 (some .int), Cond.methodLink RX0 136 yX0_gain, Cond.instanceMethod yX0_gain, Cond.selects RX0 yX0_gain yX0_gain, Cond.code yX0_gain cX0_gain 4 (some .int), Cond.methodLink RX0 72 yX0_with, Cond.static yX0_with, Cond.code yX0_with cX0_with 2 (some .int), Cond.methodLink RX0 122 yX0_valueOf, Cond.instanceMethod yX0_valueOf, Cond.selects RX0 yX0_valueOf yX0_valueOf]
def wsL_share_r3 : List Cond := [Cond.code yX0_valueOf cX0_valueOf 3 (some .int), Cond.fieldLink RX0 35 "Submodulary" "values" "[I", Cond.methodLink RX0 68 yX0_at, Cond.static yX0_at, Cond.code yX0_at cX0_at 2 (some .int)]
def wsL_share : List Cond := .codeWith yL_share cL_share 5 (some .int) [(0, 10, 13, 19)] :: ((wsL_share_r1 ++ (wsL_share_r2 ++ wsL_share_r3)) ++ wsX00 ++ (vx_atS RX0 185 "java/lang/IndexOutOfBoundsException" ["java/lang/RuntimeException", "java/lang/Exception"]).filter goodWord)
def wsL_shareAnew_r1 : List Cond := [Cond.classLink RL 19 "java/lang/IndexOutOfBoundsException", Cond.methodLink RL 84 yX0_shareAnew, Cond.instanceMethod yX0_shareAnew, Cond.selects RX0 yX0_shareAnew yX0_shareAnew, Cond.initialized RX0, Cond.code yX0_shareAnew cX0_shareAnew 3 (some .int), Cond.methodLink RX0 119 yX0_isFunction, Cond.instanceMethod yX0_isFunction, Cond.selects RX0 yX0_isFunction yX0_isFunction, Cond.code yX0_isFunction cX0_isFunction 2 (some .boolean), Cond.fieldLink RX0 13 "Submodulary" "functions" "I", Cond.methodLink RX0 61 yX0_isElement, Cond.instanceMethod yX0_isElement, Cond.selects RX0 yX0_isElement yX0_isElement, Cond.code yX0_isElement cX0_isElement 2 (some .boolean), Cond.fieldLink RX0 9 "Submodulary" "elements" "I", Cond.methodLink RX0 65 yX0_needIndex, Cond.static yX0_needIndex, Cond.code yX0_needIndex cX0_needIndex 1 none, Cond.classLink RX0 181 "java/lang/IndexOutOfBoundsException", Cond.initialized "java/lang/IndexOutOfBoundsException", Cond.methodLink RX0 177 yX0_gainsOverOrders, Cond.instanceMethod yX0_gainsOverOrders, Cond.selects RX0 yX0_gainsOverOrders yX0_gainsOverOrders]
def wsL_shareAnew_r2 : List Cond := [Cond.code yX0_gainsOverOrders cX0_gainsOverOrders 9 (some .int), Cond.methodLink RX0 83 yX0_has, Cond.static yX0_has, Cond.code yX0_has cX0_has 2 (some .boolean), Cond.methodLink RX0 136 yX0_gain, Cond.instanceMethod yX0_gain, Cond.selects RX0 yX0_gain yX0_gain, Cond.code yX0_gain cX0_gain 4 (some .int), Cond.methodLink RX0 72 yX0_with, Cond.static yX0_with, Cond.code yX0_with cX0_with 2 (some .int), Cond.methodLink RX0 122 yX0_valueOf, Cond.instanceMethod yX0_valueOf, Cond.selects RX0 yX0_valueOf yX0_valueOf, Cond.code yX0_valueOf cX0_valueOf 3 (some .int), Cond.fieldLink RX0 35 "Submodulary" "values" "[I", Cond.methodLink RX0 68 yX0_at, Cond.static yX0_at, Cond.code yX0_at cX0_at 2 (some .int)]
def wsL_shareAnew : List Cond := .codeWith yL_shareAnew cL_shareAnew 5 (some .int) [(0, 10, 13, 19)] :: ((wsL_shareAnew_r1 ++ wsL_shareAnew_r2) ++ wsX00 ++ (vx_atS RX0 185 "java/lang/IndexOutOfBoundsException" ["java/lang/RuntimeException", "java/lang/Exception"]).filter goodWord)
def wsL_law0_r1 : List Cond := [Cond.classLink RL 8 RX0, Cond.instantiable RX0 12, Cond.initialized RX0, Cond.classLink RL 88 RX1, Cond.instantiable RX1 11, Cond.initialized RX1, Cond.arrayClass .long, Cond.methodLink RL 87 yX0_init, Cond.instanceMethod yX0_init, Cond.code yX0_init cX0_init 1 none, Cond.methodLink RX0 1 objectInit, Cond.instanceMethod objectInit, Cond.code objectInit ⟨#[0xb1]⟩ 1 none, Cond.fieldLink RX0 9 "Submodulary" "elements" "I", Cond.fieldLink RX0 13 "Submodulary" "functions" "I", Cond.fieldLink RX0 16 "Submodulary" "told" "I", Cond.arrayClass .int, Cond.fieldLink RX0 19 "Submodulary" "covered" "[I", Cond.fieldLink RX0 23 "Submodulary" "edges" "[I", Cond.fieldLink RX0 26 "Submodulary" "colours" "[I", Cond.fieldLink RX0 29 "Submodulary" "rooms" "[I", Cond.fieldLink RX0 32 "Submodulary" "weights" "[I", Cond.fieldLink RX0 35 "Submodulary" "values" "[I", Cond.fieldLink RX0 38 "Submodulary" "ordered" "[I"]
def wsL_law0_r2 : List Cond := [Cond.fieldLink RX0 41 "Submodulary" "cameFrom" "[I", Cond.fieldLink RX0 44 "Submodulary" "reached" "[I", Cond.methodLink RX0 47 yJ7_fill_53178, Cond.static yJ7_fill_53178, Cond.initialized RJ7, Cond.code yJ7_fill_53178 cJ7_fill_53178 4 none, Cond.methodLink RL 90 yX1_init, Cond.instanceMethod yX1_init, Cond.code yX1_init cX1_init 1 none, Cond.methodLink RX1 1 objectInit, Cond.fieldLink RX1 7 "SubmodularyModel" "n" "I", Cond.fieldLink RX1 13 "SubmodularyModel" "points" "[I", Cond.fieldLink RX1 17 "SubmodularyModel" "edges" "[I", Cond.fieldLink RX1 20 "SubmodularyModel" "colours" "[I", Cond.fieldLink RX1 23 "SubmodularyModel" "rooms" "[I", Cond.fieldLink RX1 26 "SubmodularyModel" "weights" "[I", Cond.fieldLink RX1 29 "SubmodularyModel" "values" "[I", Cond.fieldLink RX1 32 "SubmodularyModel" "order" "[I", Cond.methodLink RX1 35 yX1_forgets, Cond.instanceMethod yX1_forgets, Cond.selects RX1 yX1_forgets yX1_forgets, Cond.code yX1_forgets cX1_forgets 2 none, Cond.fieldLink RX1 38 "SubmodularyModel" "functions" "I", Cond.fieldLink RX1 41 "SubmodularyModel" "told" "I"]
def wsL_law0_r3 : List Cond := [Cond.methodLink RL 91 yL_elements, Cond.static yL_elements, Cond.initialized RL, Cond.codeWith yL_elements cL_elements 4 (some .int) [(0, 9, 12, 13)], Cond.classLink RL 13 "java/lang/IllegalArgumentException", Cond.methodLink RL 7 yX0_elements, Cond.instanceMethod yX0_elements, Cond.selects RX0 yX0_elements yX0_elements, Cond.code yX0_elements cX0_elements 3 (some .int), Cond.methodLink RX0 53 yX0_isWithin, Cond.static yX0_isWithin, Cond.code yX0_isWithin cX0_isWithin 3 (some .boolean), Cond.methodLink RX0 57 yX0_needArgument, Cond.static yX0_needArgument, Cond.code yX0_needArgument cX0_needArgument 1 none, Cond.classLink RX0 188 "java/lang/IllegalArgumentException", Cond.initialized "java/lang/IllegalArgumentException", Cond.methodLink RL 96 yX1_elements, Cond.instanceMethod yX1_elements, Cond.selects RX1 yX1_elements yX1_elements, Cond.code yX1_elements cX1_elements 3 (some .int), Cond.fieldLink RX1 44 "SubmodularyModel" "thrown" "I", Cond.methodLink RX1 47 yX1_isIn, Cond.static yX1_isIn]
def wsL_law0_r4 : List Cond := [Cond.code yX1_isIn cX1_isIn 3 (some .boolean), Cond.methodLink RL 97 yX1_thrown, Cond.instanceMethod yX1_thrown, Cond.selects RX1 yX1_thrown yX1_thrown, Cond.code yX1_thrown cX1_thrown 1 (some .int), Cond.methodLink RL 101 yL_cover, Cond.static yL_cover, Cond.codeWith yL_cover cL_cover 6 (some .int) [(0, 19, 22, 19)], Cond.classLink RL 19 "java/lang/IndexOutOfBoundsException", Cond.methodLink RL 15 yX0_cover, Cond.instanceMethod yX0_cover, Cond.selects RX0 yX0_cover yX0_cover, Cond.code yX0_cover cX0_cover 5 (some .boolean), Cond.methodLink RX0 61 yX0_isElement, Cond.instanceMethod yX0_isElement, Cond.selects RX0 yX0_isElement yX0_isElement, Cond.code yX0_isElement cX0_isElement 2 (some .boolean), Cond.methodLink RX0 65 yX0_needIndex, Cond.static yX0_needIndex, Cond.code yX0_needIndex cX0_needIndex 1 none, Cond.classLink RX0 181 "java/lang/IndexOutOfBoundsException", Cond.initialized "java/lang/IndexOutOfBoundsException", Cond.methodLink RX0 68 yX0_at, Cond.static yX0_at]
def wsL_law0_r5 : List Cond := [Cond.code yX0_at cX0_at 2 (some .int), Cond.methodLink RX0 72 yX0_with, Cond.static yX0_with, Cond.code yX0_with cX0_with 2 (some .int), Cond.methodLink RX0 76 yX0_without, Cond.static yX0_without, Cond.code yX0_without cX0_without 2 (some .int), Cond.methodLink RX0 79 yX0_put, Cond.static yX0_put, Cond.code yX0_put cX0_put 3 none, Cond.methodLink RX0 83 yX0_has, Cond.static yX0_has, Cond.code yX0_has cX0_has 2 (some .boolean), Cond.methodLink RL 104 yX1_cover, Cond.instanceMethod yX1_cover, Cond.selects RX1 yX1_cover yX1_cover, Cond.code yX1_cover cX1_cover 5 (some .boolean), Cond.methodLink RX1 51 yX1_isElement, Cond.instanceMethod yX1_isElement, Cond.selects RX1 yX1_isElement yX1_isElement, Cond.code yX1_isElement cX1_isElement 2 (some .boolean), Cond.methodLink RX1 55 yX1_has, Cond.static yX1_has, Cond.code yX1_has cX1_has 2 (some .boolean)]
def wsL_law0_r6 : List Cond := [Cond.methodLink RL 105 yL_edge, Cond.static yL_edge, Cond.codeWith yL_edge cL_edge 6 (some .int) [(0, 12, 15, 19), (0, 12, 19, 13)], Cond.methodLink RL 21 yX0_edge, Cond.instanceMethod yX0_edge, Cond.selects RX0 yX0_edge yX0_edge, Cond.code yX0_edge cX0_edge 5 (some .int), Cond.methodLink RX0 87 yX0_edgeWeight, Cond.instanceMethod yX0_edgeWeight, Cond.selects RX0 yX0_edgeWeight yX0_edgeWeight, Cond.code yX0_edgeWeight cX0_edgeWeight 3 (some .int), Cond.methodLink RL 108 yX1_edge, Cond.instanceMethod yX1_edge, Cond.selects RX1 yX1_edge yX1_edge, Cond.code yX1_edge cX1_edge 5 (some .int), Cond.methodLink RL 109 yL_colour, Cond.static yL_colour, Cond.codeWith yL_colour cL_colour 6 (some .int) [(0, 12, 15, 19)], Cond.methodLink RL 25 yX0_colour, Cond.instanceMethod yX0_colour, Cond.selects RX0 yX0_colour yX0_colour, Cond.code yX0_colour cX0_colour 5 (some .int), Cond.methodLink RX0 90 yX0_isFamily, Cond.static yX0_isFamily]
def wsL_law0_r7 : List Cond := [Cond.code yX0_isFamily cX0_isFamily 1 (some .boolean), Cond.methodLink RX0 93 yX0_isColour, Cond.static yX0_isColour, Cond.code yX0_isColour cX0_isColour 1 (some .boolean), Cond.methodLink RX0 96 yX0_colourOf, Cond.instanceMethod yX0_colourOf, Cond.selects RX0 yX0_colourOf yX0_colourOf, Cond.code yX0_colourOf cX0_colourOf 3 (some .int), Cond.methodLink RL 111 yX1_colour, Cond.instanceMethod yX1_colour, Cond.selects RX1 yX1_colour yX1_colour, Cond.code yX1_colour cX1_colour 5 (some .int), Cond.methodLink RL 112 yL_room, Cond.static yL_room, Cond.codeWith yL_room cL_room 6 (some .int) [(0, 12, 15, 19), (0, 12, 19, 13)], Cond.methodLink RL 28 yX0_room, Cond.instanceMethod yX0_room, Cond.selects RX0 yX0_room yX0_room, Cond.code yX0_room cX0_room 5 (some .int), Cond.methodLink RX0 99 yX0_roomOf, Cond.instanceMethod yX0_roomOf, Cond.selects RX0 yX0_roomOf yX0_roomOf, Cond.code yX0_roomOf cX0_roomOf 3 (some .int), Cond.methodLink RL 114 yX1_room]
def wsL_law0_r8 : List Cond := [Cond.instanceMethod yX1_room, Cond.selects RX1 yX1_room yX1_room, Cond.code yX1_room cX1_room 5 (some .int), Cond.methodLink RL 115 yL_weigh, Cond.static yL_weigh, Cond.codeWith yL_weigh cL_weigh 5 (some .int) [(0, 10, 13, 19), (0, 10, 17, 13)], Cond.methodLink RL 31 yX0_weigh, Cond.instanceMethod yX0_weigh, Cond.selects RX0 yX0_weigh yX0_weigh, Cond.code yX0_weigh cX0_weigh 4 (some .int), Cond.methodLink RL 118 yX1_weigh, Cond.instanceMethod yX1_weigh, Cond.selects RX1 yX1_weigh yX1_weigh, Cond.code yX1_weigh cX1_weigh 4 (some .int), Cond.methodLink RL 119 yL_make, Cond.static yL_make, Cond.codeWith yL_make cL_make 4 (some .int) [(0, 9, 12, 13), (0, 9, 15, 38)], Cond.classLink RL 38 "java/lang/IllegalStateException", Cond.methodLink RL 35 yX0_make, Cond.instanceMethod yX0_make, Cond.selects RX0 yX0_make yX0_make, Cond.code yX0_make cX0_make 3 (some .int), Cond.methodLink RX0 102 yX0_needPlace, Cond.instanceMethod yX0_needPlace]
def wsL_law0_r9 : List Cond := [Cond.selects RX0 yX0_needPlace yX0_needPlace, Cond.code yX0_needPlace cX0_needPlace 1 none, Cond.methodLink RX0 140 yX0_needState, Cond.static yX0_needState, Cond.code yX0_needState cX0_needState 1 none, Cond.classLink RX0 193 "java/lang/IllegalStateException", Cond.initialized "java/lang/IllegalStateException", Cond.methodLink RX0 105 yX0_sets, Cond.instanceMethod yX0_sets, Cond.selects RX0 yX0_sets yX0_sets, Cond.code yX0_sets cX0_sets 1 (some .int), Cond.methodLink RX0 109 yX0_toldValue, Cond.instanceMethod yX0_toldValue, Cond.selects RX0 yX0_toldValue yX0_toldValue, Cond.code yX0_toldValue cX0_toldValue 3 (some .int), Cond.methodLink RX0 198 yX0_coverValue, Cond.instanceMethod yX0_coverValue, Cond.selects RX0 yX0_coverValue yX0_coverValue, Cond.code yX0_coverValue cX0_coverValue 4 (some .int), Cond.methodLink RX0 157 yJ6_bitCount_0f7a4, Cond.static yJ6_bitCount_0f7a4, Cond.initialized RJ6, Cond.code yJ6_bitCount_0f7a4 cJ6_bitCount_0f7a4 1 (some .int), Cond.constant RJ6 265 (1431655765)]
def wsL_law0_r10 : List Cond := [Cond.constant RJ6 266 (858993459), Cond.constant RJ6 267 (252645135), Cond.methodLink RX0 201 yX0_cutValue, Cond.instanceMethod yX0_cutValue, Cond.selects RX0 yX0_cutValue yX0_cutValue, Cond.code yX0_cutValue cX0_cutValue 5 (some .int), Cond.methodLink RX0 204 yX0_rankValue, Cond.instanceMethod yX0_rankValue, Cond.selects RX0 yX0_rankValue yX0_rankValue, Cond.code yX0_rankValue cX0_rankValue 5 (some .int), Cond.methodLink RX0 128 Lib.Math.min.name, Cond.static Lib.Math.min.name, Cond.initialized "java/lang/Math", Cond.code Lib.Math.min.name Lib.Math.min.code 2 (some .int), Cond.methodLink RX0 210 yX0_countOf, Cond.instanceMethod yX0_countOf, Cond.selects RX0 yX0_countOf yX0_countOf, Cond.code yX0_countOf cX0_countOf 6 (some .int), Cond.methodLink RX0 207 yX0_weightsValue, Cond.instanceMethod yX0_weightsValue, Cond.selects RX0 yX0_weightsValue yX0_weightsValue, Cond.code yX0_weightsValue cX0_weightsValue 4 (some .int), Cond.methodLink RX0 112 yX0_putNew, Cond.instanceMethod yX0_putNew]
def wsL_law0_r11 : List Cond := [Cond.selects RX0 yX0_putNew yX0_putNew, Cond.code yX0_putNew cX0_putNew 3 none, Cond.methodLink RX0 116 yX0_countNew, Cond.instanceMethod yX0_countNew, Cond.selects RX0 yX0_countNew yX0_countNew, Cond.code yX0_countNew cX0_countNew 2 (some .int), Cond.methodLink RL 121 yX1_make, Cond.instanceMethod yX1_make, Cond.selects RX1 yX1_make yX1_make, Cond.code yX1_make cX1_make 3 (some .int), Cond.methodLink RX1 67 yX1_isSet, Cond.instanceMethod yX1_isSet, Cond.selects RX1 yX1_isSet yX1_isSet, Cond.code yX1_isSet cX1_isSet 2 (some .boolean), Cond.methodLink RX1 70 yX1_covered, Cond.instanceMethod yX1_covered, Cond.selects RX1 yX1_covered yX1_covered, Cond.code yX1_covered cX1_covered 4 (some .int), Cond.methodLink RX1 59 yX1_many, Cond.static yX1_many, Cond.code yX1_many cX1_many 3 (some .int), Cond.methodLink RX1 73 yX1_cutBy, Cond.instanceMethod yX1_cutBy, Cond.selects RX1 yX1_cutBy yX1_cutBy]
def wsL_law0_r12 : List Cond := [Cond.code yX1_cutBy cX1_cutBy 5 (some .int), Cond.methodLink RX1 76 yX1_weight, Cond.instanceMethod yX1_weight, Cond.selects RX1 yX1_weight yX1_weight, Cond.code yX1_weight cX1_weight 4 (some .int), Cond.methodLink RX1 79 yX1_rank, Cond.instanceMethod yX1_rank, Cond.selects RX1 yX1_rank yX1_rank, Cond.code yX1_rank cX1_rank 6 (some .int), Cond.methodLink RX1 63 yX1_ofColour, Cond.instanceMethod yX1_ofColour, Cond.selects RX1 yX1_ofColour yX1_ofColour, Cond.code yX1_ofColour cX1_ofColour 6 (some .int), Cond.methodLink RL 122 yL_sum, Cond.static yL_sum, Cond.codeWith yL_sum cL_sum 5 (some .int) [(0, 10, 13, 19), (0, 10, 17, 38)], Cond.methodLink RL 40 yX0_sum, Cond.instanceMethod yX0_sum, Cond.selects RX0 yX0_sum yX0_sum, Cond.code yX0_sum cX0_sum 4 (some .int), Cond.methodLink RX0 119 yX0_isFunction, Cond.instanceMethod yX0_isFunction, Cond.selects RX0 yX0_isFunction yX0_isFunction, Cond.code yX0_isFunction cX0_isFunction 2 (some .boolean)]
def wsL_law0_r13 : List Cond := [Cond.methodLink RX0 122 yX0_valueOf, Cond.instanceMethod yX0_valueOf, Cond.selects RX0 yX0_valueOf yX0_valueOf, Cond.code yX0_valueOf cX0_valueOf 3 (some .int), Cond.methodLink RL 124 yX1_sum, Cond.instanceMethod yX1_sum, Cond.selects RX1 yX1_sum yX1_sum, Cond.code yX1_sum cX1_sum 4 (some .int), Cond.methodLink RX1 83 yX1_isFunction, Cond.instanceMethod yX1_isFunction, Cond.selects RX1 yX1_isFunction yX1_isFunction, Cond.code yX1_isFunction cX1_isFunction 2 (some .boolean), Cond.methodLink RL 125 yL_contract, Cond.static yL_contract, Cond.codeWith yL_contract cL_contract 5 (some .int) [(0, 10, 13, 19), (0, 10, 17, 13), (0, 10, 21, 38)], Cond.methodLink RL 43 yX0_contract, Cond.instanceMethod yX0_contract, Cond.selects RX0 yX0_contract yX0_contract, Cond.code yX0_contract cX0_contract 4 (some .int), Cond.methodLink RX0 125 yX0_isSet, Cond.instanceMethod yX0_isSet, Cond.selects RX0 yX0_isSet yX0_isSet, Cond.code yX0_isSet cX0_isSet 2 (some .boolean), Cond.methodLink RL 127 yX1_contract]
def wsL_law0_r14 : List Cond := [Cond.instanceMethod yX1_contract, Cond.selects RX1 yX1_contract yX1_contract, Cond.code yX1_contract cX1_contract 4 (some .int), Cond.methodLink RL 128 yL_cap, Cond.static yL_cap, Cond.codeWith yL_cap cL_cap 5 (some .int) [(0, 10, 13, 19), (0, 10, 17, 13), (0, 10, 21, 38)], Cond.methodLink RL 46 yX0_cap, Cond.instanceMethod yX0_cap, Cond.selects RX0 yX0_cap yX0_cap, Cond.code yX0_cap cX0_cap 4 (some .int), Cond.methodLink RL 130 yX1_cap, Cond.instanceMethod yX1_cap, Cond.selects RX1 yX1_cap yX1_cap, Cond.code yX1_cap cX1_cap 5 (some .int), Cond.methodLink RL 131 yL_value, Cond.static yL_value, Cond.codeWith yL_value cL_value 5 (some .int) [(0, 10, 13, 19), (0, 10, 17, 13)], Cond.methodLink RL 49 yX0_value, Cond.instanceMethod yX0_value, Cond.selects RX0 yX0_value yX0_value, Cond.code yX0_value cX0_value 3 (some .int), Cond.methodLink RL 133 yX1_value, Cond.instanceMethod yX1_value, Cond.selects RX1 yX1_value yX1_value]
def wsL_law0_r15 : List Cond := [Cond.code yX1_value cX1_value 3 (some .int), Cond.methodLink RL 134 yL_isLawful, Cond.static yL_isLawful, Cond.codeWith yL_isLawful cL_isLawful 4 (some .int) [(0, 16, 19, 19)], Cond.methodLink RL 52 yX0_isLawful, Cond.instanceMethod yX0_isLawful, Cond.selects RX0 yX0_isLawful yX0_isLawful, Cond.code yX0_isLawful cX0_isLawful 2 (some .boolean), Cond.methodLink RX0 133 yX0_hasLaw, Cond.instanceMethod yX0_hasLaw, Cond.selects RX0 yX0_hasLaw yX0_hasLaw, Cond.code yX0_hasLaw cX0_hasLaw 3 (some .boolean), Cond.methodLink RX0 213 yX0_hasLawAbove, Cond.instanceMethod yX0_hasLawAbove, Cond.selects RX0 yX0_hasLawAbove yX0_hasLawAbove, Cond.code yX0_hasLawAbove cX0_hasLawAbove 6 (some .boolean), Cond.methodLink RX0 136 yX0_gain, Cond.instanceMethod yX0_gain, Cond.selects RX0 yX0_gain yX0_gain, Cond.code yX0_gain cX0_gain 4 (some .int), Cond.methodLink RL 136 yX1_isLawful, Cond.instanceMethod yX1_isLawful, Cond.selects RX1 yX1_isLawful yX1_isLawful, Cond.code yX1_isLawful cX1_isLawful 2 (some .boolean)]
def wsL_law0_r16 : List Cond := [Cond.methodLink RX1 86 yX1_hasLaw, Cond.instanceMethod yX1_hasLaw, Cond.selects RX1 yX1_hasLaw yX1_hasLaw, Cond.code yX1_hasLaw cX1_hasLaw 8 (some .boolean), Cond.methodLink RL 137 yL_rises, Cond.static yL_rises, Cond.codeWith yL_rises cL_rises 4 (some .int) [(0, 16, 19, 19)], Cond.methodLink RL 56 yX0_rises, Cond.instanceMethod yX0_rises, Cond.selects RX0 yX0_rises yX0_rises, Cond.code yX0_rises cX0_rises 4 (some .boolean), Cond.methodLink RL 139 yX1_rises, Cond.instanceMethod yX1_rises, Cond.selects RX1 yX1_rises yX1_rises, Cond.code yX1_rises cX1_rises 5 (some .boolean), Cond.methodLink RL 140 yL_least, Cond.static yL_least, Cond.codeWith yL_least cL_least 4 (some .int) [(0, 9, 12, 19), (0, 9, 15, 38)], Cond.methodLink RL 59 yX0_least, Cond.instanceMethod yX0_least, Cond.selects RX0 yX0_least yX0_least, Cond.code yX0_least cX0_least 2 (some .int), Cond.methodLink RX0 143 yX0_leastBetween, Cond.instanceMethod yX0_leastBetween]
def wsL_law0_r17 : List Cond := [Cond.selects RX0 yX0_leastBetween yX0_leastBetween, Cond.code yX0_leastBetween cX0_leastBetween 12 (some .int), Cond.methodLink RX0 216 yX0_takenIn, Cond.instanceMethod yX0_takenIn, Cond.selects RX0 yX0_takenIn yX0_takenIn, Cond.code yX0_takenIn cX0_takenIn 8 (some .int), Cond.methodLink RX0 220 yX0_takenOut, Cond.instanceMethod yX0_takenOut, Cond.selects RX0 yX0_takenOut yX0_takenOut, Cond.code yX0_takenOut cX0_takenOut 8 (some .int), Cond.methodLink RX0 223 yX0_lowest, Cond.instanceMethod yX0_lowest, Cond.selects RX0 yX0_lowest yX0_lowest, Cond.code yX0_lowest cX0_lowest 3 (some .int), Cond.methodLink RL 142 yX1_least, Cond.instanceMethod yX1_least, Cond.selects RX1 yX1_least yX1_least, Cond.code yX1_least cX1_least 2 (some .int), Cond.methodLink RX1 89 yX1_leastOf, Cond.instanceMethod yX1_leastOf, Cond.selects RX1 yX1_leastOf yX1_leastOf, Cond.code yX1_leastOf cX1_leastOf 4 (some .int), Cond.methodLink RL 143 yL_leastSet, Cond.static yL_leastSet]
def wsL_law0_r18 : List Cond := [Cond.codeWith yL_leastSet cL_leastSet 5 (some .int) [(0, 10, 13, 19), (0, 10, 17, 38)], Cond.methodLink RL 62 yX0_leastSet, Cond.instanceMethod yX0_leastSet, Cond.selects RX0 yX0_leastSet yX0_leastSet, Cond.code yX0_leastSet cX0_leastSet 3 (some .int), Cond.methodLink RL 146 yX1_leastSet, Cond.instanceMethod yX1_leastSet, Cond.selects RX1 yX1_leastSet yX1_leastSet, Cond.code yX1_leastSet cX1_leastSet 3 (some .int), Cond.methodLink RX1 92 yX1_leastSets, Cond.instanceMethod yX1_leastSets, Cond.selects RX1 yX1_leastSets yX1_leastSets, Cond.code yX1_leastSets cX1_leastSets 7 (some .int), Cond.methodLink RL 147 yL_leastSetAnew, Cond.static yL_leastSetAnew, Cond.codeWith yL_leastSetAnew cL_leastSetAnew 5 (some .int) [(0, 10, 13, 19), (0, 10, 17, 38)], Cond.methodLink RL 66 yX0_leastSetAnew, Cond.instanceMethod yX0_leastSetAnew, Cond.selects RX0 yX0_leastSetAnew yX0_leastSetAnew, Cond.code yX0_leastSetAnew cX0_leastSetAnew 7 (some .int), Cond.methodLink RL 149 yX1_leastSetAnew, Cond.instanceMethod yX1_leastSetAnew, Cond.selects RX1 yX1_leastSetAnew yX1_leastSetAnew, Cond.code yX1_leastSetAnew cX1_leastSetAnew 3 (some .int)]
def wsL_law0_r19 : List Cond := [Cond.methodLink RL 150 yL_order, Cond.static yL_order, Cond.codeWith yL_order cL_order 4 (some .int) [(0, 9, 12, 19), (0, 9, 15, 38)], Cond.methodLink RL 69 yX0_order, Cond.instanceMethod yX0_order, Cond.selects RX0 yX0_order yX0_order, Cond.code yX0_order cX0_order 3 (some .int), Cond.methodLink RX0 147 yX0_isTold, Cond.instanceMethod yX0_isTold, Cond.selects RX0 yX0_isTold yX0_isTold, Cond.code yX0_isTold cX0_isTold 3 (some .boolean), Cond.methodLink RL 152 yX1_order, Cond.instanceMethod yX1_order, Cond.selects RX1 yX1_order yX1_order, Cond.code yX1_order cX1_order 2 (some .int), Cond.methodLink RX1 96 yX1_placeOf, Cond.instanceMethod yX1_placeOf, Cond.selects RX1 yX1_placeOf yX1_placeOf, Cond.code yX1_placeOf cX1_placeOf 4 (some .int), Cond.methodLink RL 153 yL_corner, Cond.static yL_corner, Cond.codeWith yL_corner cL_corner 5 (some .int) [(0, 10, 13, 19), (0, 10, 17, 38)], Cond.methodLink RL 72 yX0_corner, Cond.instanceMethod yX0_corner]
def wsL_law0_r20 : List Cond := [Cond.selects RX0 yX0_corner yX0_corner, Cond.code yX0_corner cX0_corner 3 (some .int), Cond.methodLink RX0 150 yX0_aheadOf, Cond.instanceMethod yX0_aheadOf, Cond.selects RX0 yX0_aheadOf yX0_aheadOf, Cond.code yX0_aheadOf cX0_aheadOf 5 (some .int), Cond.methodLink RL 155 yX1_corner, Cond.instanceMethod yX1_corner, Cond.selects RX1 yX1_corner yX1_corner, Cond.code yX1_corner cX1_corner 5 (some .int), Cond.methodLink RL 156 yL_greedy, Cond.static yL_greedy, Cond.codeWith yL_greedy cL_greedy 5 (some .int) [(0, 10, 13, 19), (0, 10, 17, 13)], Cond.methodLink RL 75 yX0_greedy, Cond.instanceMethod yX0_greedy, Cond.selects RX0 yX0_greedy yX0_greedy, Cond.code yX0_greedy cX0_greedy 6 (some .int), Cond.methodLink RX0 154 yX0_greediest, Cond.instanceMethod yX0_greediest, Cond.selects RX0 yX0_greediest yX0_greediest, Cond.code yX0_greediest cX0_greediest 7 (some .int), Cond.methodLink RL 158 yX1_greedy, Cond.instanceMethod yX1_greedy, Cond.selects RX1 yX1_greedy yX1_greedy]
def wsL_law0_r21 : List Cond := [Cond.code yX1_greedy cX1_greedy 7 (some .int), Cond.methodLink RL 159 yL_best, Cond.static yL_best, Cond.codeWith yL_best cL_best 5 (some .int) [(0, 10, 13, 19), (0, 10, 17, 13)], Cond.methodLink RL 78 yX0_best, Cond.instanceMethod yX0_best, Cond.selects RX0 yX0_best yX0_best, Cond.code yX0_best cX0_best 5 (some .int), Cond.methodLink RX0 162 Lib.Math.max.name, Cond.static Lib.Math.max.name, Cond.code Lib.Math.max.name Lib.Math.max.code 2 (some .int), Cond.methodLink RL 161 yX1_best, Cond.instanceMethod yX1_best, Cond.selects RX1 yX1_best yX1_best, Cond.code yX1_best cX1_best 5 (some .int), Cond.methodLink RL 162 yX0_common, Cond.instanceMethod yX0_common, Cond.selects RX0 yX0_common yX0_common, Cond.code yX0_common cX0_common 4 (some .int), Cond.methodLink RX0 165 yX0_endOfPath, Cond.instanceMethod yX0_endOfPath, Cond.selects RX0 yX0_endOfPath yX0_endOfPath, Cond.code yX0_endOfPath cX0_endOfPath 5 (some .int), Cond.methodLink RX0 226 yX0_reachFirst]
def wsL_law0_r22 : List Cond := [Cond.instanceMethod yX0_reachFirst, Cond.selects RX0 yX0_reachFirst yX0_reachFirst, Cond.code yX0_reachFirst cX0_reachFirst 4 (some .int), Cond.methodLink RX0 229 yX0_hasRoom, Cond.instanceMethod yX0_hasRoom, Cond.selects RX0 yX0_hasRoom yX0_hasRoom, Cond.code yX0_hasRoom cX0_hasRoom 5 (some .boolean), Cond.methodLink RX0 232 yX0_reachFrom, Cond.instanceMethod yX0_reachFrom, Cond.selects RX0 yX0_reachFrom yX0_reachFrom, Cond.code yX0_reachFrom cX0_reachFrom 6 (some .int), Cond.methodLink RX0 235 yX0_isStep, Cond.instanceMethod yX0_isStep, Cond.selects RX0 yX0_isStep yX0_isStep, Cond.code yX0_isStep cX0_isStep 5 (some .boolean), Cond.methodLink RX0 168 yX0_flippedAlong, Cond.instanceMethod yX0_flippedAlong, Cond.selects RX0 yX0_flippedAlong yX0_flippedAlong, Cond.code yX0_flippedAlong cX0_flippedAlong 6 (some .int), Cond.methodLink RL 165 yX1_common, Cond.instanceMethod yX1_common, Cond.selects RX1 yX1_common yX1_common, Cond.code yX1_common cX1_common 1 (some .int), Cond.methodLink RX1 102 yX1_commonSize]
def wsL_law0_r23 : List Cond := [Cond.instanceMethod yX1_commonSize, Cond.selects RX1 yX1_commonSize yX1_commonSize, Cond.code yX1_commonSize cX1_commonSize 3 (some .int), Cond.methodLink RX1 99 yX1_isFair, Cond.instanceMethod yX1_isFair, Cond.selects RX1 yX1_isFair yX1_isFair, Cond.code yX1_isFair cX1_isFair 3 (some .boolean), Cond.methodLink RL 166 yX0_commonAnew, Cond.instanceMethod yX0_commonAnew, Cond.selects RX0 yX0_commonAnew yX0_commonAnew, Cond.code yX0_commonAnew cX0_commonAnew 3 (some .int), Cond.methodLink RX0 171 yX0_isFair, Cond.instanceMethod yX0_isFair, Cond.selects RX0 yX0_isFair yX0_isFair, Cond.code yX0_isFair cX0_isFair 4 (some .boolean), Cond.methodLink RL 169 yX1_commonAnew, Cond.instanceMethod yX1_commonAnew, Cond.selects RX1 yX1_commonAnew yX1_commonAnew, Cond.code yX1_commonAnew cX1_commonAnew 1 (some .int), Cond.methodLink RL 170 yL_share, Cond.static yL_share, Cond.codeWith yL_share cL_share 5 (some .int) [(0, 10, 13, 19)], Cond.methodLink RL 81 yX0_share, Cond.instanceMethod yX0_share]
def wsL_law0_r24 : List Cond := [Cond.selects RX0 yX0_share yX0_share, Cond.code yX0_share cX0_share 7 (some .int), Cond.methodLink RX0 174 yX0_ordersOf, Cond.static yX0_ordersOf, Cond.code yX0_ordersOf cX0_ordersOf 3 (some .int), Cond.methodLink RL 172 yX1_share, Cond.instanceMethod yX1_share, Cond.selects RX1 yX1_share yX1_share, Cond.code yX1_share cX1_share 3 (some .int), Cond.methodLink RX1 106 yX1_shares, Cond.instanceMethod yX1_shares, Cond.selects RX1 yX1_shares yX1_shares, Cond.code yX1_shares cX1_shares 12 (some .int), Cond.methodLink RL 173 yL_shareAnew, Cond.static yL_shareAnew, Cond.codeWith yL_shareAnew cL_shareAnew 5 (some .int) [(0, 10, 13, 19)], Cond.methodLink RL 84 yX0_shareAnew, Cond.instanceMethod yX0_shareAnew, Cond.selects RX0 yX0_shareAnew yX0_shareAnew, Cond.code yX0_shareAnew cX0_shareAnew 3 (some .int), Cond.methodLink RX0 177 yX0_gainsOverOrders, Cond.instanceMethod yX0_gainsOverOrders, Cond.selects RX0 yX0_gainsOverOrders yX0_gainsOverOrders, Cond.code yX0_gainsOverOrders cX0_gainsOverOrders 9 (some .int)]
def wsL_law0_r25 : List Cond := [Cond.methodLink RL 175 yX1_shareAnew, Cond.instanceMethod yX1_shareAnew, Cond.selects RX1 yX1_shareAnew yX1_shareAnew, Cond.code yX1_shareAnew cX1_shareAnew 3 (some .int)]
def wsL_law0 : List Cond := (wsL_law0_r1 ++ (wsL_law0_r2 ++ (wsL_law0_r3 ++ (wsL_law0_r4 ++ (wsL_law0_r5 ++ (wsL_law0_r6 ++ (wsL_law0_r7 ++ (wsL_law0_r8 ++ (wsL_law0_r9 ++ (wsL_law0_r10 ++ (wsL_law0_r11 ++ (wsL_law0_r12 ++ (wsL_law0_r13 ++ (wsL_law0_r14 ++ (wsL_law0_r15 ++ (wsL_law0_r16 ++ (wsL_law0_r17 ++ (wsL_law0_r18 ++ (wsL_law0_r19 ++ (wsL_law0_r20 ++ (wsL_law0_r21 ++ (wsL_law0_r22 ++ (wsL_law0_r23 ++ (wsL_law0_r24 ++ wsL_law0_r25)))))))))))))))))))))))) ++ wsX00 ++ wsX10 ++ ([] : List Cond)
def wsL_law : List Cond := wsL_law0 ++ (vx_atS RX0 192 "java/lang/IllegalArgumentException" ["java/lang/RuntimeException", "java/lang/Exception"]).filter goodWord ++ (vx_atS RX0 185 "java/lang/IndexOutOfBoundsException" ["java/lang/RuntimeException", "java/lang/Exception"]).filter goodWord ++ (vx_atS RX0 197 "java/lang/IllegalStateException" ["java/lang/RuntimeException", "java/lang/Exception"]).filter goodWord
end
section
set_option maxRecDepth 20000 in
theorem in_wsL_law0_r1 : ∀ w ∈ wsL_law0_r1, w ∈ lw_tbl := fun w h => (goodIn_p wsL_law0_r1 [68, 71] (by decide +kernel) (by decide +kernel) w h).1
set_option maxRecDepth 20000 in
theorem in_wsL_law0_r2 : ∀ w ∈ wsL_law0_r2, w ∈ lw_tbl := fun w h => (goodIn_p wsL_law0_r2 [74, 570, 575] (by decide +kernel) (by decide +kernel) w h).1
set_option maxRecDepth 20000 in
theorem in_wsL_law0_r3 : ∀ w ∈ wsL_law0_r3, w ∈ lw_tbl := fun w h => (goodIn_p wsL_law0_r3 [190, 193, 196, 617] (by decide +kernel) (by decide +kernel) w h).1
set_option maxRecDepth 20000 in
theorem in_wsL_law0_r4 : ∀ w ∈ wsL_law0_r4, w ∈ lw_tbl := fun w h => (goodIn_p wsL_law0_r4 [620, 613, 272, 276, 279] (by decide +kernel) (by decide +kernel) w h).1
set_option maxRecDepth 20000 in
theorem in_wsL_law0_r5 : ∀ w ∈ wsL_law0_r5, w ∈ lw_tbl := fun w h => (goodIn_p wsL_law0_r5 [135, 298, 301, 149, 138, 624, 628, 631] (by decide +kernel) (by decide +kernel) w h).1
set_option maxRecDepth 20000 in
theorem in_wsL_law0_r6 : ∀ w ∈ wsL_law0_r6, w ∈ lw_tbl := fun w h => (goodIn_p wsL_law0_r6 [308, 312, 635, 319] (by decide +kernel) (by decide +kernel) w h).1
set_option maxRecDepth 20000 in
theorem in_wsL_law0_r7 : ∀ w ∈ wsL_law0_r7, w ∈ lw_tbl := fun w h => (goodIn_p wsL_law0_r7 [322, 325, 132, 639, 332, 146] (by decide +kernel) (by decide +kernel) w h).1
set_option maxRecDepth 20000 in
theorem in_wsL_law0_r8 : ∀ w ∈ wsL_law0_r8, w ∈ lw_tbl := fun w h => (goodIn_p wsL_law0_r8 [643, 339, 647, 347] (by decide +kernel) (by decide +kernel) w h).1
set_option maxRecDepth 20000 in
theorem in_wsL_law0_r9 : ∀ w ∈ wsL_law0_r9, w ∈ lw_tbl := fun w h => (goodIn_p wsL_law0_r9 [351, 354, 175, 374, 378, 160] (by decide +kernel) (by decide +kernel) w h).1
set_option maxRecDepth 20000 in
theorem in_wsL_law0_r10 : ∀ w ∈ wsL_law0_r10, w ∈ lw_tbl := fun w h => (goodIn_p wsL_law0_r10 [382, 386, 389, 142, 393] (by decide +kernel) (by decide +kernel) w h).1
set_option maxRecDepth 20000 in
theorem in_wsL_law0_r11 : ∀ w ∈ wsL_law0_r11, w ∈ lw_tbl := fun w h => (goodIn_p wsL_law0_r11 [397, 401, 651, 655, 659, 662] (by decide +kernel) (by decide +kernel) w h).1
set_option maxRecDepth 20000 in
theorem in_wsL_law0_r12 : ∀ w ∈ wsL_law0_r12, w ∈ lw_tbl := fun w h => (goodIn_p wsL_law0_r12 [666, 670, 674, 678, 408, 412] (by decide +kernel) (by decide +kernel) w h).1
set_option maxRecDepth 20000 in
theorem in_wsL_law0_r13 : ∀ w ∈ wsL_law0_r13, w ∈ lw_tbl := fun w h => (goodIn_p wsL_law0_r13 [416, 682, 686, 423, 427] (by decide +kernel) (by decide +kernel) w h).1
set_option maxRecDepth 20000 in
theorem in_wsL_law0_r14 : ∀ w ∈ wsL_law0_r14, w ∈ lw_tbl := fun w h => (goodIn_p wsL_law0_r14 [690, 434, 694, 441] (by decide +kernel) (by decide +kernel) w h).1
set_option maxRecDepth 20000 in
theorem in_wsL_law0_r15 : ∀ w ∈ wsL_law0_r15, w ∈ lw_tbl := fun w h => (goodIn_p wsL_law0_r15 [698, 448, 452, 456, 460, 702] (by decide +kernel) (by decide +kernel) w h).1
set_option maxRecDepth 20000 in
theorem in_wsL_law0_r16 : ∀ w ∈ wsL_law0_r16, w ∈ lw_tbl := fun w h => (goodIn_p wsL_law0_r16 [706, 467, 710, 474] (by decide +kernel) (by decide +kernel) w h).1
set_option maxRecDepth 20000 in
theorem in_wsL_law0_r17 : ∀ w ∈ wsL_law0_r17, w ∈ lw_tbl := fun w h => (goodIn_p wsL_law0_r17 [478, 482, 486, 490, 714, 718] (by decide +kernel) (by decide +kernel) w h).1
set_option maxRecDepth 20000 in
theorem in_wsL_law0_r18 : ∀ w ∈ wsL_law0_r18, w ∈ lw_tbl := fun w h => (goodIn_p wsL_law0_r18 [497, 722, 726, 504, 730] (by decide +kernel) (by decide +kernel) w h).1
set_option maxRecDepth 20000 in
theorem in_wsL_law0_r19 : ∀ w ∈ wsL_law0_r19, w ∈ lw_tbl := fun w h => (goodIn_p wsL_law0_r19 [511, 515, 734, 738] (by decide +kernel) (by decide +kernel) w h).1
set_option maxRecDepth 20000 in
theorem in_wsL_law0_r20 : ∀ w ∈ wsL_law0_r20, w ∈ lw_tbl := fun w h => (goodIn_p wsL_law0_r20 [522, 526, 742, 533, 537] (by decide +kernel) (by decide +kernel) w h).1
set_option maxRecDepth 20000 in
theorem in_wsL_law0_r21 : ∀ w ∈ wsL_law0_r21, w ∈ lw_tbl := fun w h => (goodIn_p wsL_law0_r21 [746, 544, 182, 750, 116, 120] (by decide +kernel) (by decide +kernel) w h).1
set_option maxRecDepth 20000 in
theorem in_wsL_law0_r22 : ∀ w ∈ wsL_law0_r22, w ∈ lw_tbl := fun w h => (goodIn_p wsL_law0_r22 [124, 128, 153, 157, 167, 754] (by decide +kernel) (by decide +kernel) w h).1
set_option maxRecDepth 20000 in
theorem in_wsL_law0_r23 : ∀ w ∈ wsL_law0_r23, w ∈ lw_tbl := fun w h => (goodIn_p wsL_law0_r23 [758, 762, 171, 179, 766] (by decide +kernel) (by decide +kernel) w h).1
set_option maxRecDepth 20000 in
theorem in_wsL_law0_r24 : ∀ w ∈ wsL_law0_r24, w ∈ lw_tbl := fun w h => (goodIn_p wsL_law0_r24 [551, 554, 770, 774, 561, 565] (by decide +kernel) (by decide +kernel) w h).1
set_option maxRecDepth 20000 in
theorem in_wsL_law0_r25 : ∀ w ∈ wsL_law0_r25, w ∈ lw_tbl := fun w h => (goodIn_p wsL_law0_r25 [778] (by decide +kernel) (by decide +kernel) w h).1
set_option maxRecDepth 20000 in
theorem in_wsX00 : ∀ w ∈ wsX00, w ∈ lw_tbl := by decide +kernel
set_option maxRecDepth 20000 in
theorem in_wsX10 : ∀ w ∈ wsX10, w ∈ lw_tbl := by decide +kernel
theorem wsL_law_in0 : ∀ w ∈ wsL_law0, w ∈ lw_tbl := fun w h => (List.mem_append.mp h).elim (fun h => (List.mem_append.mp h).elim (fun h => (List.mem_append.mp h).elim (fun h => (List.mem_append.mp h).elim (fun h => in_wsL_law0_r1 w h) (fun h => (List.mem_append.mp h).elim (fun h => in_wsL_law0_r2 w h) (fun h => (List.mem_append.mp h).elim (fun h => in_wsL_law0_r3 w h) (fun h => (List.mem_append.mp h).elim (fun h => in_wsL_law0_r4 w h) (fun h => (List.mem_append.mp h).elim (fun h => in_wsL_law0_r5 w h) (fun h => (List.mem_append.mp h).elim (fun h => in_wsL_law0_r6 w h) (fun h => (List.mem_append.mp h).elim (fun h => in_wsL_law0_r7 w h) (fun h => (List.mem_append.mp h).elim (fun h => in_wsL_law0_r8 w h) (fun h => (List.mem_append.mp h).elim (fun h => in_wsL_law0_r9 w h) (fun h => (List.mem_append.mp h).elim (fun h => in_wsL_law0_r10 w h) (fun h => (List.mem_append.mp h).elim (fun h => in_wsL_law0_r11 w h) (fun h => (List.mem_append.mp h).elim (fun h => in_wsL_law0_r12 w h) (fun h => (List.mem_append.mp h).elim (fun h => in_wsL_law0_r13 w h) (fun h => (List.mem_append.mp h).elim (fun h => in_wsL_law0_r14 w h) (fun h => (List.mem_append.mp h).elim (fun h => in_wsL_law0_r15 w h) (fun h => (List.mem_append.mp h).elim (fun h => in_wsL_law0_r16 w h) (fun h => (List.mem_append.mp h).elim (fun h => in_wsL_law0_r17 w h) (fun h => (List.mem_append.mp h).elim (fun h => in_wsL_law0_r18 w h) (fun h => (List.mem_append.mp h).elim (fun h => in_wsL_law0_r19 w h) (fun h => (List.mem_append.mp h).elim (fun h => in_wsL_law0_r20 w h) (fun h => (List.mem_append.mp h).elim (fun h => in_wsL_law0_r21 w h) (fun h => (List.mem_append.mp h).elim (fun h => in_wsL_law0_r22 w h) (fun h => (List.mem_append.mp h).elim (fun h => in_wsL_law0_r23 w h) (fun h => (List.mem_append.mp h).elim (fun h => in_wsL_law0_r24 w h) (fun h => in_wsL_law0_r25 w h))))))))))))))))))))))))) (fun h => in_wsX00 w h)) (fun h => in_wsX10 w h)) (fun h => nomatch h)
theorem wsL_law_x0 : ∀ w ∈ (vx_atS RX0 192 "java/lang/IllegalArgumentException" ["java/lang/RuntimeException", "java/lang/Exception"]).filter goodWord, w ∈ lw_tbl := by decide +kernel
theorem wsL_law_x1 : ∀ w ∈ (vx_atS RX0 185 "java/lang/IndexOutOfBoundsException" ["java/lang/RuntimeException", "java/lang/Exception"]).filter goodWord, w ∈ lw_tbl := by decide +kernel
theorem wsL_law_x2 : ∀ w ∈ (vx_atS RX0 197 "java/lang/IllegalStateException" ["java/lang/RuntimeException", "java/lang/Exception"]).filter goodWord, w ∈ lw_tbl := by decide +kernel
theorem wsL_law_in : ∀ w ∈ wsL_law, w ∈ lw_tbl := fun w h => (List.mem_append.mp h).elim (fun h => (List.mem_append.mp h).elim (fun h => (List.mem_append.mp h).elim (fun h => wsL_law_in0 w h) (fun h => wsL_law_x0 w h)) (fun h => wsL_law_x1 w h)) (fun h => wsL_law_x2 w h)
theorem inlX0 : ∀ w ∈ wsX00, w ∈ wsL_law := fun _ h => List.mem_append_left _ (List.mem_append_left _ (List.mem_append_left _ (List.mem_append_left _ (List.mem_append_left _ (List.mem_append_right _ h)))))
theorem inX0 : ∀ w ∈ wsX00, w ∈ lw_tbl := fun w h => wsL_law_in w (inlX0 w h)
theorem inlX1 : ∀ w ∈ wsX10, w ∈ wsL_law := fun _ h => List.mem_append_left _ (List.mem_append_left _ (List.mem_append_left _ (List.mem_append_left _ (List.mem_append_right _ h))))
theorem inX1 : ∀ w ∈ wsX10, w ∈ lw_tbl := fun w h => wsL_law_in w (inlX1 w h)
theorem inJx145de : ∀ w ∈ wsJx145de0, w ∈ lw_tbl := by decide +kernel
theorem inJ6 : ∀ w ∈ wsJ60, w ∈ lw_tbl := by decide +kernel
theorem inJ9 : ∀ w ∈ wsJ90, w ∈ lw_tbl := by decide +kernel
theorem inJ0 : ∀ w ∈ wsJ00, w ∈ lw_tbl := by decide +kernel
theorem inJ7 : ∀ w ∈ wsJ70, w ∈ lw_tbl := by decide +kernel
end
section
set_option maxRecDepth 20000 in
theorem ggX0_init_J7_fill_53178 : GoodIn wsX0_init wsJ7_fill_53178 := goodIn_r _ [20] (by decide +kernel) (by decide +kernel)
set_option maxRecDepth 20000 in
theorem gX0_init_J7_fill_53178 : GoodIn wsX0_init (va_wsS RX0 47 yJ7_fill_53178 wsJ7_fill_53178) := goodIn_app (goodIn_of _ (by decide +kernel)) ggX0_init_J7_fill_53178
theorem dX0_init_0 : decode cX0_init 0 = .ok (.aload_n 0, 1) := by decide +kernel
theorem dX0_init_1 : decode cX0_init 1 = .ok (.invokespecial 1, 3) := by decide +kernel
theorem dX0_init_4 : decode cX0_init 4 = .ok (.aload_n 0, 1) := by decide +kernel
theorem dX0_init_5 : decode cX0_init 5 = .ok (.iconst 4, 1) := by decide +kernel
theorem dX0_init_6 : decode cX0_init 6 = .ok (.putfield 9, 3) := by decide +kernel
theorem dX0_init_9 : decode cX0_init 9 = .ok (.aload_n 0, 1) := by decide +kernel
theorem dX0_init_10 : decode cX0_init 10 = .ok (.iconst 0, 1) := by decide +kernel
theorem dX0_init_11 : decode cX0_init 11 = .ok (.putfield 13, 3) := by decide +kernel
theorem dX0_init_14 : decode cX0_init 14 = .ok (.aload_n 0, 1) := by decide +kernel
theorem dX0_init_15 : decode cX0_init 15 = .ok (.iconst 0, 1) := by decide +kernel
theorem dX0_init_16 : decode cX0_init 16 = .ok (.putfield 16, 3) := by decide +kernel
theorem dX0_init_19 : decode cX0_init 19 = .ok (.aload_n 0, 1) := by decide +kernel
theorem dX0_init_20 : decode cX0_init 20 = .ok (.bipush 6, 2) := by decide +kernel
theorem dX0_init_22 : decode cX0_init 22 = .ok (.newarray .int, 2) := by decide +kernel
theorem dX0_init_24 : decode cX0_init 24 = .ok (.putfield 19, 3) := by decide +kernel
theorem dX0_init_27 : decode cX0_init 27 = .ok (.aload_n 0, 1) := by decide +kernel
theorem dX0_init_28 : decode cX0_init 28 = .ok (.bipush 36, 2) := by decide +kernel
theorem dX0_init_30 : decode cX0_init 30 = .ok (.newarray .int, 2) := by decide +kernel
theorem dX0_init_32 : decode cX0_init 32 = .ok (.putfield 23, 3) := by decide +kernel
theorem dX0_init_35 : decode cX0_init 35 = .ok (.aload_n 0, 1) := by decide +kernel
theorem dX0_init_36 : decode cX0_init 36 = .ok (.bipush 12, 2) := by decide +kernel
theorem dX0_init_38 : decode cX0_init 38 = .ok (.newarray .int, 2) := by decide +kernel
theorem dX0_init_40 : decode cX0_init 40 = .ok (.putfield 26, 3) := by decide +kernel
theorem dX0_init_43 : decode cX0_init 43 = .ok (.aload_n 0, 1) := by decide +kernel
theorem dX0_init_44 : decode cX0_init 44 = .ok (.bipush 12, 2) := by decide +kernel
theorem dX0_init_46 : decode cX0_init 46 = .ok (.newarray .int, 2) := by decide +kernel
theorem dX0_init_48 : decode cX0_init 48 = .ok (.putfield 29, 3) := by decide +kernel
theorem dX0_init_51 : decode cX0_init 51 = .ok (.aload_n 0, 1) := by decide +kernel
theorem dX0_init_52 : decode cX0_init 52 = .ok (.bipush 6, 2) := by decide +kernel
theorem dX0_init_54 : decode cX0_init 54 = .ok (.newarray .int, 2) := by decide +kernel
theorem dX0_init_56 : decode cX0_init 56 = .ok (.putfield 32, 3) := by decide +kernel
theorem dX0_init_59 : decode cX0_init 59 = .ok (.aload_n 0, 1) := by decide +kernel
theorem dX0_init_60 : decode cX0_init 60 = .ok (.sipush 512, 3) := by decide +kernel
theorem dX0_init_63 : decode cX0_init 63 = .ok (.newarray .int, 2) := by decide +kernel
theorem dX0_init_65 : decode cX0_init 65 = .ok (.putfield 35, 3) := by decide +kernel
theorem dX0_init_68 : decode cX0_init 68 = .ok (.aload_n 0, 1) := by decide +kernel
theorem dX0_init_69 : decode cX0_init 69 = .ok (.bipush 6, 2) := by decide +kernel
theorem dX0_init_71 : decode cX0_init 71 = .ok (.newarray .int, 2) := by decide +kernel
theorem dX0_init_73 : decode cX0_init 73 = .ok (.putfield 38, 3) := by decide +kernel
theorem dX0_init_76 : decode cX0_init 76 = .ok (.aload_n 0, 1) := by decide +kernel
theorem dX0_init_77 : decode cX0_init 77 = .ok (.bipush 6, 2) := by decide +kernel
theorem dX0_init_79 : decode cX0_init 79 = .ok (.newarray .int, 2) := by decide +kernel
theorem dX0_init_81 : decode cX0_init 81 = .ok (.putfield 41, 3) := by decide +kernel
theorem dX0_init_84 : decode cX0_init 84 = .ok (.aload_n 0, 1) := by decide +kernel
theorem dX0_init_85 : decode cX0_init 85 = .ok (.bipush 6, 2) := by decide +kernel
theorem dX0_init_87 : decode cX0_init 87 = .ok (.newarray .int, 2) := by decide +kernel
theorem dX0_init_89 : decode cX0_init 89 = .ok (.putfield 44, 3) := by decide +kernel
theorem dX0_init_92 : decode cX0_init 92 = .ok (.aload_n 0, 1) := by decide +kernel
theorem dX0_init_93 : decode cX0_init 93 = .ok (.getfield 29, 3) := by decide +kernel
theorem dX0_init_96 : decode cX0_init 96 = .ok (.iconst 1, 1) := by decide +kernel
theorem dX0_init_97 : decode cX0_init 97 = .ok (.invokestatic 47, 3) := by decide +kernel
theorem dX0_init_100 : decode cX0_init 100 = .ok (.return_, 1) := by decide +kernel
set_option maxRecDepth 20000 in
theorem ggX0_elements_X0_isWithin : GoodIn wsX0_elements wsX0_isWithin := goodIn_r _ [12] (by decide +kernel) (by decide +kernel)
set_option maxRecDepth 20000 in
theorem gX0_elements_X0_isWithin : GoodIn wsX0_elements (va_wsS RX0 53 yX0_isWithin wsX0_isWithin) := goodIn_app (goodIn_of _ (by decide +kernel)) ggX0_elements_X0_isWithin
set_option maxRecDepth 20000 in
theorem ggX0_elements_X0_needArgument : GoodIn wsX0_elements wsX0_needArgument := goodIn_ca (goodIn_r _ [15, 16, 17] (by decide +kernel) (by decide +kernel)) (goodIn_sub (fun _ h => List.mem_cons_of_mem _ (List.mem_append_right _ h)) (by decide +kernel))
set_option maxRecDepth 20000 in
theorem gX0_elements_X0_needArgument : GoodIn wsX0_elements (va_wsS RX0 57 yX0_needArgument wsX0_needArgument) := goodIn_app (goodIn_of _ (by decide +kernel)) ggX0_elements_X0_needArgument
set_option maxRecDepth 20000 in
theorem ggX0_elements_J7_fill_53178 : GoodIn wsX0_elements wsJ7_fill_53178 := goodIn_r _ [21] (by decide +kernel) (by decide +kernel)
set_option maxRecDepth 20000 in
theorem gX0_elements_J7_fill_53178 : GoodIn wsX0_elements (va_wsS RX0 47 yJ7_fill_53178 wsJ7_fill_53178) := goodIn_app (goodIn_of _ (by decide +kernel)) ggX0_elements_J7_fill_53178
theorem dX0_elements_0 : decode cX0_elements 0 = .ok (.iload_n 1, 1) := by decide +kernel
theorem dX0_elements_1 : decode cX0_elements 1 = .ok (.iconst 1, 1) := by decide +kernel
theorem dX0_elements_2 : decode cX0_elements 2 = .ok (.bipush 6, 2) := by decide +kernel
theorem dX0_elements_4 : decode cX0_elements 4 = .ok (.invokestatic 53, 3) := by decide +kernel
theorem dX0_elements_7 : decode cX0_elements 7 = .ok (.invokestatic 57, 3) := by decide +kernel
theorem dX0_elements_10 : decode cX0_elements 10 = .ok (.aload_n 0, 1) := by decide +kernel
theorem dX0_elements_11 : decode cX0_elements 11 = .ok (.getfield 9, 3) := by decide +kernel
theorem dX0_elements_14 : decode cX0_elements 14 = .ok (.istore_n 2, 1) := by decide +kernel
theorem dX0_elements_15 : decode cX0_elements 15 = .ok (.aload_n 0, 1) := by decide +kernel
theorem dX0_elements_16 : decode cX0_elements 16 = .ok (.iload_n 1, 1) := by decide +kernel
theorem dX0_elements_17 : decode cX0_elements 17 = .ok (.putfield 9, 3) := by decide +kernel
theorem dX0_elements_20 : decode cX0_elements 20 = .ok (.aload_n 0, 1) := by decide +kernel
theorem dX0_elements_21 : decode cX0_elements 21 = .ok (.iconst 0, 1) := by decide +kernel
theorem dX0_elements_22 : decode cX0_elements 22 = .ok (.putfield 13, 3) := by decide +kernel
theorem dX0_elements_25 : decode cX0_elements 25 = .ok (.aload_n 0, 1) := by decide +kernel
theorem dX0_elements_26 : decode cX0_elements 26 = .ok (.iconst 0, 1) := by decide +kernel
theorem dX0_elements_27 : decode cX0_elements 27 = .ok (.putfield 16, 3) := by decide +kernel
theorem dX0_elements_30 : decode cX0_elements 30 = .ok (.aload_n 0, 1) := by decide +kernel
theorem dX0_elements_31 : decode cX0_elements 31 = .ok (.getfield 19, 3) := by decide +kernel
theorem dX0_elements_34 : decode cX0_elements 34 = .ok (.iconst 0, 1) := by decide +kernel
theorem dX0_elements_35 : decode cX0_elements 35 = .ok (.invokestatic 47, 3) := by decide +kernel
theorem dX0_elements_38 : decode cX0_elements 38 = .ok (.aload_n 0, 1) := by decide +kernel
theorem dX0_elements_39 : decode cX0_elements 39 = .ok (.getfield 23, 3) := by decide +kernel
theorem dX0_elements_42 : decode cX0_elements 42 = .ok (.iconst 0, 1) := by decide +kernel
theorem dX0_elements_43 : decode cX0_elements 43 = .ok (.invokestatic 47, 3) := by decide +kernel
theorem dX0_elements_46 : decode cX0_elements 46 = .ok (.aload_n 0, 1) := by decide +kernel
theorem dX0_elements_47 : decode cX0_elements 47 = .ok (.getfield 26, 3) := by decide +kernel
theorem dX0_elements_50 : decode cX0_elements 50 = .ok (.iconst 0, 1) := by decide +kernel
theorem dX0_elements_51 : decode cX0_elements 51 = .ok (.invokestatic 47, 3) := by decide +kernel
theorem dX0_elements_54 : decode cX0_elements 54 = .ok (.aload_n 0, 1) := by decide +kernel
theorem dX0_elements_55 : decode cX0_elements 55 = .ok (.getfield 29, 3) := by decide +kernel
theorem dX0_elements_58 : decode cX0_elements 58 = .ok (.iconst 1, 1) := by decide +kernel
theorem dX0_elements_59 : decode cX0_elements 59 = .ok (.invokestatic 47, 3) := by decide +kernel
theorem dX0_elements_62 : decode cX0_elements 62 = .ok (.aload_n 0, 1) := by decide +kernel
theorem dX0_elements_63 : decode cX0_elements 63 = .ok (.getfield 32, 3) := by decide +kernel
theorem dX0_elements_66 : decode cX0_elements 66 = .ok (.iconst 0, 1) := by decide +kernel
theorem dX0_elements_67 : decode cX0_elements 67 = .ok (.invokestatic 47, 3) := by decide +kernel
theorem dX0_elements_70 : decode cX0_elements 70 = .ok (.iload_n 2, 1) := by decide +kernel
theorem dX0_elements_71 : decode cX0_elements 71 = .ok (.ireturn, 1) := by decide +kernel
set_option maxRecDepth 20000 in
theorem ggX0_cover_X0_isElement : GoodIn wsX0_cover wsX0_isElement := goodIn_r _ [6, 7, 31, 32, 33, 34, 35, 36, 37, 38, 39, 40, 41, 42] (by decide +kernel) (by decide +kernel)
set_option maxRecDepth 20000 in
theorem gX0_cover_X0_isElement : GoodIn wsX0_cover (wsV RX0 61 RX0 yX0_isElement wsX0_isElement) := goodIn_app (goodIn_of _ (by decide +kernel)) ggX0_cover_X0_isElement
set_option maxRecDepth 20000 in
theorem ggX0_cover_X0_isWithin : GoodIn wsX0_cover wsX0_isWithin := goodIn_r _ [10] (by decide +kernel) (by decide +kernel)
set_option maxRecDepth 20000 in
theorem gX0_cover_X0_isWithin : GoodIn wsX0_cover (va_wsS RX0 53 yX0_isWithin wsX0_isWithin) := goodIn_app (goodIn_of _ (by decide +kernel)) ggX0_cover_X0_isWithin
set_option maxRecDepth 20000 in
theorem ggX0_cover_X0_needIndex : GoodIn wsX0_cover wsX0_needIndex := goodIn_ca (goodIn_r _ [13, 14, 15] (by decide +kernel) (by decide +kernel)) (goodIn_sub (fun _ h => List.mem_cons_of_mem _ (List.mem_append_right _ h)) (by decide +kernel))
set_option maxRecDepth 20000 in
theorem gX0_cover_X0_needIndex : GoodIn wsX0_cover (va_wsS RX0 65 yX0_needIndex wsX0_needIndex) := goodIn_app (goodIn_of _ (by decide +kernel)) ggX0_cover_X0_needIndex
set_option maxRecDepth 20000 in
theorem ggX0_cover_X0_at : GoodIn wsX0_cover wsX0_at := goodIn_r _ [18] (by decide +kernel) (by decide +kernel)
set_option maxRecDepth 20000 in
theorem gX0_cover_X0_at : GoodIn wsX0_cover (va_wsS RX0 68 yX0_at wsX0_at) := goodIn_app (goodIn_of _ (by decide +kernel)) ggX0_cover_X0_at
set_option maxRecDepth 20000 in
theorem ggX0_cover_X0_with : GoodIn wsX0_cover wsX0_with := goodIn_r _ [21] (by decide +kernel) (by decide +kernel)
set_option maxRecDepth 20000 in
theorem gX0_cover_X0_with : GoodIn wsX0_cover (va_wsS RX0 72 yX0_with wsX0_with) := goodIn_app (goodIn_of _ (by decide +kernel)) ggX0_cover_X0_with
set_option maxRecDepth 20000 in
theorem ggX0_cover_X0_without : GoodIn wsX0_cover wsX0_without := goodIn_r _ [24] (by decide +kernel) (by decide +kernel)
set_option maxRecDepth 20000 in
theorem gX0_cover_X0_without : GoodIn wsX0_cover (va_wsS RX0 76 yX0_without wsX0_without) := goodIn_app (goodIn_of _ (by decide +kernel)) ggX0_cover_X0_without
set_option maxRecDepth 20000 in
theorem ggX0_cover_X0_put : GoodIn wsX0_cover wsX0_put := goodIn_r _ [27] (by decide +kernel) (by decide +kernel)
set_option maxRecDepth 20000 in
theorem gX0_cover_X0_put : GoodIn wsX0_cover (va_wsS RX0 79 yX0_put wsX0_put) := goodIn_app (goodIn_of _ (by decide +kernel)) ggX0_cover_X0_put
set_option maxRecDepth 20000 in
theorem ggX0_cover_X0_has : GoodIn wsX0_cover wsX0_has := goodIn_r _ [30] (by decide +kernel) (by decide +kernel)
set_option maxRecDepth 20000 in
theorem gX0_cover_X0_has : GoodIn wsX0_cover (va_wsS RX0 83 yX0_has wsX0_has) := goodIn_app (goodIn_of _ (by decide +kernel)) ggX0_cover_X0_has
theorem dX0_cover_0 : decode cX0_cover 0 = .ok (.aload_n 0, 1) := by decide +kernel
theorem dX0_cover_1 : decode cX0_cover 1 = .ok (.iload_n 1, 1) := by decide +kernel
theorem dX0_cover_2 : decode cX0_cover 2 = .ok (.invokevirtual 61, 3) := by decide +kernel
theorem dX0_cover_5 : decode cX0_cover 5 = .ok (.ifCond .eq 17, 3) := by decide +kernel
theorem dX0_cover_8 : decode cX0_cover 8 = .ok (.iload_n 2, 1) := by decide +kernel
theorem dX0_cover_9 : decode cX0_cover 9 = .ok (.iconst 0, 1) := by decide +kernel
theorem dX0_cover_10 : decode cX0_cover 10 = .ok (.bipush 9, 2) := by decide +kernel
theorem dX0_cover_12 : decode cX0_cover 12 = .ok (.invokestatic 53, 3) := by decide +kernel
theorem dX0_cover_15 : decode cX0_cover 15 = .ok (.ifCond .eq 7, 3) := by decide +kernel
theorem dX0_cover_18 : decode cX0_cover 18 = .ok (.iconst 1, 1) := by decide +kernel
theorem dX0_cover_19 : decode cX0_cover 19 = .ok (.goto 4, 3) := by decide +kernel
theorem dX0_cover_22 : decode cX0_cover 22 = .ok (.iconst 0, 1) := by decide +kernel
theorem dX0_cover_23 : decode cX0_cover 23 = .ok (.invokestatic 65, 3) := by decide +kernel
theorem dX0_cover_26 : decode cX0_cover 26 = .ok (.aload_n 0, 1) := by decide +kernel
theorem dX0_cover_27 : decode cX0_cover 27 = .ok (.getfield 19, 3) := by decide +kernel
theorem dX0_cover_30 : decode cX0_cover 30 = .ok (.iload_n 1, 1) := by decide +kernel
theorem dX0_cover_31 : decode cX0_cover 31 = .ok (.invokestatic 68, 3) := by decide +kernel
theorem dX0_cover_34 : decode cX0_cover 34 = .ok (.istore 4, 2) := by decide +kernel
theorem dX0_cover_36 : decode cX0_cover 36 = .ok (.aload_n 0, 1) := by decide +kernel
theorem dX0_cover_37 : decode cX0_cover 37 = .ok (.getfield 19, 3) := by decide +kernel
theorem dX0_cover_40 : decode cX0_cover 40 = .ok (.iload_n 1, 1) := by decide +kernel
theorem dX0_cover_41 : decode cX0_cover 41 = .ok (.iload_n 3, 1) := by decide +kernel
theorem dX0_cover_42 : decode cX0_cover 42 = .ok (.ifCond .eq 12, 3) := by decide +kernel
theorem dX0_cover_45 : decode cX0_cover 45 = .ok (.iload 4, 2) := by decide +kernel
theorem dX0_cover_47 : decode cX0_cover 47 = .ok (.iload_n 2, 1) := by decide +kernel
theorem dX0_cover_48 : decode cX0_cover 48 = .ok (.invokestatic 72, 3) := by decide +kernel
theorem dX0_cover_51 : decode cX0_cover 51 = .ok (.goto 9, 3) := by decide +kernel
theorem dX0_cover_54 : decode cX0_cover 54 = .ok (.iload 4, 2) := by decide +kernel
theorem dX0_cover_56 : decode cX0_cover 56 = .ok (.iload_n 2, 1) := by decide +kernel
theorem dX0_cover_57 : decode cX0_cover 57 = .ok (.invokestatic 76, 3) := by decide +kernel
theorem dX0_cover_60 : decode cX0_cover 60 = .ok (.invokestatic 79, 3) := by decide +kernel
theorem dX0_cover_63 : decode cX0_cover 63 = .ok (.iload 4, 2) := by decide +kernel
theorem dX0_cover_65 : decode cX0_cover 65 = .ok (.iload_n 2, 1) := by decide +kernel
theorem dX0_cover_66 : decode cX0_cover 66 = .ok (.invokestatic 83, 3) := by decide +kernel
theorem dX0_cover_69 : decode cX0_cover 69 = .ok (.ireturn, 1) := by decide +kernel
set_option maxRecDepth 20000 in
theorem ggX0_edge_X0_isElement : GoodIn wsX0_edge wsX0_isElement := goodIn_r _ [6, 7, 31, 32, 33, 34, 35, 36, 37, 38, 39, 40, 41, 42] (by decide +kernel) (by decide +kernel)
set_option maxRecDepth 20000 in
theorem gX0_edge_X0_isElement : GoodIn wsX0_edge (wsV RX0 61 RX0 yX0_isElement wsX0_isElement) := goodIn_app (goodIn_of _ (by decide +kernel)) ggX0_edge_X0_isElement
set_option maxRecDepth 20000 in
theorem ggX0_edge_X0_needIndex : GoodIn wsX0_edge wsX0_needIndex := goodIn_ca (goodIn_r _ [10, 11, 12] (by decide +kernel) (by decide +kernel)) (goodIn_sub (fun _ h => List.mem_cons_of_mem _ (List.mem_append_left _ (List.mem_append_right _ h))) (by decide +kernel))
set_option maxRecDepth 20000 in
theorem gX0_edge_X0_needIndex : GoodIn wsX0_edge (va_wsS RX0 65 yX0_needIndex wsX0_needIndex) := goodIn_app (goodIn_of _ (by decide +kernel)) ggX0_edge_X0_needIndex
set_option maxRecDepth 20000 in
theorem ggX0_edge_X0_isWithin : GoodIn wsX0_edge wsX0_isWithin := goodIn_r _ [15] (by decide +kernel) (by decide +kernel)
set_option maxRecDepth 20000 in
theorem gX0_edge_X0_isWithin : GoodIn wsX0_edge (va_wsS RX0 53 yX0_isWithin wsX0_isWithin) := goodIn_app (goodIn_of _ (by decide +kernel)) ggX0_edge_X0_isWithin
set_option maxRecDepth 20000 in
theorem ggX0_edge_X0_needArgument : GoodIn wsX0_edge wsX0_needArgument := goodIn_ca (goodIn_r _ [18, 19, 20] (by decide +kernel) (by decide +kernel)) (goodIn_sub (fun _ h => List.mem_cons_of_mem _ (List.mem_append_right _ h)) (by decide +kernel))
set_option maxRecDepth 20000 in
theorem gX0_edge_X0_needArgument : GoodIn wsX0_edge (va_wsS RX0 57 yX0_needArgument wsX0_needArgument) := goodIn_app (goodIn_of _ (by decide +kernel)) ggX0_edge_X0_needArgument
set_option maxRecDepth 20000 in
theorem ggX0_edge_X0_edgeWeight : GoodIn wsX0_edge wsX0_edgeWeight := goodIn_r _ [24, 1, 25, 26, 5, 27, 31, 32, 33, 34, 35, 36, 37, 38, 39, 40, 41, 42] (by decide +kernel) (by decide +kernel)
set_option maxRecDepth 20000 in
theorem gX0_edge_X0_edgeWeight : GoodIn wsX0_edge (wsV RX0 87 RX0 yX0_edgeWeight wsX0_edgeWeight) := goodIn_app (goodIn_of _ (by decide +kernel)) ggX0_edge_X0_edgeWeight
set_option maxRecDepth 20000 in
theorem ggX0_edge_X0_put : GoodIn wsX0_edge wsX0_put := goodIn_r _ [30] (by decide +kernel) (by decide +kernel)
set_option maxRecDepth 20000 in
theorem gX0_edge_X0_put : GoodIn wsX0_edge (va_wsS RX0 79 yX0_put wsX0_put) := goodIn_app (goodIn_of _ (by decide +kernel)) ggX0_edge_X0_put
theorem dX0_edge_0 : decode cX0_edge 0 = .ok (.aload_n 0, 1) := by decide +kernel
theorem dX0_edge_1 : decode cX0_edge 1 = .ok (.iload_n 1, 1) := by decide +kernel
theorem dX0_edge_2 : decode cX0_edge 2 = .ok (.invokevirtual 61, 3) := by decide +kernel
theorem dX0_edge_5 : decode cX0_edge 5 = .ok (.ifCond .eq 15, 3) := by decide +kernel
theorem dX0_edge_8 : decode cX0_edge 8 = .ok (.aload_n 0, 1) := by decide +kernel
theorem dX0_edge_9 : decode cX0_edge 9 = .ok (.iload_n 2, 1) := by decide +kernel
theorem dX0_edge_10 : decode cX0_edge 10 = .ok (.invokevirtual 61, 3) := by decide +kernel
theorem dX0_edge_13 : decode cX0_edge 13 = .ok (.ifCond .eq 7, 3) := by decide +kernel
theorem dX0_edge_16 : decode cX0_edge 16 = .ok (.iconst 1, 1) := by decide +kernel
theorem dX0_edge_17 : decode cX0_edge 17 = .ok (.goto 4, 3) := by decide +kernel
theorem dX0_edge_20 : decode cX0_edge 20 = .ok (.iconst 0, 1) := by decide +kernel
theorem dX0_edge_21 : decode cX0_edge 21 = .ok (.invokestatic 65, 3) := by decide +kernel
theorem dX0_edge_24 : decode cX0_edge 24 = .ok (.iload_n 1, 1) := by decide +kernel
theorem dX0_edge_25 : decode cX0_edge 25 = .ok (.iload_n 2, 1) := by decide +kernel
theorem dX0_edge_26 : decode cX0_edge 26 = .ok (.if_icmp .eq 17, 3) := by decide +kernel
theorem dX0_edge_29 : decode cX0_edge 29 = .ok (.iload_n 3, 1) := by decide +kernel
theorem dX0_edge_30 : decode cX0_edge 30 = .ok (.iconst 0, 1) := by decide +kernel
theorem dX0_edge_31 : decode cX0_edge 31 = .ok (.bipush 20, 2) := by decide +kernel
theorem dX0_edge_33 : decode cX0_edge 33 = .ok (.invokestatic 53, 3) := by decide +kernel
theorem dX0_edge_36 : decode cX0_edge 36 = .ok (.ifCond .eq 7, 3) := by decide +kernel
theorem dX0_edge_39 : decode cX0_edge 39 = .ok (.iconst 1, 1) := by decide +kernel
theorem dX0_edge_40 : decode cX0_edge 40 = .ok (.goto 4, 3) := by decide +kernel
theorem dX0_edge_43 : decode cX0_edge 43 = .ok (.iconst 0, 1) := by decide +kernel
theorem dX0_edge_44 : decode cX0_edge 44 = .ok (.invokestatic 57, 3) := by decide +kernel
theorem dX0_edge_47 : decode cX0_edge 47 = .ok (.aload_n 0, 1) := by decide +kernel
theorem dX0_edge_48 : decode cX0_edge 48 = .ok (.iload_n 1, 1) := by decide +kernel
theorem dX0_edge_49 : decode cX0_edge 49 = .ok (.iload_n 2, 1) := by decide +kernel
theorem dX0_edge_50 : decode cX0_edge 50 = .ok (.invokevirtual 87, 3) := by decide +kernel
theorem dX0_edge_53 : decode cX0_edge 53 = .ok (.istore 4, 2) := by decide +kernel
theorem dX0_edge_55 : decode cX0_edge 55 = .ok (.aload_n 0, 1) := by decide +kernel
theorem dX0_edge_56 : decode cX0_edge 56 = .ok (.getfield 23, 3) := by decide +kernel
theorem dX0_edge_59 : decode cX0_edge 59 = .ok (.iload_n 1, 1) := by decide +kernel
theorem dX0_edge_60 : decode cX0_edge 60 = .ok (.bipush 6, 2) := by decide +kernel
theorem dX0_edge_62 : decode cX0_edge 62 = .ok (.imul, 1) := by decide +kernel
theorem dX0_edge_63 : decode cX0_edge 63 = .ok (.iload_n 2, 1) := by decide +kernel
theorem dX0_edge_64 : decode cX0_edge 64 = .ok (.iadd, 1) := by decide +kernel
theorem dX0_edge_65 : decode cX0_edge 65 = .ok (.iload_n 3, 1) := by decide +kernel
theorem dX0_edge_66 : decode cX0_edge 66 = .ok (.invokestatic 79, 3) := by decide +kernel
theorem dX0_edge_69 : decode cX0_edge 69 = .ok (.aload_n 0, 1) := by decide +kernel
theorem dX0_edge_70 : decode cX0_edge 70 = .ok (.getfield 23, 3) := by decide +kernel
theorem dX0_edge_73 : decode cX0_edge 73 = .ok (.iload_n 2, 1) := by decide +kernel
theorem dX0_edge_74 : decode cX0_edge 74 = .ok (.bipush 6, 2) := by decide +kernel
theorem dX0_edge_76 : decode cX0_edge 76 = .ok (.imul, 1) := by decide +kernel
theorem dX0_edge_77 : decode cX0_edge 77 = .ok (.iload_n 1, 1) := by decide +kernel
theorem dX0_edge_78 : decode cX0_edge 78 = .ok (.iadd, 1) := by decide +kernel
theorem dX0_edge_79 : decode cX0_edge 79 = .ok (.iload_n 3, 1) := by decide +kernel
theorem dX0_edge_80 : decode cX0_edge 80 = .ok (.invokestatic 79, 3) := by decide +kernel
theorem dX0_edge_83 : decode cX0_edge 83 = .ok (.iload 4, 2) := by decide +kernel
theorem dX0_edge_85 : decode cX0_edge 85 = .ok (.ireturn, 1) := by decide +kernel
set_option maxRecDepth 20000 in
theorem ggX0_colour_X0_isFamily : GoodIn wsX0_colour wsX0_isFamily := goodIn_r _ [5] (by decide +kernel) (by decide +kernel)
set_option maxRecDepth 20000 in
theorem gX0_colour_X0_isFamily : GoodIn wsX0_colour (va_wsS RX0 90 yX0_isFamily wsX0_isFamily) := goodIn_app (goodIn_of _ (by decide +kernel)) ggX0_colour_X0_isFamily
set_option maxRecDepth 20000 in
theorem ggX0_colour_X0_isElement : GoodIn wsX0_colour wsX0_isElement := goodIn_r _ [9, 10, 29, 30, 31, 32, 33, 34, 35, 36, 37, 38, 39, 40] (by decide +kernel) (by decide +kernel)
set_option maxRecDepth 20000 in
theorem gX0_colour_X0_isElement : GoodIn wsX0_colour (wsV RX0 61 RX0 yX0_isElement wsX0_isElement) := goodIn_app (goodIn_of _ (by decide +kernel)) ggX0_colour_X0_isElement
set_option maxRecDepth 20000 in
theorem ggX0_colour_X0_isColour : GoodIn wsX0_colour wsX0_isColour := goodIn_r _ [13] (by decide +kernel) (by decide +kernel)
set_option maxRecDepth 20000 in
theorem gX0_colour_X0_isColour : GoodIn wsX0_colour (va_wsS RX0 93 yX0_isColour wsX0_isColour) := goodIn_app (goodIn_of _ (by decide +kernel)) ggX0_colour_X0_isColour
set_option maxRecDepth 20000 in
theorem ggX0_colour_X0_needIndex : GoodIn wsX0_colour wsX0_needIndex := goodIn_ca (goodIn_r _ [16, 17, 18] (by decide +kernel) (by decide +kernel)) (goodIn_sub (fun _ h => List.mem_cons_of_mem _ (List.mem_append_right _ h)) (by decide +kernel))
set_option maxRecDepth 20000 in
theorem gX0_colour_X0_needIndex : GoodIn wsX0_colour (va_wsS RX0 65 yX0_needIndex wsX0_needIndex) := goodIn_app (goodIn_of _ (by decide +kernel)) ggX0_colour_X0_needIndex
set_option maxRecDepth 20000 in
theorem ggX0_colour_X0_colourOf : GoodIn wsX0_colour wsX0_colourOf := goodIn_r _ [22, 1, 23, 24, 4, 25, 29, 30, 31, 32, 33, 34, 35, 36, 37, 38, 39, 40] (by decide +kernel) (by decide +kernel)
set_option maxRecDepth 20000 in
theorem gX0_colour_X0_colourOf : GoodIn wsX0_colour (wsV RX0 96 RX0 yX0_colourOf wsX0_colourOf) := goodIn_app (goodIn_of _ (by decide +kernel)) ggX0_colour_X0_colourOf
set_option maxRecDepth 20000 in
theorem ggX0_colour_X0_put : GoodIn wsX0_colour wsX0_put := goodIn_r _ [28] (by decide +kernel) (by decide +kernel)
set_option maxRecDepth 20000 in
theorem gX0_colour_X0_put : GoodIn wsX0_colour (va_wsS RX0 79 yX0_put wsX0_put) := goodIn_app (goodIn_of _ (by decide +kernel)) ggX0_colour_X0_put
theorem dX0_colour_0 : decode cX0_colour 0 = .ok (.iload_n 1, 1) := by decide +kernel
theorem dX0_colour_1 : decode cX0_colour 1 = .ok (.invokestatic 90, 3) := by decide +kernel
theorem dX0_colour_4 : decode cX0_colour 4 = .ok (.ifCond .eq 22, 3) := by decide +kernel
theorem dX0_colour_7 : decode cX0_colour 7 = .ok (.aload_n 0, 1) := by decide +kernel
theorem dX0_colour_8 : decode cX0_colour 8 = .ok (.iload_n 2, 1) := by decide +kernel
theorem dX0_colour_9 : decode cX0_colour 9 = .ok (.invokevirtual 61, 3) := by decide +kernel
theorem dX0_colour_12 : decode cX0_colour 12 = .ok (.ifCond .eq 14, 3) := by decide +kernel
theorem dX0_colour_15 : decode cX0_colour 15 = .ok (.iload_n 3, 1) := by decide +kernel
theorem dX0_colour_16 : decode cX0_colour 16 = .ok (.invokestatic 93, 3) := by decide +kernel
theorem dX0_colour_19 : decode cX0_colour 19 = .ok (.ifCond .eq 7, 3) := by decide +kernel
theorem dX0_colour_22 : decode cX0_colour 22 = .ok (.iconst 1, 1) := by decide +kernel
theorem dX0_colour_23 : decode cX0_colour 23 = .ok (.goto 4, 3) := by decide +kernel
theorem dX0_colour_26 : decode cX0_colour 26 = .ok (.iconst 0, 1) := by decide +kernel
theorem dX0_colour_27 : decode cX0_colour 27 = .ok (.invokestatic 65, 3) := by decide +kernel
theorem dX0_colour_30 : decode cX0_colour 30 = .ok (.aload_n 0, 1) := by decide +kernel
theorem dX0_colour_31 : decode cX0_colour 31 = .ok (.iload_n 1, 1) := by decide +kernel
theorem dX0_colour_32 : decode cX0_colour 32 = .ok (.iload_n 2, 1) := by decide +kernel
theorem dX0_colour_33 : decode cX0_colour 33 = .ok (.invokevirtual 96, 3) := by decide +kernel
theorem dX0_colour_36 : decode cX0_colour 36 = .ok (.istore 4, 2) := by decide +kernel
theorem dX0_colour_38 : decode cX0_colour 38 = .ok (.aload_n 0, 1) := by decide +kernel
theorem dX0_colour_39 : decode cX0_colour 39 = .ok (.getfield 26, 3) := by decide +kernel
theorem dX0_colour_42 : decode cX0_colour 42 = .ok (.iload_n 1, 1) := by decide +kernel
theorem dX0_colour_43 : decode cX0_colour 43 = .ok (.bipush 6, 2) := by decide +kernel
theorem dX0_colour_45 : decode cX0_colour 45 = .ok (.imul, 1) := by decide +kernel
theorem dX0_colour_46 : decode cX0_colour 46 = .ok (.iload_n 2, 1) := by decide +kernel
theorem dX0_colour_47 : decode cX0_colour 47 = .ok (.iadd, 1) := by decide +kernel
theorem dX0_colour_48 : decode cX0_colour 48 = .ok (.iload_n 3, 1) := by decide +kernel
theorem dX0_colour_49 : decode cX0_colour 49 = .ok (.invokestatic 79, 3) := by decide +kernel
theorem dX0_colour_52 : decode cX0_colour 52 = .ok (.iload 4, 2) := by decide +kernel
theorem dX0_colour_54 : decode cX0_colour 54 = .ok (.ireturn, 1) := by decide +kernel
set_option maxRecDepth 20000 in
theorem ggX0_room_X0_isFamily : GoodIn wsX0_room wsX0_isFamily := goodIn_r _ [5] (by decide +kernel) (by decide +kernel)
set_option maxRecDepth 20000 in
theorem gX0_room_X0_isFamily : GoodIn wsX0_room (va_wsS RX0 90 yX0_isFamily wsX0_isFamily) := goodIn_app (goodIn_of _ (by decide +kernel)) ggX0_room_X0_isFamily
set_option maxRecDepth 20000 in
theorem ggX0_room_X0_isColour : GoodIn wsX0_room wsX0_isColour := goodIn_r _ [8] (by decide +kernel) (by decide +kernel)
set_option maxRecDepth 20000 in
theorem gX0_room_X0_isColour : GoodIn wsX0_room (va_wsS RX0 93 yX0_isColour wsX0_isColour) := goodIn_app (goodIn_of _ (by decide +kernel)) ggX0_room_X0_isColour
set_option maxRecDepth 20000 in
theorem ggX0_room_X0_needIndex : GoodIn wsX0_room wsX0_needIndex := goodIn_ca (goodIn_r _ [11, 12, 13] (by decide +kernel) (by decide +kernel)) (goodIn_sub (fun _ h => List.mem_cons_of_mem _ (List.mem_append_left _ (List.mem_append_right _ h))) (by decide +kernel))
set_option maxRecDepth 20000 in
theorem gX0_room_X0_needIndex : GoodIn wsX0_room (va_wsS RX0 65 yX0_needIndex wsX0_needIndex) := goodIn_app (goodIn_of _ (by decide +kernel)) ggX0_room_X0_needIndex
set_option maxRecDepth 20000 in
theorem ggX0_room_X0_isWithin : GoodIn wsX0_room wsX0_isWithin := goodIn_r _ [16] (by decide +kernel) (by decide +kernel)
set_option maxRecDepth 20000 in
theorem gX0_room_X0_isWithin : GoodIn wsX0_room (va_wsS RX0 53 yX0_isWithin wsX0_isWithin) := goodIn_app (goodIn_of _ (by decide +kernel)) ggX0_room_X0_isWithin
set_option maxRecDepth 20000 in
theorem ggX0_room_X0_needArgument : GoodIn wsX0_room wsX0_needArgument := goodIn_ca (goodIn_r _ [19, 20, 21] (by decide +kernel) (by decide +kernel)) (goodIn_sub (fun _ h => List.mem_cons_of_mem _ (List.mem_append_right _ h)) (by decide +kernel))
set_option maxRecDepth 20000 in
theorem gX0_room_X0_needArgument : GoodIn wsX0_room (va_wsS RX0 57 yX0_needArgument wsX0_needArgument) := goodIn_app (goodIn_of _ (by decide +kernel)) ggX0_room_X0_needArgument
set_option maxRecDepth 20000 in
theorem ggX0_room_X0_roomOf : GoodIn wsX0_room wsX0_roomOf := goodIn_r _ [25, 1, 26, 27, 4, 28, 32, 33, 34, 35, 36, 37, 38, 39, 40, 41, 42, 43] (by decide +kernel) (by decide +kernel)
set_option maxRecDepth 20000 in
theorem gX0_room_X0_roomOf : GoodIn wsX0_room (wsV RX0 99 RX0 yX0_roomOf wsX0_roomOf) := goodIn_app (goodIn_of _ (by decide +kernel)) ggX0_room_X0_roomOf
set_option maxRecDepth 20000 in
theorem ggX0_room_X0_put : GoodIn wsX0_room wsX0_put := goodIn_r _ [31] (by decide +kernel) (by decide +kernel)
set_option maxRecDepth 20000 in
theorem gX0_room_X0_put : GoodIn wsX0_room (va_wsS RX0 79 yX0_put wsX0_put) := goodIn_app (goodIn_of _ (by decide +kernel)) ggX0_room_X0_put
theorem dX0_room_0 : decode cX0_room 0 = .ok (.iload_n 1, 1) := by decide +kernel
theorem dX0_room_1 : decode cX0_room 1 = .ok (.invokestatic 90, 3) := by decide +kernel
theorem dX0_room_4 : decode cX0_room 4 = .ok (.ifCond .eq 14, 3) := by decide +kernel
theorem dX0_room_7 : decode cX0_room 7 = .ok (.iload_n 2, 1) := by decide +kernel
theorem dX0_room_8 : decode cX0_room 8 = .ok (.invokestatic 93, 3) := by decide +kernel
theorem dX0_room_11 : decode cX0_room 11 = .ok (.ifCond .eq 7, 3) := by decide +kernel
theorem dX0_room_14 : decode cX0_room 14 = .ok (.iconst 1, 1) := by decide +kernel
theorem dX0_room_15 : decode cX0_room 15 = .ok (.goto 4, 3) := by decide +kernel
theorem dX0_room_18 : decode cX0_room 18 = .ok (.iconst 0, 1) := by decide +kernel
theorem dX0_room_19 : decode cX0_room 19 = .ok (.invokestatic 65, 3) := by decide +kernel
theorem dX0_room_22 : decode cX0_room 22 = .ok (.iload_n 3, 1) := by decide +kernel
theorem dX0_room_23 : decode cX0_room 23 = .ok (.iconst 0, 1) := by decide +kernel
theorem dX0_room_24 : decode cX0_room 24 = .ok (.bipush 6, 2) := by decide +kernel
theorem dX0_room_26 : decode cX0_room 26 = .ok (.invokestatic 53, 3) := by decide +kernel
theorem dX0_room_29 : decode cX0_room 29 = .ok (.invokestatic 57, 3) := by decide +kernel
theorem dX0_room_32 : decode cX0_room 32 = .ok (.aload_n 0, 1) := by decide +kernel
theorem dX0_room_33 : decode cX0_room 33 = .ok (.iload_n 1, 1) := by decide +kernel
theorem dX0_room_34 : decode cX0_room 34 = .ok (.iload_n 2, 1) := by decide +kernel
theorem dX0_room_35 : decode cX0_room 35 = .ok (.invokevirtual 99, 3) := by decide +kernel
theorem dX0_room_38 : decode cX0_room 38 = .ok (.istore 4, 2) := by decide +kernel
theorem dX0_room_40 : decode cX0_room 40 = .ok (.aload_n 0, 1) := by decide +kernel
theorem dX0_room_41 : decode cX0_room 41 = .ok (.getfield 29, 3) := by decide +kernel
theorem dX0_room_44 : decode cX0_room 44 = .ok (.iload_n 1, 1) := by decide +kernel
theorem dX0_room_45 : decode cX0_room 45 = .ok (.bipush 6, 2) := by decide +kernel
theorem dX0_room_47 : decode cX0_room 47 = .ok (.imul, 1) := by decide +kernel
theorem dX0_room_48 : decode cX0_room 48 = .ok (.iload_n 2, 1) := by decide +kernel
theorem dX0_room_49 : decode cX0_room 49 = .ok (.iadd, 1) := by decide +kernel
theorem dX0_room_50 : decode cX0_room 50 = .ok (.iload_n 3, 1) := by decide +kernel
theorem dX0_room_51 : decode cX0_room 51 = .ok (.invokestatic 79, 3) := by decide +kernel
theorem dX0_room_54 : decode cX0_room 54 = .ok (.iload 4, 2) := by decide +kernel
theorem dX0_room_56 : decode cX0_room 56 = .ok (.ireturn, 1) := by decide +kernel
set_option maxRecDepth 20000 in
theorem ggX0_weigh_X0_isElement : GoodIn wsX0_weigh wsX0_isElement := goodIn_r _ [6, 7, 27, 28, 29, 30, 31, 32, 33, 34, 35, 36, 37, 38] (by decide +kernel) (by decide +kernel)
set_option maxRecDepth 20000 in
theorem gX0_weigh_X0_isElement : GoodIn wsX0_weigh (wsV RX0 61 RX0 yX0_isElement wsX0_isElement) := goodIn_app (goodIn_of _ (by decide +kernel)) ggX0_weigh_X0_isElement
set_option maxRecDepth 20000 in
theorem ggX0_weigh_X0_needIndex : GoodIn wsX0_weigh wsX0_needIndex := goodIn_ca (goodIn_r _ [10, 11, 12] (by decide +kernel) (by decide +kernel)) (goodIn_sub (fun _ h => List.mem_cons_of_mem _ (List.mem_append_left _ (List.mem_append_right _ h))) (by decide +kernel))
set_option maxRecDepth 20000 in
theorem gX0_weigh_X0_needIndex : GoodIn wsX0_weigh (va_wsS RX0 65 yX0_needIndex wsX0_needIndex) := goodIn_app (goodIn_of _ (by decide +kernel)) ggX0_weigh_X0_needIndex
set_option maxRecDepth 20000 in
theorem ggX0_weigh_X0_isWithin : GoodIn wsX0_weigh wsX0_isWithin := goodIn_r _ [15] (by decide +kernel) (by decide +kernel)
set_option maxRecDepth 20000 in
theorem gX0_weigh_X0_isWithin : GoodIn wsX0_weigh (va_wsS RX0 53 yX0_isWithin wsX0_isWithin) := goodIn_app (goodIn_of _ (by decide +kernel)) ggX0_weigh_X0_isWithin
set_option maxRecDepth 20000 in
theorem ggX0_weigh_X0_needArgument : GoodIn wsX0_weigh wsX0_needArgument := goodIn_ca (goodIn_r _ [18, 19, 20] (by decide +kernel) (by decide +kernel)) (goodIn_sub (fun _ h => List.mem_cons_of_mem _ (List.mem_append_right _ h)) (by decide +kernel))
set_option maxRecDepth 20000 in
theorem gX0_weigh_X0_needArgument : GoodIn wsX0_weigh (va_wsS RX0 57 yX0_needArgument wsX0_needArgument) := goodIn_app (goodIn_of _ (by decide +kernel)) ggX0_weigh_X0_needArgument
set_option maxRecDepth 20000 in
theorem ggX0_weigh_X0_at : GoodIn wsX0_weigh wsX0_at := goodIn_r _ [23] (by decide +kernel) (by decide +kernel)
set_option maxRecDepth 20000 in
theorem gX0_weigh_X0_at : GoodIn wsX0_weigh (va_wsS RX0 68 yX0_at wsX0_at) := goodIn_app (goodIn_of _ (by decide +kernel)) ggX0_weigh_X0_at
set_option maxRecDepth 20000 in
theorem ggX0_weigh_X0_put : GoodIn wsX0_weigh wsX0_put := goodIn_r _ [26] (by decide +kernel) (by decide +kernel)
set_option maxRecDepth 20000 in
theorem gX0_weigh_X0_put : GoodIn wsX0_weigh (va_wsS RX0 79 yX0_put wsX0_put) := goodIn_app (goodIn_of _ (by decide +kernel)) ggX0_weigh_X0_put
theorem dX0_weigh_0 : decode cX0_weigh 0 = .ok (.aload_n 0, 1) := by decide +kernel
theorem dX0_weigh_1 : decode cX0_weigh 1 = .ok (.iload_n 1, 1) := by decide +kernel
theorem dX0_weigh_2 : decode cX0_weigh 2 = .ok (.invokevirtual 61, 3) := by decide +kernel
theorem dX0_weigh_5 : decode cX0_weigh 5 = .ok (.invokestatic 65, 3) := by decide +kernel
theorem dX0_weigh_8 : decode cX0_weigh 8 = .ok (.iload_n 2, 1) := by decide +kernel
theorem dX0_weigh_9 : decode cX0_weigh 9 = .ok (.bipush (-20), 2) := by decide +kernel
theorem dX0_weigh_11 : decode cX0_weigh 11 = .ok (.bipush 20, 2) := by decide +kernel
theorem dX0_weigh_13 : decode cX0_weigh 13 = .ok (.invokestatic 53, 3) := by decide +kernel
theorem dX0_weigh_16 : decode cX0_weigh 16 = .ok (.invokestatic 57, 3) := by decide +kernel
theorem dX0_weigh_19 : decode cX0_weigh 19 = .ok (.aload_n 0, 1) := by decide +kernel
theorem dX0_weigh_20 : decode cX0_weigh 20 = .ok (.getfield 32, 3) := by decide +kernel
theorem dX0_weigh_23 : decode cX0_weigh 23 = .ok (.iload_n 1, 1) := by decide +kernel
theorem dX0_weigh_24 : decode cX0_weigh 24 = .ok (.invokestatic 68, 3) := by decide +kernel
theorem dX0_weigh_27 : decode cX0_weigh 27 = .ok (.istore_n 3, 1) := by decide +kernel
theorem dX0_weigh_28 : decode cX0_weigh 28 = .ok (.aload_n 0, 1) := by decide +kernel
theorem dX0_weigh_29 : decode cX0_weigh 29 = .ok (.getfield 32, 3) := by decide +kernel
theorem dX0_weigh_32 : decode cX0_weigh 32 = .ok (.iload_n 1, 1) := by decide +kernel
theorem dX0_weigh_33 : decode cX0_weigh 33 = .ok (.iload_n 2, 1) := by decide +kernel
theorem dX0_weigh_34 : decode cX0_weigh 34 = .ok (.invokestatic 79, 3) := by decide +kernel
theorem dX0_weigh_37 : decode cX0_weigh 37 = .ok (.iload_n 3, 1) := by decide +kernel
theorem dX0_weigh_38 : decode cX0_weigh 38 = .ok (.ireturn, 1) := by decide +kernel
set_option maxRecDepth 20000 in
theorem ggX0_make_X0_isWithin : GoodIn wsX0_make wsX0_isWithin := goodIn_r _ [4] (by decide +kernel) (by decide +kernel)
set_option maxRecDepth 20000 in
theorem gX0_make_X0_isWithin : GoodIn wsX0_make (va_wsS RX0 53 yX0_isWithin wsX0_isWithin) := goodIn_app (goodIn_of _ (by decide +kernel)) ggX0_make_X0_isWithin
set_option maxRecDepth 20000 in
theorem ggX0_make_X0_needArgument : GoodIn wsX0_make wsX0_needArgument := goodIn_ca (goodIn_r _ [7, 8, 9] (by decide +kernel) (by decide +kernel)) (goodIn_sub (fun _ h => List.mem_cons_of_mem _ (List.mem_append_left _ (List.mem_append_right _ h))) (by decide +kernel))
set_option maxRecDepth 20000 in
theorem gX0_make_X0_needArgument : GoodIn wsX0_make (va_wsS RX0 57 yX0_needArgument wsX0_needArgument) := goodIn_app (goodIn_of _ (by decide +kernel)) ggX0_make_X0_needArgument
set_option maxRecDepth 20000 in
theorem ggX0_make_X0_needPlace : GoodIn wsX0_make wsX0_needPlace := goodIn_ca (goodIn_r _ [13, 14, 15, 16, 3, 17, 18, 19, 95, 96, 97, 98, 99, 100, 101, 102, 103, 104, 105, 106] (by decide +kernel) (by decide +kernel)) (goodIn_sub (fun _ h => List.mem_cons_of_mem _ (List.mem_append_right _ h)) (by decide +kernel))
set_option maxRecDepth 20000 in
theorem gX0_make_X0_needPlace : GoodIn wsX0_make (wsV RX0 102 RX0 yX0_needPlace wsX0_needPlace) := goodIn_app (goodIn_of _ (by decide +kernel)) ggX0_make_X0_needPlace
set_option maxRecDepth 20000 in
theorem ggX0_make_X0_sets : GoodIn wsX0_make wsX0_sets := goodIn_r _ [23, 24, 95, 96, 97, 98, 99, 100, 101, 102, 103, 104, 105, 106] (by decide +kernel) (by decide +kernel)
set_option maxRecDepth 20000 in
theorem gX0_make_X0_sets : GoodIn wsX0_make (wsV RX0 105 RX0 yX0_sets wsX0_sets) := goodIn_app (goodIn_of _ (by decide +kernel)) ggX0_make_X0_sets
set_option maxRecDepth 20000 in
theorem ggX0_make_X0_toldValue : GoodIn wsX0_make wsX0_toldValue := goodIn_r _ [28, 29, 30, 31, 3, 32, 24, 33, 34, 35, 36, 37, 38, 39, 40, 41, 42, 43, 44, 45, 46, 47, 48, 49, 50, 51, 52, 53, 54, 55, 56, 57, 58, 59, 60, 61, 62, 63, 64, 65, 66, 67, 68, 69, 70, 71, 72, 73, 74, 75, 76, 77, 78, 79, 80, 81, 82, 95, 96, 97, 98, 99, 100, 101, 102, 103, 104, 105, 106] (by decide +kernel) (by decide +kernel)
set_option maxRecDepth 20000 in
theorem gX0_make_X0_toldValue : GoodIn wsX0_make (wsV RX0 109 RX0 yX0_toldValue wsX0_toldValue) := goodIn_app (goodIn_of _ (by decide +kernel)) ggX0_make_X0_toldValue
set_option maxRecDepth 20000 in
theorem ggX0_make_X0_putNew : GoodIn wsX0_make wsX0_putNew := goodIn_r _ [86, 87, 14, 88, 89, 3, 90, 95, 96, 97, 98, 99, 100, 101, 102, 103, 104, 105, 106] (by decide +kernel) (by decide +kernel)
set_option maxRecDepth 20000 in
theorem gX0_make_X0_putNew : GoodIn wsX0_make (wsV RX0 112 RX0 yX0_putNew wsX0_putNew) := goodIn_app (goodIn_of _ (by decide +kernel)) ggX0_make_X0_putNew
set_option maxRecDepth 20000 in
theorem ggX0_make_X0_countNew : GoodIn wsX0_make wsX0_countNew := goodIn_r _ [94, 14, 95, 96, 97, 98, 99, 100, 101, 102, 103, 104, 105, 106] (by decide +kernel) (by decide +kernel)
set_option maxRecDepth 20000 in
theorem gX0_make_X0_countNew : GoodIn wsX0_make (wsV RX0 116 RX0 yX0_countNew wsX0_countNew) := goodIn_app (goodIn_of _ (by decide +kernel)) ggX0_make_X0_countNew
theorem dX0_make_0 : decode cX0_make 0 = .ok (.iload_n 1, 1) := by decide +kernel
theorem dX0_make_1 : decode cX0_make 1 = .ok (.iconst 0, 1) := by decide +kernel
theorem dX0_make_2 : decode cX0_make 2 = .ok (.iconst 4, 1) := by decide +kernel
theorem dX0_make_3 : decode cX0_make 3 = .ok (.invokestatic 53, 3) := by decide +kernel
theorem dX0_make_6 : decode cX0_make 6 = .ok (.invokestatic 57, 3) := by decide +kernel
theorem dX0_make_9 : decode cX0_make 9 = .ok (.aload_n 0, 1) := by decide +kernel
theorem dX0_make_10 : decode cX0_make 10 = .ok (.invokevirtual 102, 3) := by decide +kernel
theorem dX0_make_13 : decode cX0_make 13 = .ok (.iconst 0, 1) := by decide +kernel
theorem dX0_make_14 : decode cX0_make 14 = .ok (.istore_n 2, 1) := by decide +kernel
theorem dX0_make_15 : decode cX0_make 15 = .ok (.iload_n 2, 1) := by decide +kernel
theorem dX0_make_16 : decode cX0_make 16 = .ok (.aload_n 0, 1) := by decide +kernel
theorem dX0_make_17 : decode cX0_make 17 = .ok (.invokevirtual 105, 3) := by decide +kernel
theorem dX0_make_20 : decode cX0_make 20 = .ok (.if_icmp .ge 20, 3) := by decide +kernel
theorem dX0_make_23 : decode cX0_make 23 = .ok (.aload_n 0, 1) := by decide +kernel
theorem dX0_make_24 : decode cX0_make 24 = .ok (.iload_n 2, 1) := by decide +kernel
theorem dX0_make_25 : decode cX0_make 25 = .ok (.aload_n 0, 1) := by decide +kernel
theorem dX0_make_26 : decode cX0_make 26 = .ok (.iload_n 1, 1) := by decide +kernel
theorem dX0_make_27 : decode cX0_make 27 = .ok (.iload_n 2, 1) := by decide +kernel
theorem dX0_make_28 : decode cX0_make 28 = .ok (.invokevirtual 109, 3) := by decide +kernel
theorem dX0_make_31 : decode cX0_make 31 = .ok (.invokevirtual 112, 3) := by decide +kernel
theorem dX0_make_34 : decode cX0_make 34 = .ok (.iinc 2 1, 3) := by decide +kernel
theorem dX0_make_37 : decode cX0_make 37 = .ok (.goto (-22), 3) := by decide +kernel
theorem dX0_make_40 : decode cX0_make 40 = .ok (.aload_n 0, 1) := by decide +kernel
theorem dX0_make_41 : decode cX0_make 41 = .ok (.invokevirtual 116, 3) := by decide +kernel
theorem dX0_make_44 : decode cX0_make 44 = .ok (.ireturn, 1) := by decide +kernel
set_option maxRecDepth 20000 in
theorem ggX0_sum_X0_isFunction : GoodIn wsX0_sum wsX0_isFunction := goodIn_r _ [5, 6, 45, 46, 47, 48, 49, 50, 51, 52, 53, 54, 55, 56] (by decide +kernel) (by decide +kernel)
set_option maxRecDepth 20000 in
theorem gX0_sum_X0_isFunction : GoodIn wsX0_sum (wsV RX0 119 RX0 yX0_isFunction wsX0_isFunction) := goodIn_app (goodIn_of _ (by decide +kernel)) ggX0_sum_X0_isFunction
set_option maxRecDepth 20000 in
theorem ggX0_sum_X0_needIndex : GoodIn wsX0_sum wsX0_needIndex := goodIn_ca (goodIn_r _ [9, 10, 11] (by decide +kernel) (by decide +kernel)) (goodIn_sub (fun _ h => List.mem_cons_of_mem _ (List.mem_append_left _ (List.mem_append_right _ h))) (by decide +kernel))
set_option maxRecDepth 20000 in
theorem gX0_sum_X0_needIndex : GoodIn wsX0_sum (va_wsS RX0 65 yX0_needIndex wsX0_needIndex) := goodIn_app (goodIn_of _ (by decide +kernel)) ggX0_sum_X0_needIndex
set_option maxRecDepth 20000 in
theorem ggX0_sum_X0_needPlace : GoodIn wsX0_sum wsX0_needPlace := goodIn_ca (goodIn_r _ [15, 6, 16, 17, 4, 18, 19, 20, 45, 46, 47, 48, 49, 50, 51, 52, 53, 54, 55, 56] (by decide +kernel) (by decide +kernel)) (goodIn_sub (fun _ h => List.mem_cons_of_mem _ (List.mem_append_right _ h)) (by decide +kernel))
set_option maxRecDepth 20000 in
theorem gX0_sum_X0_needPlace : GoodIn wsX0_sum (wsV RX0 102 RX0 yX0_needPlace wsX0_needPlace) := goodIn_app (goodIn_of _ (by decide +kernel)) ggX0_sum_X0_needPlace
set_option maxRecDepth 20000 in
theorem ggX0_sum_X0_sets : GoodIn wsX0_sum wsX0_sets := goodIn_r _ [24, 25, 45, 46, 47, 48, 49, 50, 51, 52, 53, 54, 55, 56] (by decide +kernel) (by decide +kernel)
set_option maxRecDepth 20000 in
theorem gX0_sum_X0_sets : GoodIn wsX0_sum (wsV RX0 105 RX0 yX0_sets wsX0_sets) := goodIn_app (goodIn_of _ (by decide +kernel)) ggX0_sum_X0_sets
set_option maxRecDepth 20000 in
theorem ggX0_sum_X0_valueOf : GoodIn wsX0_sum wsX0_valueOf := goodIn_r _ [29, 30, 31, 32, 4, 33, 45, 46, 47, 48, 49, 50, 51, 52, 53, 54, 55, 56] (by decide +kernel) (by decide +kernel)
set_option maxRecDepth 20000 in
theorem gX0_sum_X0_valueOf : GoodIn wsX0_sum (wsV RX0 122 RX0 yX0_valueOf wsX0_valueOf) := goodIn_app (goodIn_of _ (by decide +kernel)) ggX0_sum_X0_valueOf
set_option maxRecDepth 20000 in
theorem ggX0_sum_X0_putNew : GoodIn wsX0_sum wsX0_putNew := goodIn_r _ [37, 30, 6, 38, 39, 4, 40, 45, 46, 47, 48, 49, 50, 51, 52, 53, 54, 55, 56] (by decide +kernel) (by decide +kernel)
set_option maxRecDepth 20000 in
theorem gX0_sum_X0_putNew : GoodIn wsX0_sum (wsV RX0 112 RX0 yX0_putNew wsX0_putNew) := goodIn_app (goodIn_of _ (by decide +kernel)) ggX0_sum_X0_putNew
set_option maxRecDepth 20000 in
theorem ggX0_sum_X0_countNew : GoodIn wsX0_sum wsX0_countNew := goodIn_r _ [44, 6, 45, 46, 47, 48, 49, 50, 51, 52, 53, 54, 55, 56] (by decide +kernel) (by decide +kernel)
set_option maxRecDepth 20000 in
theorem gX0_sum_X0_countNew : GoodIn wsX0_sum (wsV RX0 116 RX0 yX0_countNew wsX0_countNew) := goodIn_app (goodIn_of _ (by decide +kernel)) ggX0_sum_X0_countNew
theorem dX0_sum_0 : decode cX0_sum 0 = .ok (.aload_n 0, 1) := by decide +kernel
theorem dX0_sum_1 : decode cX0_sum 1 = .ok (.iload_n 1, 1) := by decide +kernel
theorem dX0_sum_2 : decode cX0_sum 2 = .ok (.invokevirtual 119, 3) := by decide +kernel
theorem dX0_sum_5 : decode cX0_sum 5 = .ok (.ifCond .eq 15, 3) := by decide +kernel
theorem dX0_sum_8 : decode cX0_sum 8 = .ok (.aload_n 0, 1) := by decide +kernel
theorem dX0_sum_9 : decode cX0_sum 9 = .ok (.iload_n 2, 1) := by decide +kernel
theorem dX0_sum_10 : decode cX0_sum 10 = .ok (.invokevirtual 119, 3) := by decide +kernel
theorem dX0_sum_13 : decode cX0_sum 13 = .ok (.ifCond .eq 7, 3) := by decide +kernel
theorem dX0_sum_16 : decode cX0_sum 16 = .ok (.iconst 1, 1) := by decide +kernel
theorem dX0_sum_17 : decode cX0_sum 17 = .ok (.goto 4, 3) := by decide +kernel
theorem dX0_sum_20 : decode cX0_sum 20 = .ok (.iconst 0, 1) := by decide +kernel
theorem dX0_sum_21 : decode cX0_sum 21 = .ok (.invokestatic 65, 3) := by decide +kernel
theorem dX0_sum_24 : decode cX0_sum 24 = .ok (.aload_n 0, 1) := by decide +kernel
theorem dX0_sum_25 : decode cX0_sum 25 = .ok (.invokevirtual 102, 3) := by decide +kernel
theorem dX0_sum_28 : decode cX0_sum 28 = .ok (.iconst 0, 1) := by decide +kernel
theorem dX0_sum_29 : decode cX0_sum 29 = .ok (.istore_n 3, 1) := by decide +kernel
theorem dX0_sum_30 : decode cX0_sum 30 = .ok (.iload_n 3, 1) := by decide +kernel
theorem dX0_sum_31 : decode cX0_sum 31 = .ok (.aload_n 0, 1) := by decide +kernel
theorem dX0_sum_32 : decode cX0_sum 32 = .ok (.invokevirtual 105, 3) := by decide +kernel
theorem dX0_sum_35 : decode cX0_sum 35 = .ok (.if_icmp .ge 27, 3) := by decide +kernel
theorem dX0_sum_38 : decode cX0_sum 38 = .ok (.aload_n 0, 1) := by decide +kernel
theorem dX0_sum_39 : decode cX0_sum 39 = .ok (.iload_n 3, 1) := by decide +kernel
theorem dX0_sum_40 : decode cX0_sum 40 = .ok (.aload_n 0, 1) := by decide +kernel
theorem dX0_sum_41 : decode cX0_sum 41 = .ok (.iload_n 1, 1) := by decide +kernel
theorem dX0_sum_42 : decode cX0_sum 42 = .ok (.iload_n 3, 1) := by decide +kernel
theorem dX0_sum_43 : decode cX0_sum 43 = .ok (.invokevirtual 122, 3) := by decide +kernel
theorem dX0_sum_46 : decode cX0_sum 46 = .ok (.aload_n 0, 1) := by decide +kernel
theorem dX0_sum_47 : decode cX0_sum 47 = .ok (.iload_n 2, 1) := by decide +kernel
theorem dX0_sum_48 : decode cX0_sum 48 = .ok (.iload_n 3, 1) := by decide +kernel
theorem dX0_sum_49 : decode cX0_sum 49 = .ok (.invokevirtual 122, 3) := by decide +kernel
theorem dX0_sum_52 : decode cX0_sum 52 = .ok (.iadd, 1) := by decide +kernel
theorem dX0_sum_53 : decode cX0_sum 53 = .ok (.invokevirtual 112, 3) := by decide +kernel
theorem dX0_sum_56 : decode cX0_sum 56 = .ok (.iinc 3 1, 3) := by decide +kernel
theorem dX0_sum_59 : decode cX0_sum 59 = .ok (.goto (-29), 3) := by decide +kernel
theorem dX0_sum_62 : decode cX0_sum 62 = .ok (.aload_n 0, 1) := by decide +kernel
theorem dX0_sum_63 : decode cX0_sum 63 = .ok (.invokevirtual 116, 3) := by decide +kernel
theorem dX0_sum_66 : decode cX0_sum 66 = .ok (.ireturn, 1) := by decide +kernel
set_option maxRecDepth 20000 in
theorem ggX0_contract_X0_isFunction : GoodIn wsX0_contract wsX0_isFunction := goodIn_r _ [5, 6, 54, 55, 56, 57, 58, 59, 60, 61, 62, 63, 64, 65] (by decide +kernel) (by decide +kernel)
set_option maxRecDepth 20000 in
theorem gX0_contract_X0_isFunction : GoodIn wsX0_contract (wsV RX0 119 RX0 yX0_isFunction wsX0_isFunction) := goodIn_app (goodIn_of _ (by decide +kernel)) ggX0_contract_X0_isFunction
set_option maxRecDepth 20000 in
theorem ggX0_contract_X0_needIndex : GoodIn wsX0_contract wsX0_needIndex := goodIn_ca (goodIn_r _ [9, 10, 11] (by decide +kernel) (by decide +kernel)) (goodIn_sub (fun _ h => List.mem_cons_of_mem _ (List.mem_append_left _ (List.mem_append_left _ (List.mem_append_right _ h)))) (by decide +kernel))
set_option maxRecDepth 20000 in
theorem gX0_contract_X0_needIndex : GoodIn wsX0_contract (va_wsS RX0 65 yX0_needIndex wsX0_needIndex) := goodIn_app (goodIn_of _ (by decide +kernel)) ggX0_contract_X0_needIndex
set_option maxRecDepth 20000 in
theorem ggX0_contract_X0_isSet : GoodIn wsX0_contract wsX0_isSet := goodIn_r _ [15, 16, 17, 18, 4, 19, 20, 54, 55, 56, 57, 58, 59, 60, 61, 62, 63, 64, 65] (by decide +kernel) (by decide +kernel)
set_option maxRecDepth 20000 in
theorem gX0_contract_X0_isSet : GoodIn wsX0_contract (wsV RX0 125 RX0 yX0_isSet wsX0_isSet) := goodIn_app (goodIn_of _ (by decide +kernel)) ggX0_contract_X0_isSet
set_option maxRecDepth 20000 in
theorem ggX0_contract_X0_needArgument : GoodIn wsX0_contract wsX0_needArgument := goodIn_ca (goodIn_r _ [23, 24, 25] (by decide +kernel) (by decide +kernel)) (goodIn_sub (fun _ h => List.mem_cons_of_mem _ (List.mem_append_left _ (List.mem_append_right _ h))) (by decide +kernel))
set_option maxRecDepth 20000 in
theorem gX0_contract_X0_needArgument : GoodIn wsX0_contract (va_wsS RX0 57 yX0_needArgument wsX0_needArgument) := goodIn_app (goodIn_of _ (by decide +kernel)) ggX0_contract_X0_needArgument
set_option maxRecDepth 20000 in
theorem ggX0_contract_X0_needPlace : GoodIn wsX0_contract wsX0_needPlace := goodIn_ca (goodIn_r _ [29, 6, 30, 31, 4, 32, 33, 34, 54, 55, 56, 57, 58, 59, 60, 61, 62, 63, 64, 65] (by decide +kernel) (by decide +kernel)) (goodIn_sub (fun _ h => List.mem_cons_of_mem _ (List.mem_append_right _ h)) (by decide +kernel))
set_option maxRecDepth 20000 in
theorem gX0_contract_X0_needPlace : GoodIn wsX0_contract (wsV RX0 102 RX0 yX0_needPlace wsX0_needPlace) := goodIn_app (goodIn_of _ (by decide +kernel)) ggX0_contract_X0_needPlace
set_option maxRecDepth 20000 in
theorem ggX0_contract_X0_sets : GoodIn wsX0_contract wsX0_sets := goodIn_r _ [19, 20, 54, 55, 56, 57, 58, 59, 60, 61, 62, 63, 64, 65] (by decide +kernel) (by decide +kernel)
set_option maxRecDepth 20000 in
theorem gX0_contract_X0_sets : GoodIn wsX0_contract (wsV RX0 105 RX0 yX0_sets wsX0_sets) := goodIn_app (goodIn_of _ (by decide +kernel)) ggX0_contract_X0_sets
set_option maxRecDepth 20000 in
theorem ggX0_contract_X0_valueOf : GoodIn wsX0_contract wsX0_valueOf := goodIn_r _ [38, 39, 40, 41, 4, 42, 54, 55, 56, 57, 58, 59, 60, 61, 62, 63, 64, 65] (by decide +kernel) (by decide +kernel)
set_option maxRecDepth 20000 in
theorem gX0_contract_X0_valueOf : GoodIn wsX0_contract (wsV RX0 122 RX0 yX0_valueOf wsX0_valueOf) := goodIn_app (goodIn_of _ (by decide +kernel)) ggX0_contract_X0_valueOf
set_option maxRecDepth 20000 in
theorem ggX0_contract_X0_putNew : GoodIn wsX0_contract wsX0_putNew := goodIn_r _ [46, 39, 6, 47, 48, 4, 49, 54, 55, 56, 57, 58, 59, 60, 61, 62, 63, 64, 65] (by decide +kernel) (by decide +kernel)
set_option maxRecDepth 20000 in
theorem gX0_contract_X0_putNew : GoodIn wsX0_contract (wsV RX0 112 RX0 yX0_putNew wsX0_putNew) := goodIn_app (goodIn_of _ (by decide +kernel)) ggX0_contract_X0_putNew
set_option maxRecDepth 20000 in
theorem ggX0_contract_X0_countNew : GoodIn wsX0_contract wsX0_countNew := goodIn_r _ [53, 6, 54, 55, 56, 57, 58, 59, 60, 61, 62, 63, 64, 65] (by decide +kernel) (by decide +kernel)
set_option maxRecDepth 20000 in
theorem gX0_contract_X0_countNew : GoodIn wsX0_contract (wsV RX0 116 RX0 yX0_countNew wsX0_countNew) := goodIn_app (goodIn_of _ (by decide +kernel)) ggX0_contract_X0_countNew
theorem dX0_contract_0 : decode cX0_contract 0 = .ok (.aload_n 0, 1) := by decide +kernel
theorem dX0_contract_1 : decode cX0_contract 1 = .ok (.iload_n 1, 1) := by decide +kernel
theorem dX0_contract_2 : decode cX0_contract 2 = .ok (.invokevirtual 119, 3) := by decide +kernel
theorem dX0_contract_5 : decode cX0_contract 5 = .ok (.invokestatic 65, 3) := by decide +kernel
theorem dX0_contract_8 : decode cX0_contract 8 = .ok (.aload_n 0, 1) := by decide +kernel
theorem dX0_contract_9 : decode cX0_contract 9 = .ok (.iload_n 2, 1) := by decide +kernel
theorem dX0_contract_10 : decode cX0_contract 10 = .ok (.invokevirtual 125, 3) := by decide +kernel
theorem dX0_contract_13 : decode cX0_contract 13 = .ok (.invokestatic 57, 3) := by decide +kernel
theorem dX0_contract_16 : decode cX0_contract 16 = .ok (.aload_n 0, 1) := by decide +kernel
theorem dX0_contract_17 : decode cX0_contract 17 = .ok (.invokevirtual 102, 3) := by decide +kernel
theorem dX0_contract_20 : decode cX0_contract 20 = .ok (.iconst 0, 1) := by decide +kernel
theorem dX0_contract_21 : decode cX0_contract 21 = .ok (.istore_n 3, 1) := by decide +kernel
theorem dX0_contract_22 : decode cX0_contract 22 = .ok (.iload_n 3, 1) := by decide +kernel
theorem dX0_contract_23 : decode cX0_contract 23 = .ok (.aload_n 0, 1) := by decide +kernel
theorem dX0_contract_24 : decode cX0_contract 24 = .ok (.invokevirtual 105, 3) := by decide +kernel
theorem dX0_contract_27 : decode cX0_contract 27 = .ok (.if_icmp .ge 29, 3) := by decide +kernel
theorem dX0_contract_30 : decode cX0_contract 30 = .ok (.aload_n 0, 1) := by decide +kernel
theorem dX0_contract_31 : decode cX0_contract 31 = .ok (.iload_n 3, 1) := by decide +kernel
theorem dX0_contract_32 : decode cX0_contract 32 = .ok (.aload_n 0, 1) := by decide +kernel
theorem dX0_contract_33 : decode cX0_contract 33 = .ok (.iload_n 1, 1) := by decide +kernel
theorem dX0_contract_34 : decode cX0_contract 34 = .ok (.iload_n 3, 1) := by decide +kernel
theorem dX0_contract_35 : decode cX0_contract 35 = .ok (.iload_n 2, 1) := by decide +kernel
theorem dX0_contract_36 : decode cX0_contract 36 = .ok (.ior, 1) := by decide +kernel
theorem dX0_contract_37 : decode cX0_contract 37 = .ok (.invokevirtual 122, 3) := by decide +kernel
theorem dX0_contract_40 : decode cX0_contract 40 = .ok (.aload_n 0, 1) := by decide +kernel
theorem dX0_contract_41 : decode cX0_contract 41 = .ok (.iload_n 1, 1) := by decide +kernel
theorem dX0_contract_42 : decode cX0_contract 42 = .ok (.iload_n 2, 1) := by decide +kernel
theorem dX0_contract_43 : decode cX0_contract 43 = .ok (.invokevirtual 122, 3) := by decide +kernel
theorem dX0_contract_46 : decode cX0_contract 46 = .ok (.isub, 1) := by decide +kernel
theorem dX0_contract_47 : decode cX0_contract 47 = .ok (.invokevirtual 112, 3) := by decide +kernel
theorem dX0_contract_50 : decode cX0_contract 50 = .ok (.iinc 3 1, 3) := by decide +kernel
theorem dX0_contract_53 : decode cX0_contract 53 = .ok (.goto (-31), 3) := by decide +kernel
theorem dX0_contract_56 : decode cX0_contract 56 = .ok (.aload_n 0, 1) := by decide +kernel
theorem dX0_contract_57 : decode cX0_contract 57 = .ok (.invokevirtual 116, 3) := by decide +kernel
theorem dX0_contract_60 : decode cX0_contract 60 = .ok (.ireturn, 1) := by decide +kernel
set_option maxRecDepth 20000 in
theorem ggX0_cap_X0_isFunction : GoodIn wsX0_cap wsX0_isFunction := goodIn_r _ [9, 10, 57, 58, 59, 60, 61, 62, 63, 64, 65, 66, 67, 68] (by decide +kernel) (by decide +kernel)
set_option maxRecDepth 20000 in
theorem gX0_cap_X0_isFunction : GoodIn wsX0_cap (wsV RX0 119 RX0 yX0_isFunction wsX0_isFunction) := goodIn_app (goodIn_of _ (by decide +kernel)) ggX0_cap_X0_isFunction
set_option maxRecDepth 20000 in
theorem ggX0_cap_X0_needIndex : GoodIn wsX0_cap wsX0_needIndex := goodIn_ca (goodIn_r _ [13, 14, 15] (by decide +kernel) (by decide +kernel)) (goodIn_sub (fun _ h => List.mem_cons_of_mem _ (List.mem_append_left _ (List.mem_append_left _ (List.mem_append_right _ h)))) (by decide +kernel))
set_option maxRecDepth 20000 in
theorem gX0_cap_X0_needIndex : GoodIn wsX0_cap (va_wsS RX0 65 yX0_needIndex wsX0_needIndex) := goodIn_app (goodIn_of _ (by decide +kernel)) ggX0_cap_X0_needIndex
set_option maxRecDepth 20000 in
theorem ggX0_cap_X0_isWithin : GoodIn wsX0_cap wsX0_isWithin := goodIn_r _ [18] (by decide +kernel) (by decide +kernel)
set_option maxRecDepth 20000 in
theorem gX0_cap_X0_isWithin : GoodIn wsX0_cap (va_wsS RX0 53 yX0_isWithin wsX0_isWithin) := goodIn_app (goodIn_of _ (by decide +kernel)) ggX0_cap_X0_isWithin
set_option maxRecDepth 20000 in
theorem ggX0_cap_X0_needArgument : GoodIn wsX0_cap wsX0_needArgument := goodIn_ca (goodIn_r _ [21, 22, 23] (by decide +kernel) (by decide +kernel)) (goodIn_sub (fun _ h => List.mem_cons_of_mem _ (List.mem_append_left _ (List.mem_append_right _ h))) (by decide +kernel))
set_option maxRecDepth 20000 in
theorem gX0_cap_X0_needArgument : GoodIn wsX0_cap (va_wsS RX0 57 yX0_needArgument wsX0_needArgument) := goodIn_app (goodIn_of _ (by decide +kernel)) ggX0_cap_X0_needArgument
set_option maxRecDepth 20000 in
theorem ggX0_cap_X0_needPlace : GoodIn wsX0_cap wsX0_needPlace := goodIn_ca (goodIn_r _ [27, 10, 28, 29, 8, 30, 31, 32, 57, 58, 59, 60, 61, 62, 63, 64, 65, 66, 67, 68] (by decide +kernel) (by decide +kernel)) (goodIn_sub (fun _ h => List.mem_cons_of_mem _ (List.mem_append_right _ h)) (by decide +kernel))
set_option maxRecDepth 20000 in
theorem gX0_cap_X0_needPlace : GoodIn wsX0_cap (wsV RX0 102 RX0 yX0_needPlace wsX0_needPlace) := goodIn_app (goodIn_of _ (by decide +kernel)) ggX0_cap_X0_needPlace
set_option maxRecDepth 20000 in
theorem ggX0_cap_X0_sets : GoodIn wsX0_cap wsX0_sets := goodIn_r _ [36, 37, 57, 58, 59, 60, 61, 62, 63, 64, 65, 66, 67, 68] (by decide +kernel) (by decide +kernel)
set_option maxRecDepth 20000 in
theorem gX0_cap_X0_sets : GoodIn wsX0_cap (wsV RX0 105 RX0 yX0_sets wsX0_sets) := goodIn_app (goodIn_of _ (by decide +kernel)) ggX0_cap_X0_sets
set_option maxRecDepth 20000 in
theorem ggX0_cap_X0_valueOf : GoodIn wsX0_cap wsX0_valueOf := goodIn_r _ [41, 42, 43, 44, 8, 45, 57, 58, 59, 60, 61, 62, 63, 64, 65, 66, 67, 68] (by decide +kernel) (by decide +kernel)
set_option maxRecDepth 20000 in
theorem gX0_cap_X0_valueOf : GoodIn wsX0_cap (wsV RX0 122 RX0 yX0_valueOf wsX0_valueOf) := goodIn_app (goodIn_of _ (by decide +kernel)) ggX0_cap_X0_valueOf
set_option maxRecDepth 20000 in
theorem ggX0_cap_X0_putNew : GoodIn wsX0_cap wsX0_putNew := goodIn_r _ [49, 42, 10, 50, 51, 8, 52, 57, 58, 59, 60, 61, 62, 63, 64, 65, 66, 67, 68] (by decide +kernel) (by decide +kernel)
set_option maxRecDepth 20000 in
theorem gX0_cap_X0_putNew : GoodIn wsX0_cap (wsV RX0 112 RX0 yX0_putNew wsX0_putNew) := goodIn_app (goodIn_of _ (by decide +kernel)) ggX0_cap_X0_putNew
set_option maxRecDepth 20000 in
theorem ggX0_cap_X0_countNew : GoodIn wsX0_cap wsX0_countNew := goodIn_r _ [56, 10, 57, 58, 59, 60, 61, 62, 63, 64, 65, 66, 67, 68] (by decide +kernel) (by decide +kernel)
set_option maxRecDepth 20000 in
theorem gX0_cap_X0_countNew : GoodIn wsX0_cap (wsV RX0 116 RX0 yX0_countNew wsX0_countNew) := goodIn_app (goodIn_of _ (by decide +kernel)) ggX0_cap_X0_countNew
theorem dX0_cap_0 : decode cX0_cap 0 = .ok (.aload_n 0, 1) := by decide +kernel
theorem dX0_cap_1 : decode cX0_cap 1 = .ok (.iload_n 1, 1) := by decide +kernel
theorem dX0_cap_2 : decode cX0_cap 2 = .ok (.invokevirtual 119, 3) := by decide +kernel
theorem dX0_cap_5 : decode cX0_cap 5 = .ok (.invokestatic 65, 3) := by decide +kernel
theorem dX0_cap_8 : decode cX0_cap 8 = .ok (.iload_n 2, 1) := by decide +kernel
theorem dX0_cap_9 : decode cX0_cap 9 = .ok (.iconst 0, 1) := by decide +kernel
theorem dX0_cap_10 : decode cX0_cap 10 = .ok (.bipush 100, 2) := by decide +kernel
theorem dX0_cap_12 : decode cX0_cap 12 = .ok (.invokestatic 53, 3) := by decide +kernel
theorem dX0_cap_15 : decode cX0_cap 15 = .ok (.invokestatic 57, 3) := by decide +kernel
theorem dX0_cap_18 : decode cX0_cap 18 = .ok (.aload_n 0, 1) := by decide +kernel
theorem dX0_cap_19 : decode cX0_cap 19 = .ok (.invokevirtual 102, 3) := by decide +kernel
theorem dX0_cap_22 : decode cX0_cap 22 = .ok (.iconst 0, 1) := by decide +kernel
theorem dX0_cap_23 : decode cX0_cap 23 = .ok (.istore_n 3, 1) := by decide +kernel
theorem dX0_cap_24 : decode cX0_cap 24 = .ok (.iload_n 3, 1) := by decide +kernel
theorem dX0_cap_25 : decode cX0_cap 25 = .ok (.aload_n 0, 1) := by decide +kernel
theorem dX0_cap_26 : decode cX0_cap 26 = .ok (.invokevirtual 105, 3) := by decide +kernel
theorem dX0_cap_29 : decode cX0_cap 29 = .ok (.if_icmp .ge 24, 3) := by decide +kernel
theorem dX0_cap_32 : decode cX0_cap 32 = .ok (.aload_n 0, 1) := by decide +kernel
theorem dX0_cap_33 : decode cX0_cap 33 = .ok (.iload_n 3, 1) := by decide +kernel
theorem dX0_cap_34 : decode cX0_cap 34 = .ok (.aload_n 0, 1) := by decide +kernel
theorem dX0_cap_35 : decode cX0_cap 35 = .ok (.iload_n 1, 1) := by decide +kernel
theorem dX0_cap_36 : decode cX0_cap 36 = .ok (.iload_n 3, 1) := by decide +kernel
theorem dX0_cap_37 : decode cX0_cap 37 = .ok (.invokevirtual 122, 3) := by decide +kernel
theorem dX0_cap_40 : decode cX0_cap 40 = .ok (.iload_n 2, 1) := by decide +kernel
theorem dX0_cap_41 : decode cX0_cap 41 = .ok (.invokestatic 128, 3) := by decide +kernel
theorem dX0_cap_44 : decode cX0_cap 44 = .ok (.invokevirtual 112, 3) := by decide +kernel
theorem dX0_cap_47 : decode cX0_cap 47 = .ok (.iinc 3 1, 3) := by decide +kernel
theorem dX0_cap_50 : decode cX0_cap 50 = .ok (.goto (-26), 3) := by decide +kernel
theorem dX0_cap_53 : decode cX0_cap 53 = .ok (.aload_n 0, 1) := by decide +kernel
theorem dX0_cap_54 : decode cX0_cap 54 = .ok (.invokevirtual 116, 3) := by decide +kernel
theorem dX0_cap_57 : decode cX0_cap 57 = .ok (.ireturn, 1) := by decide +kernel
set_option maxRecDepth 20000 in
theorem ggX0_value_X0_isFunction : GoodIn wsX0_value wsX0_isFunction := goodIn_r _ [5, 6, 34, 35, 36, 37, 38, 39, 40, 41, 42, 43, 44, 45] (by decide +kernel) (by decide +kernel)
set_option maxRecDepth 20000 in
theorem gX0_value_X0_isFunction : GoodIn wsX0_value (wsV RX0 119 RX0 yX0_isFunction wsX0_isFunction) := goodIn_app (goodIn_of _ (by decide +kernel)) ggX0_value_X0_isFunction
set_option maxRecDepth 20000 in
theorem ggX0_value_X0_needIndex : GoodIn wsX0_value wsX0_needIndex := goodIn_ca (goodIn_r _ [9, 10, 11] (by decide +kernel) (by decide +kernel)) (goodIn_sub (fun _ h => List.mem_cons_of_mem _ (List.mem_append_left _ (List.mem_append_right _ h))) (by decide +kernel))
set_option maxRecDepth 20000 in
theorem gX0_value_X0_needIndex : GoodIn wsX0_value (va_wsS RX0 65 yX0_needIndex wsX0_needIndex) := goodIn_app (goodIn_of _ (by decide +kernel)) ggX0_value_X0_needIndex
set_option maxRecDepth 20000 in
theorem ggX0_value_X0_isSet : GoodIn wsX0_value wsX0_isSet := goodIn_r _ [15, 16, 17, 18, 4, 19, 20, 34, 35, 36, 37, 38, 39, 40, 41, 42, 43, 44, 45] (by decide +kernel) (by decide +kernel)
set_option maxRecDepth 20000 in
theorem gX0_value_X0_isSet : GoodIn wsX0_value (wsV RX0 125 RX0 yX0_isSet wsX0_isSet) := goodIn_app (goodIn_of _ (by decide +kernel)) ggX0_value_X0_isSet
set_option maxRecDepth 20000 in
theorem ggX0_value_X0_needArgument : GoodIn wsX0_value wsX0_needArgument := goodIn_ca (goodIn_r _ [23, 24, 25] (by decide +kernel) (by decide +kernel)) (goodIn_sub (fun _ h => List.mem_cons_of_mem _ (List.mem_append_right _ h)) (by decide +kernel))
set_option maxRecDepth 20000 in
theorem gX0_value_X0_needArgument : GoodIn wsX0_value (va_wsS RX0 57 yX0_needArgument wsX0_needArgument) := goodIn_app (goodIn_of _ (by decide +kernel)) ggX0_value_X0_needArgument
set_option maxRecDepth 20000 in
theorem ggX0_value_X0_valueOf : GoodIn wsX0_value wsX0_valueOf := goodIn_r _ [29, 30, 31, 32, 4, 33, 34, 35, 36, 37, 38, 39, 40, 41, 42, 43, 44, 45] (by decide +kernel) (by decide +kernel)
set_option maxRecDepth 20000 in
theorem gX0_value_X0_valueOf : GoodIn wsX0_value (wsV RX0 122 RX0 yX0_valueOf wsX0_valueOf) := goodIn_app (goodIn_of _ (by decide +kernel)) ggX0_value_X0_valueOf
theorem dX0_value_0 : decode cX0_value 0 = .ok (.aload_n 0, 1) := by decide +kernel
theorem dX0_value_1 : decode cX0_value 1 = .ok (.iload_n 1, 1) := by decide +kernel
theorem dX0_value_2 : decode cX0_value 2 = .ok (.invokevirtual 119, 3) := by decide +kernel
theorem dX0_value_5 : decode cX0_value 5 = .ok (.invokestatic 65, 3) := by decide +kernel
theorem dX0_value_8 : decode cX0_value 8 = .ok (.aload_n 0, 1) := by decide +kernel
theorem dX0_value_9 : decode cX0_value 9 = .ok (.iload_n 2, 1) := by decide +kernel
theorem dX0_value_10 : decode cX0_value 10 = .ok (.invokevirtual 125, 3) := by decide +kernel
theorem dX0_value_13 : decode cX0_value 13 = .ok (.invokestatic 57, 3) := by decide +kernel
theorem dX0_value_16 : decode cX0_value 16 = .ok (.aload_n 0, 1) := by decide +kernel
theorem dX0_value_17 : decode cX0_value 17 = .ok (.iload_n 1, 1) := by decide +kernel
theorem dX0_value_18 : decode cX0_value 18 = .ok (.iload_n 2, 1) := by decide +kernel
theorem dX0_value_19 : decode cX0_value 19 = .ok (.invokevirtual 122, 3) := by decide +kernel
theorem dX0_value_22 : decode cX0_value 22 = .ok (.ireturn, 1) := by decide +kernel
set_option maxRecDepth 20000 in
theorem ggX0_isLawful_X0_isFunction : GoodIn wsX0_isLawful wsX0_isFunction := goodIn_r _ [5, 6, 43, 44, 45, 46, 47, 48, 49, 50, 51, 52, 53, 54] (by decide +kernel) (by decide +kernel)
set_option maxRecDepth 20000 in
theorem gX0_isLawful_X0_isFunction : GoodIn wsX0_isLawful (wsV RX0 119 RX0 yX0_isFunction wsX0_isFunction) := goodIn_app (goodIn_of _ (by decide +kernel)) ggX0_isLawful_X0_isFunction
set_option maxRecDepth 20000 in
theorem ggX0_isLawful_X0_needIndex : GoodIn wsX0_isLawful wsX0_needIndex := goodIn_ca (goodIn_r _ [9, 10, 11] (by decide +kernel) (by decide +kernel)) (goodIn_sub (fun _ h => List.mem_cons_of_mem _ (List.mem_append_right _ h)) (by decide +kernel))
set_option maxRecDepth 20000 in
theorem gX0_isLawful_X0_needIndex : GoodIn wsX0_isLawful (va_wsS RX0 65 yX0_needIndex wsX0_needIndex) := goodIn_app (goodIn_of _ (by decide +kernel)) ggX0_isLawful_X0_needIndex
set_option maxRecDepth 20000 in
theorem ggX0_isLawful_X0_hasLaw : GoodIn wsX0_isLawful wsX0_hasLaw := goodIn_r _ [15, 16, 17, 18, 4, 19, 20, 21, 22, 23, 24, 25, 26, 27, 28, 29, 30, 31, 32, 33, 34, 35, 36, 37, 38, 39, 40, 41, 42, 43, 44, 45, 46, 47, 48, 49, 50, 51, 52, 53, 54] (by decide +kernel) (by decide +kernel)
set_option maxRecDepth 20000 in
theorem gX0_isLawful_X0_hasLaw : GoodIn wsX0_isLawful (wsV RX0 133 RX0 yX0_hasLaw wsX0_hasLaw) := goodIn_app (goodIn_of _ (by decide +kernel)) ggX0_isLawful_X0_hasLaw
theorem dX0_isLawful_0 : decode cX0_isLawful 0 = .ok (.aload_n 0, 1) := by decide +kernel
theorem dX0_isLawful_1 : decode cX0_isLawful 1 = .ok (.iload_n 1, 1) := by decide +kernel
theorem dX0_isLawful_2 : decode cX0_isLawful 2 = .ok (.invokevirtual 119, 3) := by decide +kernel
theorem dX0_isLawful_5 : decode cX0_isLawful 5 = .ok (.invokestatic 65, 3) := by decide +kernel
theorem dX0_isLawful_8 : decode cX0_isLawful 8 = .ok (.aload_n 0, 1) := by decide +kernel
theorem dX0_isLawful_9 : decode cX0_isLawful 9 = .ok (.iload_n 1, 1) := by decide +kernel
theorem dX0_isLawful_10 : decode cX0_isLawful 10 = .ok (.invokevirtual 133, 3) := by decide +kernel
theorem dX0_isLawful_13 : decode cX0_isLawful 13 = .ok (.ireturn, 1) := by decide +kernel
set_option maxRecDepth 20000 in
theorem ggX0_rises_X0_isFunction : GoodIn wsX0_rises wsX0_isFunction := goodIn_r _ [6, 7, 32, 33, 34, 35, 36, 37, 38, 39, 40, 41, 42, 43] (by decide +kernel) (by decide +kernel)
set_option maxRecDepth 20000 in
theorem gX0_rises_X0_isFunction : GoodIn wsX0_rises (wsV RX0 119 RX0 yX0_isFunction wsX0_isFunction) := goodIn_app (goodIn_of _ (by decide +kernel)) ggX0_rises_X0_isFunction
set_option maxRecDepth 20000 in
theorem ggX0_rises_X0_needIndex : GoodIn wsX0_rises wsX0_needIndex := goodIn_ca (goodIn_r _ [10, 11, 12] (by decide +kernel) (by decide +kernel)) (goodIn_sub (fun _ h => List.mem_cons_of_mem _ (List.mem_append_right _ h)) (by decide +kernel))
set_option maxRecDepth 20000 in
theorem gX0_rises_X0_needIndex : GoodIn wsX0_rises (va_wsS RX0 65 yX0_needIndex wsX0_needIndex) := goodIn_app (goodIn_of _ (by decide +kernel)) ggX0_rises_X0_needIndex
set_option maxRecDepth 20000 in
theorem ggX0_rises_X0_sets : GoodIn wsX0_rises wsX0_sets := goodIn_r _ [16, 1, 32, 33, 34, 35, 36, 37, 38, 39, 40, 41, 42, 43] (by decide +kernel) (by decide +kernel)
set_option maxRecDepth 20000 in
theorem gX0_rises_X0_sets : GoodIn wsX0_rises (wsV RX0 105 RX0 yX0_sets wsX0_sets) := goodIn_app (goodIn_of _ (by decide +kernel)) ggX0_rises_X0_sets
set_option maxRecDepth 20000 in
theorem ggX0_rises_X0_gain : GoodIn wsX0_rises wsX0_gain := goodIn_r _ [20, 21, 22, 5, 23, 24, 25, 26, 27, 28, 29, 30, 31, 32, 33, 34, 35, 36, 37, 38, 39, 40, 41, 42, 43] (by decide +kernel) (by decide +kernel)
set_option maxRecDepth 20000 in
theorem gX0_rises_X0_gain : GoodIn wsX0_rises (wsV RX0 136 RX0 yX0_gain wsX0_gain) := goodIn_app (goodIn_of _ (by decide +kernel)) ggX0_rises_X0_gain
theorem dX0_rises_0 : decode cX0_rises 0 = .ok (.aload_n 0, 1) := by decide +kernel
theorem dX0_rises_1 : decode cX0_rises 1 = .ok (.iload_n 1, 1) := by decide +kernel
theorem dX0_rises_2 : decode cX0_rises 2 = .ok (.invokevirtual 119, 3) := by decide +kernel
theorem dX0_rises_5 : decode cX0_rises 5 = .ok (.invokestatic 65, 3) := by decide +kernel
theorem dX0_rises_8 : decode cX0_rises 8 = .ok (.iconst 0, 1) := by decide +kernel
theorem dX0_rises_9 : decode cX0_rises 9 = .ok (.istore_n 2, 1) := by decide +kernel
theorem dX0_rises_10 : decode cX0_rises 10 = .ok (.iload_n 2, 1) := by decide +kernel
theorem dX0_rises_11 : decode cX0_rises 11 = .ok (.aload_n 0, 1) := by decide +kernel
theorem dX0_rises_12 : decode cX0_rises 12 = .ok (.invokevirtual 105, 3) := by decide +kernel
theorem dX0_rises_15 : decode cX0_rises 15 = .ok (.if_icmp .ge 37, 3) := by decide +kernel
theorem dX0_rises_18 : decode cX0_rises 18 = .ok (.iconst 0, 1) := by decide +kernel
theorem dX0_rises_19 : decode cX0_rises 19 = .ok (.istore_n 3, 1) := by decide +kernel
theorem dX0_rises_20 : decode cX0_rises 20 = .ok (.iload_n 3, 1) := by decide +kernel
theorem dX0_rises_21 : decode cX0_rises 21 = .ok (.aload_n 0, 1) := by decide +kernel
theorem dX0_rises_22 : decode cX0_rises 22 = .ok (.getfield 9, 3) := by decide +kernel
theorem dX0_rises_25 : decode cX0_rises 25 = .ok (.if_icmp .ge 21, 3) := by decide +kernel
theorem dX0_rises_28 : decode cX0_rises 28 = .ok (.aload_n 0, 1) := by decide +kernel
theorem dX0_rises_29 : decode cX0_rises 29 = .ok (.iload_n 1, 1) := by decide +kernel
theorem dX0_rises_30 : decode cX0_rises 30 = .ok (.iload_n 2, 1) := by decide +kernel
theorem dX0_rises_31 : decode cX0_rises 31 = .ok (.iload_n 3, 1) := by decide +kernel
theorem dX0_rises_32 : decode cX0_rises 32 = .ok (.invokevirtual 136, 3) := by decide +kernel
theorem dX0_rises_35 : decode cX0_rises 35 = .ok (.ifCond .ge 5, 3) := by decide +kernel
theorem dX0_rises_38 : decode cX0_rises 38 = .ok (.iconst 0, 1) := by decide +kernel
theorem dX0_rises_39 : decode cX0_rises 39 = .ok (.ireturn, 1) := by decide +kernel
theorem dX0_rises_40 : decode cX0_rises 40 = .ok (.iinc 3 1, 3) := by decide +kernel
theorem dX0_rises_43 : decode cX0_rises 43 = .ok (.goto (-23), 3) := by decide +kernel
theorem dX0_rises_46 : decode cX0_rises 46 = .ok (.iinc 2 1, 3) := by decide +kernel
theorem dX0_rises_49 : decode cX0_rises 49 = .ok (.goto (-39), 3) := by decide +kernel
theorem dX0_rises_52 : decode cX0_rises 52 = .ok (.iconst 1, 1) := by decide +kernel
theorem dX0_rises_53 : decode cX0_rises 53 = .ok (.ireturn, 1) := by decide +kernel
set_option maxRecDepth 20000 in
theorem ggX0_least_X0_isFunction : GoodIn wsX0_least wsX0_isFunction := goodIn_r _ [5, 6, 67, 68, 69, 70, 71, 72, 73, 74, 75, 76, 77, 78] (by decide +kernel) (by decide +kernel)
set_option maxRecDepth 20000 in
theorem gX0_least_X0_isFunction : GoodIn wsX0_least (wsV RX0 119 RX0 yX0_isFunction wsX0_isFunction) := goodIn_app (goodIn_of _ (by decide +kernel)) ggX0_least_X0_isFunction
set_option maxRecDepth 20000 in
theorem ggX0_least_X0_needIndex : GoodIn wsX0_least wsX0_needIndex := goodIn_ca (goodIn_r _ [9, 10, 11] (by decide +kernel) (by decide +kernel)) (goodIn_sub (fun _ h => List.mem_cons_of_mem _ (List.mem_append_left _ (List.mem_append_right _ h))) (by decide +kernel))
set_option maxRecDepth 20000 in
theorem gX0_least_X0_needIndex : GoodIn wsX0_least (va_wsS RX0 65 yX0_needIndex wsX0_needIndex) := goodIn_app (goodIn_of _ (by decide +kernel)) ggX0_least_X0_needIndex
set_option maxRecDepth 20000 in
theorem ggX0_least_X0_hasLaw : GoodIn wsX0_least wsX0_hasLaw := goodIn_r _ [15, 16, 17, 18, 4, 19, 20, 21, 22, 23, 24, 25, 26, 27, 28, 29, 30, 31, 32, 33, 34, 35, 36, 37, 38, 39, 40, 41, 42, 67, 68, 69, 70, 71, 72, 73, 74, 75, 76, 77, 78] (by decide +kernel) (by decide +kernel)
set_option maxRecDepth 20000 in
theorem gX0_least_X0_hasLaw : GoodIn wsX0_least (wsV RX0 133 RX0 yX0_hasLaw wsX0_hasLaw) := goodIn_app (goodIn_of _ (by decide +kernel)) ggX0_least_X0_hasLaw
set_option maxRecDepth 20000 in
theorem ggX0_least_X0_needState : GoodIn wsX0_least wsX0_needState := goodIn_ca (goodIn_r _ [45, 46, 47] (by decide +kernel) (by decide +kernel)) (goodIn_sub (fun _ h => List.mem_cons_of_mem _ (List.mem_append_right _ h)) (by decide +kernel))
set_option maxRecDepth 20000 in
theorem gX0_least_X0_needState : GoodIn wsX0_least (va_wsS RX0 140 yX0_needState wsX0_needState) := goodIn_app (goodIn_of _ (by decide +kernel)) ggX0_least_X0_needState
set_option maxRecDepth 20000 in
theorem ggX0_least_X0_sets : GoodIn wsX0_least wsX0_sets := goodIn_r _ [19, 20, 67, 68, 69, 70, 71, 72, 73, 74, 75, 76, 77, 78] (by decide +kernel) (by decide +kernel)
set_option maxRecDepth 20000 in
theorem gX0_least_X0_sets : GoodIn wsX0_least (wsV RX0 105 RX0 yX0_sets wsX0_sets) := goodIn_app (goodIn_of _ (by decide +kernel)) ggX0_least_X0_sets
set_option maxRecDepth 20000 in
theorem ggX0_least_X0_leastBetween : GoodIn wsX0_least wsX0_leastBetween := goodIn_r _ [51, 20, 52, 53, 54, 4, 55, 25, 26, 27, 28, 29, 30, 31, 32, 33, 34, 35, 36, 37, 38, 39, 40, 41, 42, 56, 57, 58, 59, 60, 61, 62, 63, 64, 65, 66, 48, 49, 50, 67, 68, 69, 70, 71, 72, 73, 74, 75, 76, 77, 78] (by decide +kernel) (by decide +kernel)
set_option maxRecDepth 20000 in
theorem gX0_least_X0_leastBetween : GoodIn wsX0_least (wsV RX0 143 RX0 yX0_leastBetween wsX0_leastBetween) := goodIn_app (goodIn_of _ (by decide +kernel)) ggX0_least_X0_leastBetween
set_option maxRecDepth 20000 in
theorem ggX0_least_X0_valueOf : GoodIn wsX0_least wsX0_valueOf := goodIn_r _ [38, 39, 40, 41, 4, 42, 67, 68, 69, 70, 71, 72, 73, 74, 75, 76, 77, 78] (by decide +kernel) (by decide +kernel)
set_option maxRecDepth 20000 in
theorem gX0_least_X0_valueOf : GoodIn wsX0_least (wsV RX0 122 RX0 yX0_valueOf wsX0_valueOf) := goodIn_app (goodIn_of _ (by decide +kernel)) ggX0_least_X0_valueOf
theorem dX0_least_0 : decode cX0_least 0 = .ok (.aload_n 0, 1) := by decide +kernel
theorem dX0_least_1 : decode cX0_least 1 = .ok (.iload_n 1, 1) := by decide +kernel
theorem dX0_least_2 : decode cX0_least 2 = .ok (.invokevirtual 119, 3) := by decide +kernel
theorem dX0_least_5 : decode cX0_least 5 = .ok (.invokestatic 65, 3) := by decide +kernel
theorem dX0_least_8 : decode cX0_least 8 = .ok (.aload_n 0, 1) := by decide +kernel
theorem dX0_least_9 : decode cX0_least 9 = .ok (.iload_n 1, 1) := by decide +kernel
theorem dX0_least_10 : decode cX0_least 10 = .ok (.invokevirtual 133, 3) := by decide +kernel
theorem dX0_least_13 : decode cX0_least 13 = .ok (.invokestatic 140, 3) := by decide +kernel
theorem dX0_least_16 : decode cX0_least 16 = .ok (.aload_n 0, 1) := by decide +kernel
theorem dX0_least_17 : decode cX0_least 17 = .ok (.iload_n 1, 1) := by decide +kernel
theorem dX0_least_18 : decode cX0_least 18 = .ok (.aload_n 0, 1) := by decide +kernel
theorem dX0_least_19 : decode cX0_least 19 = .ok (.iload_n 1, 1) := by decide +kernel
theorem dX0_least_20 : decode cX0_least 20 = .ok (.iconst 0, 1) := by decide +kernel
theorem dX0_least_21 : decode cX0_least 21 = .ok (.aload_n 0, 1) := by decide +kernel
theorem dX0_least_22 : decode cX0_least 22 = .ok (.invokevirtual 105, 3) := by decide +kernel
theorem dX0_least_25 : decode cX0_least 25 = .ok (.iconst 1, 1) := by decide +kernel
theorem dX0_least_26 : decode cX0_least 26 = .ok (.isub, 1) := by decide +kernel
theorem dX0_least_27 : decode cX0_least 27 = .ok (.iconst 0, 1) := by decide +kernel
theorem dX0_least_28 : decode cX0_least 28 = .ok (.iconst 0, 1) := by decide +kernel
theorem dX0_least_29 : decode cX0_least 29 = .ok (.invokevirtual 143, 3) := by decide +kernel
theorem dX0_least_32 : decode cX0_least 32 = .ok (.invokevirtual 122, 3) := by decide +kernel
theorem dX0_least_35 : decode cX0_least 35 = .ok (.ireturn, 1) := by decide +kernel
set_option maxRecDepth 20000 in
theorem ggX0_leastSet_X0_isFunction : GoodIn wsX0_leastSet wsX0_isFunction := goodIn_r _ [5, 6, 67, 68, 69, 70, 71, 72, 73, 74, 75, 76, 77, 78] (by decide +kernel) (by decide +kernel)
set_option maxRecDepth 20000 in
theorem gX0_leastSet_X0_isFunction : GoodIn wsX0_leastSet (wsV RX0 119 RX0 yX0_isFunction wsX0_isFunction) := goodIn_app (goodIn_of _ (by decide +kernel)) ggX0_leastSet_X0_isFunction
set_option maxRecDepth 20000 in
theorem ggX0_leastSet_X0_needIndex : GoodIn wsX0_leastSet wsX0_needIndex := goodIn_ca (goodIn_r _ [9, 10, 11] (by decide +kernel) (by decide +kernel)) (goodIn_sub (fun _ h => List.mem_cons_of_mem _ (List.mem_append_left _ (List.mem_append_right _ h))) (by decide +kernel))
set_option maxRecDepth 20000 in
theorem gX0_leastSet_X0_needIndex : GoodIn wsX0_leastSet (va_wsS RX0 65 yX0_needIndex wsX0_needIndex) := goodIn_app (goodIn_of _ (by decide +kernel)) ggX0_leastSet_X0_needIndex
set_option maxRecDepth 20000 in
theorem ggX0_leastSet_X0_hasLaw : GoodIn wsX0_leastSet wsX0_hasLaw := goodIn_r _ [15, 16, 17, 18, 4, 19, 20, 21, 22, 23, 24, 25, 26, 27, 28, 29, 30, 31, 32, 33, 34, 35, 36, 37, 38, 39, 40, 41, 42, 67, 68, 69, 70, 71, 72, 73, 74, 75, 76, 77, 78] (by decide +kernel) (by decide +kernel)
set_option maxRecDepth 20000 in
theorem gX0_leastSet_X0_hasLaw : GoodIn wsX0_leastSet (wsV RX0 133 RX0 yX0_hasLaw wsX0_hasLaw) := goodIn_app (goodIn_of _ (by decide +kernel)) ggX0_leastSet_X0_hasLaw
set_option maxRecDepth 20000 in
theorem ggX0_leastSet_X0_needState : GoodIn wsX0_leastSet wsX0_needState := goodIn_ca (goodIn_r _ [45, 46, 47] (by decide +kernel) (by decide +kernel)) (goodIn_sub (fun _ h => List.mem_cons_of_mem _ (List.mem_append_right _ h)) (by decide +kernel))
set_option maxRecDepth 20000 in
theorem gX0_leastSet_X0_needState : GoodIn wsX0_leastSet (va_wsS RX0 140 yX0_needState wsX0_needState) := goodIn_app (goodIn_of _ (by decide +kernel)) ggX0_leastSet_X0_needState
set_option maxRecDepth 20000 in
theorem ggX0_leastSet_X0_sets : GoodIn wsX0_leastSet wsX0_sets := goodIn_r _ [19, 20, 67, 68, 69, 70, 71, 72, 73, 74, 75, 76, 77, 78] (by decide +kernel) (by decide +kernel)
set_option maxRecDepth 20000 in
theorem gX0_leastSet_X0_sets : GoodIn wsX0_leastSet (wsV RX0 105 RX0 yX0_sets wsX0_sets) := goodIn_app (goodIn_of _ (by decide +kernel)) ggX0_leastSet_X0_sets
set_option maxRecDepth 20000 in
theorem ggX0_leastSet_X0_leastBetween : GoodIn wsX0_leastSet wsX0_leastBetween := goodIn_r _ [51, 20, 52, 53, 54, 4, 55, 25, 26, 27, 28, 29, 30, 31, 32, 33, 34, 35, 36, 37, 38, 39, 40, 41, 42, 56, 57, 58, 59, 60, 61, 62, 63, 64, 65, 66, 48, 49, 50, 67, 68, 69, 70, 71, 72, 73, 74, 75, 76, 77, 78] (by decide +kernel) (by decide +kernel)
set_option maxRecDepth 20000 in
theorem gX0_leastSet_X0_leastBetween : GoodIn wsX0_leastSet (wsV RX0 143 RX0 yX0_leastBetween wsX0_leastBetween) := goodIn_app (goodIn_of _ (by decide +kernel)) ggX0_leastSet_X0_leastBetween
theorem dX0_leastSet_0 : decode cX0_leastSet 0 = .ok (.aload_n 0, 1) := by decide +kernel
theorem dX0_leastSet_1 : decode cX0_leastSet 1 = .ok (.iload_n 1, 1) := by decide +kernel
theorem dX0_leastSet_2 : decode cX0_leastSet 2 = .ok (.invokevirtual 119, 3) := by decide +kernel
theorem dX0_leastSet_5 : decode cX0_leastSet 5 = .ok (.invokestatic 65, 3) := by decide +kernel
theorem dX0_leastSet_8 : decode cX0_leastSet 8 = .ok (.aload_n 0, 1) := by decide +kernel
theorem dX0_leastSet_9 : decode cX0_leastSet 9 = .ok (.iload_n 1, 1) := by decide +kernel
theorem dX0_leastSet_10 : decode cX0_leastSet 10 = .ok (.invokevirtual 133, 3) := by decide +kernel
theorem dX0_leastSet_13 : decode cX0_leastSet 13 = .ok (.invokestatic 140, 3) := by decide +kernel
theorem dX0_leastSet_16 : decode cX0_leastSet 16 = .ok (.aload_n 0, 1) := by decide +kernel
theorem dX0_leastSet_17 : decode cX0_leastSet 17 = .ok (.iload_n 1, 1) := by decide +kernel
theorem dX0_leastSet_18 : decode cX0_leastSet 18 = .ok (.iconst 0, 1) := by decide +kernel
theorem dX0_leastSet_19 : decode cX0_leastSet 19 = .ok (.aload_n 0, 1) := by decide +kernel
theorem dX0_leastSet_20 : decode cX0_leastSet 20 = .ok (.invokevirtual 105, 3) := by decide +kernel
theorem dX0_leastSet_23 : decode cX0_leastSet 23 = .ok (.iconst 1, 1) := by decide +kernel
theorem dX0_leastSet_24 : decode cX0_leastSet 24 = .ok (.isub, 1) := by decide +kernel
theorem dX0_leastSet_25 : decode cX0_leastSet 25 = .ok (.iload_n 2, 1) := by decide +kernel
theorem dX0_leastSet_26 : decode cX0_leastSet 26 = .ok (.iconst 0, 1) := by decide +kernel
theorem dX0_leastSet_27 : decode cX0_leastSet 27 = .ok (.invokevirtual 143, 3) := by decide +kernel
theorem dX0_leastSet_30 : decode cX0_leastSet 30 = .ok (.ireturn, 1) := by decide +kernel
set_option maxRecDepth 20000 in
theorem ggX0_leastSetAnew_X0_isFunction : GoodIn wsX0_leastSetAnew wsX0_isFunction := goodIn_r _ [9, 10, 52, 53, 54, 55, 56, 57, 58, 59, 60, 61, 62, 63] (by decide +kernel) (by decide +kernel)
set_option maxRecDepth 20000 in
theorem gX0_leastSetAnew_X0_isFunction : GoodIn wsX0_leastSetAnew (wsV RX0 119 RX0 yX0_isFunction wsX0_isFunction) := goodIn_app (goodIn_of _ (by decide +kernel)) ggX0_leastSetAnew_X0_isFunction
set_option maxRecDepth 20000 in
theorem ggX0_leastSetAnew_X0_needIndex : GoodIn wsX0_leastSetAnew wsX0_needIndex := goodIn_ca (goodIn_r _ [13, 14, 15] (by decide +kernel) (by decide +kernel)) (goodIn_sub (fun _ h => List.mem_cons_of_mem _ (List.mem_append_left _ (List.mem_append_right _ h))) (by decide +kernel))
set_option maxRecDepth 20000 in
theorem gX0_leastSetAnew_X0_needIndex : GoodIn wsX0_leastSetAnew (va_wsS RX0 65 yX0_needIndex wsX0_needIndex) := goodIn_app (goodIn_of _ (by decide +kernel)) ggX0_leastSetAnew_X0_needIndex
set_option maxRecDepth 20000 in
theorem ggX0_leastSetAnew_X0_hasLaw : GoodIn wsX0_leastSetAnew wsX0_hasLaw := goodIn_r _ [19, 20, 21, 22, 8, 23, 24, 25, 26, 27, 28, 29, 30, 31, 32, 33, 34, 35, 36, 37, 38, 39, 40, 41, 42, 43, 44, 45, 46, 52, 53, 54, 55, 56, 57, 58, 59, 60, 61, 62, 63] (by decide +kernel) (by decide +kernel)
set_option maxRecDepth 20000 in
theorem gX0_leastSetAnew_X0_hasLaw : GoodIn wsX0_leastSetAnew (wsV RX0 133 RX0 yX0_hasLaw wsX0_hasLaw) := goodIn_app (goodIn_of _ (by decide +kernel)) ggX0_leastSetAnew_X0_hasLaw
set_option maxRecDepth 20000 in
theorem ggX0_leastSetAnew_X0_needState : GoodIn wsX0_leastSetAnew wsX0_needState := goodIn_ca (goodIn_r _ [49, 50, 51] (by decide +kernel) (by decide +kernel)) (goodIn_sub (fun _ h => List.mem_cons_of_mem _ (List.mem_append_right _ h)) (by decide +kernel))
set_option maxRecDepth 20000 in
theorem gX0_leastSetAnew_X0_needState : GoodIn wsX0_leastSetAnew (va_wsS RX0 140 yX0_needState wsX0_needState) := goodIn_app (goodIn_of _ (by decide +kernel)) ggX0_leastSetAnew_X0_needState
set_option maxRecDepth 20000 in
theorem ggX0_leastSetAnew_X0_sets : GoodIn wsX0_leastSetAnew wsX0_sets := goodIn_r _ [23, 24, 52, 53, 54, 55, 56, 57, 58, 59, 60, 61, 62, 63] (by decide +kernel) (by decide +kernel)
set_option maxRecDepth 20000 in
theorem gX0_leastSetAnew_X0_sets : GoodIn wsX0_leastSetAnew (wsV RX0 105 RX0 yX0_sets wsX0_sets) := goodIn_app (goodIn_of _ (by decide +kernel)) ggX0_leastSetAnew_X0_sets
set_option maxRecDepth 20000 in
theorem ggX0_leastSetAnew_X0_valueOf : GoodIn wsX0_leastSetAnew wsX0_valueOf := goodIn_r _ [42, 43, 44, 45, 8, 46, 52, 53, 54, 55, 56, 57, 58, 59, 60, 61, 62, 63] (by decide +kernel) (by decide +kernel)
set_option maxRecDepth 20000 in
theorem gX0_leastSetAnew_X0_valueOf : GoodIn wsX0_leastSetAnew (wsV RX0 122 RX0 yX0_valueOf wsX0_valueOf) := goodIn_app (goodIn_of _ (by decide +kernel)) ggX0_leastSetAnew_X0_valueOf
theorem dX0_leastSetAnew_0 : decode cX0_leastSetAnew 0 = .ok (.aload_n 0, 1) := by decide +kernel
theorem dX0_leastSetAnew_1 : decode cX0_leastSetAnew 1 = .ok (.iload_n 1, 1) := by decide +kernel
theorem dX0_leastSetAnew_2 : decode cX0_leastSetAnew 2 = .ok (.invokevirtual 119, 3) := by decide +kernel
theorem dX0_leastSetAnew_5 : decode cX0_leastSetAnew 5 = .ok (.invokestatic 65, 3) := by decide +kernel
theorem dX0_leastSetAnew_8 : decode cX0_leastSetAnew 8 = .ok (.aload_n 0, 1) := by decide +kernel
theorem dX0_leastSetAnew_9 : decode cX0_leastSetAnew 9 = .ok (.iload_n 1, 1) := by decide +kernel
theorem dX0_leastSetAnew_10 : decode cX0_leastSetAnew 10 = .ok (.invokevirtual 133, 3) := by decide +kernel
theorem dX0_leastSetAnew_13 : decode cX0_leastSetAnew 13 = .ok (.invokestatic 140, 3) := by decide +kernel
theorem dX0_leastSetAnew_16 : decode cX0_leastSetAnew 16 = .ok (.iconst 0, 1) := by decide +kernel
theorem dX0_leastSetAnew_17 : decode cX0_leastSetAnew 17 = .ok (.istore_n 3, 1) := by decide +kernel
theorem dX0_leastSetAnew_18 : decode cX0_leastSetAnew 18 = .ok (.iconst 0, 1) := by decide +kernel
theorem dX0_leastSetAnew_19 : decode cX0_leastSetAnew 19 = .ok (.istore 4, 2) := by decide +kernel
theorem dX0_leastSetAnew_21 : decode cX0_leastSetAnew 21 = .ok (.iload 4, 2) := by decide +kernel
theorem dX0_leastSetAnew_23 : decode cX0_leastSetAnew 23 = .ok (.aload_n 0, 1) := by decide +kernel
theorem dX0_leastSetAnew_24 : decode cX0_leastSetAnew 24 = .ok (.invokevirtual 105, 3) := by decide +kernel
theorem dX0_leastSetAnew_27 : decode cX0_leastSetAnew 27 = .ok (.if_icmp .ge 21, 3) := by decide +kernel
theorem dX0_leastSetAnew_30 : decode cX0_leastSetAnew 30 = .ok (.iload_n 3, 1) := by decide +kernel
theorem dX0_leastSetAnew_31 : decode cX0_leastSetAnew 31 = .ok (.aload_n 0, 1) := by decide +kernel
theorem dX0_leastSetAnew_32 : decode cX0_leastSetAnew 32 = .ok (.iload_n 1, 1) := by decide +kernel
theorem dX0_leastSetAnew_33 : decode cX0_leastSetAnew 33 = .ok (.iload 4, 2) := by decide +kernel
theorem dX0_leastSetAnew_35 : decode cX0_leastSetAnew 35 = .ok (.invokevirtual 122, 3) := by decide +kernel
theorem dX0_leastSetAnew_38 : decode cX0_leastSetAnew 38 = .ok (.invokestatic 128, 3) := by decide +kernel
theorem dX0_leastSetAnew_41 : decode cX0_leastSetAnew 41 = .ok (.istore_n 3, 1) := by decide +kernel
theorem dX0_leastSetAnew_42 : decode cX0_leastSetAnew 42 = .ok (.iinc 4 1, 3) := by decide +kernel
theorem dX0_leastSetAnew_45 : decode cX0_leastSetAnew 45 = .ok (.goto (-24), 3) := by decide +kernel
theorem dX0_leastSetAnew_48 : decode cX0_leastSetAnew 48 = .ok (.aload_n 0, 1) := by decide +kernel
theorem dX0_leastSetAnew_49 : decode cX0_leastSetAnew 49 = .ok (.invokevirtual 105, 3) := by decide +kernel
theorem dX0_leastSetAnew_52 : decode cX0_leastSetAnew 52 = .ok (.iconst 1, 1) := by decide +kernel
theorem dX0_leastSetAnew_53 : decode cX0_leastSetAnew 53 = .ok (.isub, 1) := by decide +kernel
theorem dX0_leastSetAnew_54 : decode cX0_leastSetAnew 54 = .ok (.istore 4, 2) := by decide +kernel
theorem dX0_leastSetAnew_56 : decode cX0_leastSetAnew 56 = .ok (.iconst 0, 1) := by decide +kernel
theorem dX0_leastSetAnew_57 : decode cX0_leastSetAnew 57 = .ok (.istore 5, 2) := by decide +kernel
theorem dX0_leastSetAnew_59 : decode cX0_leastSetAnew 59 = .ok (.iconst 0, 1) := by decide +kernel
theorem dX0_leastSetAnew_60 : decode cX0_leastSetAnew 60 = .ok (.istore 6, 2) := by decide +kernel
theorem dX0_leastSetAnew_62 : decode cX0_leastSetAnew 62 = .ok (.iload 6, 2) := by decide +kernel
theorem dX0_leastSetAnew_64 : decode cX0_leastSetAnew 64 = .ok (.aload_n 0, 1) := by decide +kernel
theorem dX0_leastSetAnew_65 : decode cX0_leastSetAnew 65 = .ok (.invokevirtual 105, 3) := by decide +kernel
theorem dX0_leastSetAnew_68 : decode cX0_leastSetAnew 68 = .ok (.if_icmp .ge 34, 3) := by decide +kernel
theorem dX0_leastSetAnew_71 : decode cX0_leastSetAnew 71 = .ok (.aload_n 0, 1) := by decide +kernel
theorem dX0_leastSetAnew_72 : decode cX0_leastSetAnew 72 = .ok (.iload_n 1, 1) := by decide +kernel
theorem dX0_leastSetAnew_73 : decode cX0_leastSetAnew 73 = .ok (.iload 6, 2) := by decide +kernel
theorem dX0_leastSetAnew_75 : decode cX0_leastSetAnew 75 = .ok (.invokevirtual 122, 3) := by decide +kernel
theorem dX0_leastSetAnew_78 : decode cX0_leastSetAnew 78 = .ok (.iload_n 3, 1) := by decide +kernel
theorem dX0_leastSetAnew_79 : decode cX0_leastSetAnew 79 = .ok (.if_icmp .ne 17, 3) := by decide +kernel
theorem dX0_leastSetAnew_82 : decode cX0_leastSetAnew 82 = .ok (.iload 4, 2) := by decide +kernel
theorem dX0_leastSetAnew_84 : decode cX0_leastSetAnew 84 = .ok (.iload 6, 2) := by decide +kernel
theorem dX0_leastSetAnew_86 : decode cX0_leastSetAnew 86 = .ok (.iand, 1) := by decide +kernel
theorem dX0_leastSetAnew_87 : decode cX0_leastSetAnew 87 = .ok (.istore 4, 2) := by decide +kernel
theorem dX0_leastSetAnew_89 : decode cX0_leastSetAnew 89 = .ok (.iload 5, 2) := by decide +kernel
theorem dX0_leastSetAnew_91 : decode cX0_leastSetAnew 91 = .ok (.iload 6, 2) := by decide +kernel
theorem dX0_leastSetAnew_93 : decode cX0_leastSetAnew 93 = .ok (.ior, 1) := by decide +kernel
theorem dX0_leastSetAnew_94 : decode cX0_leastSetAnew 94 = .ok (.istore 5, 2) := by decide +kernel
theorem dX0_leastSetAnew_96 : decode cX0_leastSetAnew 96 = .ok (.iinc 6 1, 3) := by decide +kernel
theorem dX0_leastSetAnew_99 : decode cX0_leastSetAnew 99 = .ok (.goto (-37), 3) := by decide +kernel
theorem dX0_leastSetAnew_102 : decode cX0_leastSetAnew 102 = .ok (.iload_n 2, 1) := by decide +kernel
theorem dX0_leastSetAnew_103 : decode cX0_leastSetAnew 103 = .ok (.ifCond .eq 8, 3) := by decide +kernel
theorem dX0_leastSetAnew_106 : decode cX0_leastSetAnew 106 = .ok (.iload 5, 2) := by decide +kernel
theorem dX0_leastSetAnew_108 : decode cX0_leastSetAnew 108 = .ok (.goto 5, 3) := by decide +kernel
theorem dX0_leastSetAnew_111 : decode cX0_leastSetAnew 111 = .ok (.iload 4, 2) := by decide +kernel
theorem dX0_leastSetAnew_113 : decode cX0_leastSetAnew 113 = .ok (.ireturn, 1) := by decide +kernel
set_option maxRecDepth 20000 in
theorem ggX0_order_X0_isElement : GoodIn wsX0_order wsX0_isElement := goodIn_r _ [8, 2, 29, 30, 31, 32, 33, 34, 35, 36, 37, 38, 39, 40] (by decide +kernel) (by decide +kernel)
set_option maxRecDepth 20000 in
theorem gX0_order_X0_isElement : GoodIn wsX0_order (wsV RX0 61 RX0 yX0_isElement wsX0_isElement) := goodIn_app (goodIn_of _ (by decide +kernel)) ggX0_order_X0_isElement
set_option maxRecDepth 20000 in
theorem ggX0_order_X0_needIndex : GoodIn wsX0_order wsX0_needIndex := goodIn_ca (goodIn_r _ [11, 12, 13] (by decide +kernel) (by decide +kernel)) (goodIn_sub (fun _ h => List.mem_cons_of_mem _ (List.mem_append_left _ (List.mem_append_right _ h))) (by decide +kernel))
set_option maxRecDepth 20000 in
theorem gX0_order_X0_needIndex : GoodIn wsX0_order (va_wsS RX0 65 yX0_needIndex wsX0_needIndex) := goodIn_app (goodIn_of _ (by decide +kernel)) ggX0_order_X0_needIndex
set_option maxRecDepth 20000 in
theorem ggX0_order_X0_isTold : GoodIn wsX0_order wsX0_isTold := goodIn_r _ [17, 1, 3, 18, 19, 7, 20, 29, 30, 31, 32, 33, 34, 35, 36, 37, 38, 39, 40] (by decide +kernel) (by decide +kernel)
set_option maxRecDepth 20000 in
theorem gX0_order_X0_isTold : GoodIn wsX0_order (wsV RX0 147 RX0 yX0_isTold wsX0_isTold) := goodIn_app (goodIn_of _ (by decide +kernel)) ggX0_order_X0_isTold
set_option maxRecDepth 20000 in
theorem ggX0_order_X0_needState : GoodIn wsX0_order wsX0_needState := goodIn_ca (goodIn_r _ [23, 24, 25] (by decide +kernel) (by decide +kernel)) (goodIn_sub (fun _ h => List.mem_cons_of_mem _ (List.mem_append_right _ h)) (by decide +kernel))
set_option maxRecDepth 20000 in
theorem gX0_order_X0_needState : GoodIn wsX0_order (va_wsS RX0 140 yX0_needState wsX0_needState) := goodIn_app (goodIn_of _ (by decide +kernel)) ggX0_order_X0_needState
set_option maxRecDepth 20000 in
theorem ggX0_order_X0_put : GoodIn wsX0_order wsX0_put := goodIn_r _ [28] (by decide +kernel) (by decide +kernel)
set_option maxRecDepth 20000 in
theorem gX0_order_X0_put : GoodIn wsX0_order (va_wsS RX0 79 yX0_put wsX0_put) := goodIn_app (goodIn_of _ (by decide +kernel)) ggX0_order_X0_put
theorem dX0_order_0 : decode cX0_order 0 = .ok (.aload_n 0, 1) := by decide +kernel
theorem dX0_order_1 : decode cX0_order 1 = .ok (.iload_n 1, 1) := by decide +kernel
theorem dX0_order_2 : decode cX0_order 2 = .ok (.invokevirtual 61, 3) := by decide +kernel
theorem dX0_order_5 : decode cX0_order 5 = .ok (.invokestatic 65, 3) := by decide +kernel
theorem dX0_order_8 : decode cX0_order 8 = .ok (.aload_n 0, 1) := by decide +kernel
theorem dX0_order_9 : decode cX0_order 9 = .ok (.getfield 16, 3) := by decide +kernel
theorem dX0_order_12 : decode cX0_order 12 = .ok (.aload_n 0, 1) := by decide +kernel
theorem dX0_order_13 : decode cX0_order 13 = .ok (.getfield 9, 3) := by decide +kernel
theorem dX0_order_16 : decode cX0_order 16 = .ok (.if_icmp .lt 7, 3) := by decide +kernel
theorem dX0_order_19 : decode cX0_order 19 = .ok (.iconst 1, 1) := by decide +kernel
theorem dX0_order_20 : decode cX0_order 20 = .ok (.goto 4, 3) := by decide +kernel
theorem dX0_order_23 : decode cX0_order 23 = .ok (.iconst 0, 1) := by decide +kernel
theorem dX0_order_24 : decode cX0_order 24 = .ok (.istore_n 2, 1) := by decide +kernel
theorem dX0_order_25 : decode cX0_order 25 = .ok (.iload_n 2, 1) := by decide +kernel
theorem dX0_order_26 : decode cX0_order 26 = .ok (.ifCond .ne 11, 3) := by decide +kernel
theorem dX0_order_29 : decode cX0_order 29 = .ok (.aload_n 0, 1) := by decide +kernel
theorem dX0_order_30 : decode cX0_order 30 = .ok (.iload_n 1, 1) := by decide +kernel
theorem dX0_order_31 : decode cX0_order 31 = .ok (.invokevirtual 147, 3) := by decide +kernel
theorem dX0_order_34 : decode cX0_order 34 = .ok (.ifCond .ne 7, 3) := by decide +kernel
theorem dX0_order_37 : decode cX0_order 37 = .ok (.iconst 1, 1) := by decide +kernel
theorem dX0_order_38 : decode cX0_order 38 = .ok (.goto 4, 3) := by decide +kernel
theorem dX0_order_41 : decode cX0_order 41 = .ok (.iconst 0, 1) := by decide +kernel
theorem dX0_order_42 : decode cX0_order 42 = .ok (.invokestatic 140, 3) := by decide +kernel
theorem dX0_order_45 : decode cX0_order 45 = .ok (.iload_n 2, 1) := by decide +kernel
theorem dX0_order_46 : decode cX0_order 46 = .ok (.ifCond .eq 8, 3) := by decide +kernel
theorem dX0_order_49 : decode cX0_order 49 = .ok (.aload_n 0, 1) := by decide +kernel
theorem dX0_order_50 : decode cX0_order 50 = .ok (.iconst 0, 1) := by decide +kernel
theorem dX0_order_51 : decode cX0_order 51 = .ok (.putfield 16, 3) := by decide +kernel
theorem dX0_order_54 : decode cX0_order 54 = .ok (.aload_n 0, 1) := by decide +kernel
theorem dX0_order_55 : decode cX0_order 55 = .ok (.getfield 38, 3) := by decide +kernel
theorem dX0_order_58 : decode cX0_order 58 = .ok (.aload_n 0, 1) := by decide +kernel
theorem dX0_order_59 : decode cX0_order 59 = .ok (.getfield 16, 3) := by decide +kernel
theorem dX0_order_62 : decode cX0_order 62 = .ok (.iload_n 1, 1) := by decide +kernel
theorem dX0_order_63 : decode cX0_order 63 = .ok (.invokestatic 79, 3) := by decide +kernel
theorem dX0_order_66 : decode cX0_order 66 = .ok (.aload_n 0, 1) := by decide +kernel
theorem dX0_order_67 : decode cX0_order 67 = .ok (.dup, 1) := by decide +kernel
theorem dX0_order_68 : decode cX0_order 68 = .ok (.getfield 16, 3) := by decide +kernel
theorem dX0_order_71 : decode cX0_order 71 = .ok (.iconst 1, 1) := by decide +kernel
theorem dX0_order_72 : decode cX0_order 72 = .ok (.iadd, 1) := by decide +kernel
theorem dX0_order_73 : decode cX0_order 73 = .ok (.putfield 16, 3) := by decide +kernel
theorem dX0_order_76 : decode cX0_order 76 = .ok (.aload_n 0, 1) := by decide +kernel
theorem dX0_order_77 : decode cX0_order 77 = .ok (.getfield 16, 3) := by decide +kernel
theorem dX0_order_80 : decode cX0_order 80 = .ok (.ireturn, 1) := by decide +kernel
set_option maxRecDepth 20000 in
theorem ggX0_corner_X0_isFunction : GoodIn wsX0_corner wsX0_isFunction := goodIn_r _ [5, 6, 47, 48, 49, 50, 51, 52, 53, 54, 55, 56, 57, 58] (by decide +kernel) (by decide +kernel)
set_option maxRecDepth 20000 in
theorem gX0_corner_X0_isFunction : GoodIn wsX0_corner (wsV RX0 119 RX0 yX0_isFunction wsX0_isFunction) := goodIn_app (goodIn_of _ (by decide +kernel)) ggX0_corner_X0_isFunction
set_option maxRecDepth 20000 in
theorem ggX0_corner_X0_isElement : GoodIn wsX0_corner wsX0_isElement := goodIn_r _ [10, 11, 47, 48, 49, 50, 51, 52, 53, 54, 55, 56, 57, 58] (by decide +kernel) (by decide +kernel)
set_option maxRecDepth 20000 in
theorem gX0_corner_X0_isElement : GoodIn wsX0_corner (wsV RX0 61 RX0 yX0_isElement wsX0_isElement) := goodIn_app (goodIn_of _ (by decide +kernel)) ggX0_corner_X0_isElement
set_option maxRecDepth 20000 in
theorem ggX0_corner_X0_needIndex : GoodIn wsX0_corner wsX0_needIndex := goodIn_ca (goodIn_r _ [14, 15, 16] (by decide +kernel) (by decide +kernel)) (goodIn_sub (fun _ h => List.mem_cons_of_mem _ (List.mem_append_left _ (List.mem_append_right _ h))) (by decide +kernel))
set_option maxRecDepth 20000 in
theorem gX0_corner_X0_needIndex : GoodIn wsX0_corner (va_wsS RX0 65 yX0_needIndex wsX0_needIndex) := goodIn_app (goodIn_of _ (by decide +kernel)) ggX0_corner_X0_needIndex
set_option maxRecDepth 20000 in
theorem ggX0_corner_X0_isTold : GoodIn wsX0_corner wsX0_isTold := goodIn_r _ [20, 21, 22, 23, 24, 4, 25, 47, 48, 49, 50, 51, 52, 53, 54, 55, 56, 57, 58] (by decide +kernel) (by decide +kernel)
set_option maxRecDepth 20000 in
theorem gX0_corner_X0_isTold : GoodIn wsX0_corner (wsV RX0 147 RX0 yX0_isTold wsX0_isTold) := goodIn_app (goodIn_of _ (by decide +kernel)) ggX0_corner_X0_isTold
set_option maxRecDepth 20000 in
theorem ggX0_corner_X0_needState : GoodIn wsX0_corner wsX0_needState := goodIn_ca (goodIn_r _ [28, 29, 30] (by decide +kernel) (by decide +kernel)) (goodIn_sub (fun _ h => List.mem_cons_of_mem _ (List.mem_append_right _ h)) (by decide +kernel))
set_option maxRecDepth 20000 in
theorem gX0_corner_X0_needState : GoodIn wsX0_corner (va_wsS RX0 140 yX0_needState wsX0_needState) := goodIn_app (goodIn_of _ (by decide +kernel)) ggX0_corner_X0_needState
set_option maxRecDepth 20000 in
theorem ggX0_corner_X0_aheadOf : GoodIn wsX0_corner wsX0_aheadOf := goodIn_r _ [34, 21, 22, 23, 24, 4, 25, 35, 36, 37, 47, 48, 49, 50, 51, 52, 53, 54, 55, 56, 57, 58] (by decide +kernel) (by decide +kernel)
set_option maxRecDepth 20000 in
theorem gX0_corner_X0_aheadOf : GoodIn wsX0_corner (wsV RX0 150 RX0 yX0_aheadOf wsX0_aheadOf) := goodIn_app (goodIn_of _ (by decide +kernel)) ggX0_corner_X0_aheadOf
set_option maxRecDepth 20000 in
theorem ggX0_corner_X0_gain : GoodIn wsX0_corner wsX0_gain := goodIn_r _ [41, 35, 36, 4, 37, 42, 43, 44, 45, 46, 23, 24, 25, 47, 48, 49, 50, 51, 52, 53, 54, 55, 56, 57, 58] (by decide +kernel) (by decide +kernel)
set_option maxRecDepth 20000 in
theorem gX0_corner_X0_gain : GoodIn wsX0_corner (wsV RX0 136 RX0 yX0_gain wsX0_gain) := goodIn_app (goodIn_of _ (by decide +kernel)) ggX0_corner_X0_gain
theorem dX0_corner_0 : decode cX0_corner 0 = .ok (.aload_n 0, 1) := by decide +kernel
theorem dX0_corner_1 : decode cX0_corner 1 = .ok (.iload_n 1, 1) := by decide +kernel
theorem dX0_corner_2 : decode cX0_corner 2 = .ok (.invokevirtual 119, 3) := by decide +kernel
theorem dX0_corner_5 : decode cX0_corner 5 = .ok (.ifCond .eq 15, 3) := by decide +kernel
theorem dX0_corner_8 : decode cX0_corner 8 = .ok (.aload_n 0, 1) := by decide +kernel
theorem dX0_corner_9 : decode cX0_corner 9 = .ok (.iload_n 2, 1) := by decide +kernel
theorem dX0_corner_10 : decode cX0_corner 10 = .ok (.invokevirtual 61, 3) := by decide +kernel
theorem dX0_corner_13 : decode cX0_corner 13 = .ok (.ifCond .eq 7, 3) := by decide +kernel
theorem dX0_corner_16 : decode cX0_corner 16 = .ok (.iconst 1, 1) := by decide +kernel
theorem dX0_corner_17 : decode cX0_corner 17 = .ok (.goto 4, 3) := by decide +kernel
theorem dX0_corner_20 : decode cX0_corner 20 = .ok (.iconst 0, 1) := by decide +kernel
theorem dX0_corner_21 : decode cX0_corner 21 = .ok (.invokestatic 65, 3) := by decide +kernel
theorem dX0_corner_24 : decode cX0_corner 24 = .ok (.aload_n 0, 1) := by decide +kernel
theorem dX0_corner_25 : decode cX0_corner 25 = .ok (.iload_n 2, 1) := by decide +kernel
theorem dX0_corner_26 : decode cX0_corner 26 = .ok (.invokevirtual 147, 3) := by decide +kernel
theorem dX0_corner_29 : decode cX0_corner 29 = .ok (.invokestatic 140, 3) := by decide +kernel
theorem dX0_corner_32 : decode cX0_corner 32 = .ok (.aload_n 0, 1) := by decide +kernel
theorem dX0_corner_33 : decode cX0_corner 33 = .ok (.iload_n 1, 1) := by decide +kernel
theorem dX0_corner_34 : decode cX0_corner 34 = .ok (.aload_n 0, 1) := by decide +kernel
theorem dX0_corner_35 : decode cX0_corner 35 = .ok (.iload_n 2, 1) := by decide +kernel
theorem dX0_corner_36 : decode cX0_corner 36 = .ok (.invokevirtual 150, 3) := by decide +kernel
theorem dX0_corner_39 : decode cX0_corner 39 = .ok (.iload_n 2, 1) := by decide +kernel
theorem dX0_corner_40 : decode cX0_corner 40 = .ok (.invokevirtual 136, 3) := by decide +kernel
theorem dX0_corner_43 : decode cX0_corner 43 = .ok (.ireturn, 1) := by decide +kernel
set_option maxRecDepth 20000 in
theorem ggX0_greedy_X0_isFunction : GoodIn wsX0_greedy wsX0_isFunction := goodIn_r _ [5, 6, 40, 41, 42, 43, 44, 45, 46, 47, 48, 49, 50, 51] (by decide +kernel) (by decide +kernel)
set_option maxRecDepth 20000 in
theorem gX0_greedy_X0_isFunction : GoodIn wsX0_greedy (wsV RX0 119 RX0 yX0_isFunction wsX0_isFunction) := goodIn_app (goodIn_of _ (by decide +kernel)) ggX0_greedy_X0_isFunction
set_option maxRecDepth 20000 in
theorem ggX0_greedy_X0_needIndex : GoodIn wsX0_greedy wsX0_needIndex := goodIn_ca (goodIn_r _ [9, 10, 11] (by decide +kernel) (by decide +kernel)) (goodIn_sub (fun _ h => List.mem_cons_of_mem _ (List.mem_append_left _ (List.mem_append_right _ h))) (by decide +kernel))
set_option maxRecDepth 20000 in
theorem gX0_greedy_X0_needIndex : GoodIn wsX0_greedy (va_wsS RX0 65 yX0_needIndex wsX0_needIndex) := goodIn_app (goodIn_of _ (by decide +kernel)) ggX0_greedy_X0_needIndex
set_option maxRecDepth 20000 in
theorem ggX0_greedy_X0_isWithin : GoodIn wsX0_greedy wsX0_isWithin := goodIn_r _ [14] (by decide +kernel) (by decide +kernel)
set_option maxRecDepth 20000 in
theorem gX0_greedy_X0_isWithin : GoodIn wsX0_greedy (va_wsS RX0 53 yX0_isWithin wsX0_isWithin) := goodIn_app (goodIn_of _ (by decide +kernel)) ggX0_greedy_X0_isWithin
set_option maxRecDepth 20000 in
theorem ggX0_greedy_X0_needArgument : GoodIn wsX0_greedy wsX0_needArgument := goodIn_ca (goodIn_r _ [17, 18, 19] (by decide +kernel) (by decide +kernel)) (goodIn_sub (fun _ h => List.mem_cons_of_mem _ (List.mem_append_right _ h)) (by decide +kernel))
set_option maxRecDepth 20000 in
theorem gX0_greedy_X0_needArgument : GoodIn wsX0_greedy (va_wsS RX0 57 yX0_needArgument wsX0_needArgument) := goodIn_app (goodIn_of _ (by decide +kernel)) ggX0_greedy_X0_needArgument
set_option maxRecDepth 20000 in
theorem ggX0_greedy_X0_greediest : GoodIn wsX0_greedy wsX0_greediest := goodIn_r _ [23, 24, 25, 26, 27, 4, 28, 29, 30, 31, 32, 33, 34, 35, 36, 37, 38, 39, 40, 41, 42, 43, 44, 45, 46, 47, 48, 49, 50, 51] (by decide +kernel) (by decide +kernel)
set_option maxRecDepth 20000 in
theorem gX0_greedy_X0_greediest : GoodIn wsX0_greedy (wsV RX0 154 RX0 yX0_greediest wsX0_greediest) := goodIn_app (goodIn_of _ (by decide +kernel)) ggX0_greedy_X0_greediest
set_option maxRecDepth 20000 in
theorem ggX0_greedy_X0_with : GoodIn wsX0_greedy wsX0_with := goodIn_r _ [31] (by decide +kernel) (by decide +kernel)
set_option maxRecDepth 20000 in
theorem gX0_greedy_X0_with : GoodIn wsX0_greedy (va_wsS RX0 72 yX0_with wsX0_with) := goodIn_app (goodIn_of _ (by decide +kernel)) ggX0_greedy_X0_with
theorem dX0_greedy_0 : decode cX0_greedy 0 = .ok (.aload_n 0, 1) := by decide +kernel
theorem dX0_greedy_1 : decode cX0_greedy 1 = .ok (.iload_n 1, 1) := by decide +kernel
theorem dX0_greedy_2 : decode cX0_greedy 2 = .ok (.invokevirtual 119, 3) := by decide +kernel
theorem dX0_greedy_5 : decode cX0_greedy 5 = .ok (.invokestatic 65, 3) := by decide +kernel
theorem dX0_greedy_8 : decode cX0_greedy 8 = .ok (.iload_n 2, 1) := by decide +kernel
theorem dX0_greedy_9 : decode cX0_greedy 9 = .ok (.iconst 0, 1) := by decide +kernel
theorem dX0_greedy_10 : decode cX0_greedy 10 = .ok (.bipush 6, 2) := by decide +kernel
theorem dX0_greedy_12 : decode cX0_greedy 12 = .ok (.invokestatic 53, 3) := by decide +kernel
theorem dX0_greedy_15 : decode cX0_greedy 15 = .ok (.invokestatic 57, 3) := by decide +kernel
theorem dX0_greedy_18 : decode cX0_greedy 18 = .ok (.iconst 0, 1) := by decide +kernel
theorem dX0_greedy_19 : decode cX0_greedy 19 = .ok (.istore_n 3, 1) := by decide +kernel
theorem dX0_greedy_20 : decode cX0_greedy 20 = .ok (.iconst 0, 1) := by decide +kernel
theorem dX0_greedy_21 : decode cX0_greedy 21 = .ok (.istore 4, 2) := by decide +kernel
theorem dX0_greedy_23 : decode cX0_greedy 23 = .ok (.iload 4, 2) := by decide +kernel
theorem dX0_greedy_25 : decode cX0_greedy 25 = .ok (.iload_n 2, 1) := by decide +kernel
theorem dX0_greedy_26 : decode cX0_greedy 26 = .ok (.if_icmp .ge 32, 3) := by decide +kernel
theorem dX0_greedy_29 : decode cX0_greedy 29 = .ok (.aload_n 0, 1) := by decide +kernel
theorem dX0_greedy_30 : decode cX0_greedy 30 = .ok (.iload_n 1, 1) := by decide +kernel
theorem dX0_greedy_31 : decode cX0_greedy 31 = .ok (.iload_n 3, 1) := by decide +kernel
theorem dX0_greedy_32 : decode cX0_greedy 32 = .ok (.invokevirtual 154, 3) := by decide +kernel
theorem dX0_greedy_35 : decode cX0_greedy 35 = .ok (.istore 5, 2) := by decide +kernel
theorem dX0_greedy_37 : decode cX0_greedy 37 = .ok (.iload 5, 2) := by decide +kernel
theorem dX0_greedy_39 : decode cX0_greedy 39 = .ok (.iconst (-1), 1) := by decide +kernel
theorem dX0_greedy_40 : decode cX0_greedy 40 = .ok (.if_icmp .ne 5, 3) := by decide +kernel
theorem dX0_greedy_43 : decode cX0_greedy 43 = .ok (.iload_n 3, 1) := by decide +kernel
theorem dX0_greedy_44 : decode cX0_greedy 44 = .ok (.ireturn, 1) := by decide +kernel
theorem dX0_greedy_45 : decode cX0_greedy 45 = .ok (.iload_n 3, 1) := by decide +kernel
theorem dX0_greedy_46 : decode cX0_greedy 46 = .ok (.iload 5, 2) := by decide +kernel
theorem dX0_greedy_48 : decode cX0_greedy 48 = .ok (.invokestatic 72, 3) := by decide +kernel
theorem dX0_greedy_51 : decode cX0_greedy 51 = .ok (.istore_n 3, 1) := by decide +kernel
theorem dX0_greedy_52 : decode cX0_greedy 52 = .ok (.iinc 4 1, 3) := by decide +kernel
theorem dX0_greedy_55 : decode cX0_greedy 55 = .ok (.goto (-32), 3) := by decide +kernel
theorem dX0_greedy_58 : decode cX0_greedy 58 = .ok (.iload_n 3, 1) := by decide +kernel
theorem dX0_greedy_59 : decode cX0_greedy 59 = .ok (.ireturn, 1) := by decide +kernel
set_option maxRecDepth 20000 in
theorem ggX0_best_X0_isFunction : GoodIn wsX0_best wsX0_isFunction := goodIn_r _ [9, 10, 44, 45, 46, 47, 48, 49, 50, 51, 52, 53, 54, 55] (by decide +kernel) (by decide +kernel)
set_option maxRecDepth 20000 in
theorem gX0_best_X0_isFunction : GoodIn wsX0_best (wsV RX0 119 RX0 yX0_isFunction wsX0_isFunction) := goodIn_app (goodIn_of _ (by decide +kernel)) ggX0_best_X0_isFunction
set_option maxRecDepth 20000 in
theorem ggX0_best_X0_needIndex : GoodIn wsX0_best wsX0_needIndex := goodIn_ca (goodIn_r _ [13, 14, 15] (by decide +kernel) (by decide +kernel)) (goodIn_sub (fun _ h => List.mem_cons_of_mem _ (List.mem_append_left _ (List.mem_append_right _ h))) (by decide +kernel))
set_option maxRecDepth 20000 in
theorem gX0_best_X0_needIndex : GoodIn wsX0_best (va_wsS RX0 65 yX0_needIndex wsX0_needIndex) := goodIn_app (goodIn_of _ (by decide +kernel)) ggX0_best_X0_needIndex
set_option maxRecDepth 20000 in
theorem ggX0_best_X0_isWithin : GoodIn wsX0_best wsX0_isWithin := goodIn_r _ [18] (by decide +kernel) (by decide +kernel)
set_option maxRecDepth 20000 in
theorem gX0_best_X0_isWithin : GoodIn wsX0_best (va_wsS RX0 53 yX0_isWithin wsX0_isWithin) := goodIn_app (goodIn_of _ (by decide +kernel)) ggX0_best_X0_isWithin
set_option maxRecDepth 20000 in
theorem ggX0_best_X0_needArgument : GoodIn wsX0_best wsX0_needArgument := goodIn_ca (goodIn_r _ [21, 22, 23] (by decide +kernel) (by decide +kernel)) (goodIn_sub (fun _ h => List.mem_cons_of_mem _ (List.mem_append_right _ h)) (by decide +kernel))
set_option maxRecDepth 20000 in
theorem gX0_best_X0_needArgument : GoodIn wsX0_best (va_wsS RX0 57 yX0_needArgument wsX0_needArgument) := goodIn_app (goodIn_of _ (by decide +kernel)) ggX0_best_X0_needArgument
set_option maxRecDepth 20000 in
theorem ggX0_best_X0_sets : GoodIn wsX0_best wsX0_sets := goodIn_r _ [27, 28, 44, 45, 46, 47, 48, 49, 50, 51, 52, 53, 54, 55] (by decide +kernel) (by decide +kernel)
set_option maxRecDepth 20000 in
theorem gX0_best_X0_sets : GoodIn wsX0_best (wsV RX0 105 RX0 yX0_sets wsX0_sets) := goodIn_app (goodIn_of _ (by decide +kernel)) ggX0_best_X0_sets
set_option maxRecDepth 20000 in
theorem ggX0_best_J6_bitCount_0f7a4 : GoodIn wsX0_best wsJ6_bitCount_0f7a4 := goodIn_r _ [32, 33, 34, 35] (by decide +kernel) (by decide +kernel)
set_option maxRecDepth 20000 in
theorem gX0_best_J6_bitCount_0f7a4 : GoodIn wsX0_best (va_wsS RX0 157 yJ6_bitCount_0f7a4 wsJ6_bitCount_0f7a4) := goodIn_app (goodIn_of _ (by decide +kernel)) ggX0_best_J6_bitCount_0f7a4
set_option maxRecDepth 20000 in
theorem ggX0_best_X0_valueOf : GoodIn wsX0_best wsX0_valueOf := goodIn_r _ [39, 40, 41, 42, 8, 43, 44, 45, 46, 47, 48, 49, 50, 51, 52, 53, 54, 55] (by decide +kernel) (by decide +kernel)
set_option maxRecDepth 20000 in
theorem gX0_best_X0_valueOf : GoodIn wsX0_best (wsV RX0 122 RX0 yX0_valueOf wsX0_valueOf) := goodIn_app (goodIn_of _ (by decide +kernel)) ggX0_best_X0_valueOf
theorem dX0_best_0 : decode cX0_best 0 = .ok (.aload_n 0, 1) := by decide +kernel
theorem dX0_best_1 : decode cX0_best 1 = .ok (.iload_n 1, 1) := by decide +kernel
theorem dX0_best_2 : decode cX0_best 2 = .ok (.invokevirtual 119, 3) := by decide +kernel
theorem dX0_best_5 : decode cX0_best 5 = .ok (.invokestatic 65, 3) := by decide +kernel
theorem dX0_best_8 : decode cX0_best 8 = .ok (.iload_n 2, 1) := by decide +kernel
theorem dX0_best_9 : decode cX0_best 9 = .ok (.iconst 0, 1) := by decide +kernel
theorem dX0_best_10 : decode cX0_best 10 = .ok (.bipush 6, 2) := by decide +kernel
theorem dX0_best_12 : decode cX0_best 12 = .ok (.invokestatic 53, 3) := by decide +kernel
theorem dX0_best_15 : decode cX0_best 15 = .ok (.invokestatic 57, 3) := by decide +kernel
theorem dX0_best_18 : decode cX0_best 18 = .ok (.iconst 0, 1) := by decide +kernel
theorem dX0_best_19 : decode cX0_best 19 = .ok (.istore_n 3, 1) := by decide +kernel
theorem dX0_best_20 : decode cX0_best 20 = .ok (.iconst 0, 1) := by decide +kernel
theorem dX0_best_21 : decode cX0_best 21 = .ok (.istore 4, 2) := by decide +kernel
theorem dX0_best_23 : decode cX0_best 23 = .ok (.iload 4, 2) := by decide +kernel
theorem dX0_best_25 : decode cX0_best 25 = .ok (.aload_n 0, 1) := by decide +kernel
theorem dX0_best_26 : decode cX0_best 26 = .ok (.invokevirtual 105, 3) := by decide +kernel
theorem dX0_best_29 : decode cX0_best 29 = .ok (.if_icmp .ge 30, 3) := by decide +kernel
theorem dX0_best_32 : decode cX0_best 32 = .ok (.iload 4, 2) := by decide +kernel
theorem dX0_best_34 : decode cX0_best 34 = .ok (.invokestatic 157, 3) := by decide +kernel
theorem dX0_best_37 : decode cX0_best 37 = .ok (.iload_n 2, 1) := by decide +kernel
theorem dX0_best_38 : decode cX0_best 38 = .ok (.if_icmp .gt 15, 3) := by decide +kernel
theorem dX0_best_41 : decode cX0_best 41 = .ok (.iload_n 3, 1) := by decide +kernel
theorem dX0_best_42 : decode cX0_best 42 = .ok (.aload_n 0, 1) := by decide +kernel
theorem dX0_best_43 : decode cX0_best 43 = .ok (.iload_n 1, 1) := by decide +kernel
theorem dX0_best_44 : decode cX0_best 44 = .ok (.iload 4, 2) := by decide +kernel
theorem dX0_best_46 : decode cX0_best 46 = .ok (.invokevirtual 122, 3) := by decide +kernel
theorem dX0_best_49 : decode cX0_best 49 = .ok (.invokestatic 162, 3) := by decide +kernel
theorem dX0_best_52 : decode cX0_best 52 = .ok (.istore_n 3, 1) := by decide +kernel
theorem dX0_best_53 : decode cX0_best 53 = .ok (.iinc 4 1, 3) := by decide +kernel
theorem dX0_best_56 : decode cX0_best 56 = .ok (.goto (-33), 3) := by decide +kernel
theorem dX0_best_59 : decode cX0_best 59 = .ok (.iload_n 3, 1) := by decide +kernel
theorem dX0_best_60 : decode cX0_best 60 = .ok (.ireturn, 1) := by decide +kernel
set_option maxRecDepth 20000 in
theorem ggX0_common_X0_endOfPath : GoodIn wsX0_common wsX0_endOfPath := goodIn_r _ [6, 7, 8, 9, 10, 5, 11, 12, 1, 13, 14, 15, 16, 17, 18, 19, 20, 21, 22, 23, 24, 25, 26, 27, 28, 29, 30, 31, 32, 33, 34, 35, 36, 37, 38, 39, 40, 41, 42, 43, 44, 45, 46, 47, 48, 49, 50, 51, 63, 64, 65, 66, 67, 68, 69, 70, 71, 72, 73, 74] (by decide +kernel) (by decide +kernel)
set_option maxRecDepth 20000 in
theorem gX0_common_X0_endOfPath : GoodIn wsX0_common (wsV RX0 165 RX0 yX0_endOfPath wsX0_endOfPath) := goodIn_app (goodIn_of _ (by decide +kernel)) ggX0_common_X0_endOfPath
set_option maxRecDepth 20000 in
theorem ggX0_common_J6_bitCount_0f7a4 : GoodIn wsX0_common wsJ6_bitCount_0f7a4 := goodIn_r _ [55, 56, 57, 58] (by decide +kernel) (by decide +kernel)
set_option maxRecDepth 20000 in
theorem gX0_common_J6_bitCount_0f7a4 : GoodIn wsX0_common (va_wsS RX0 157 yJ6_bitCount_0f7a4 wsJ6_bitCount_0f7a4) := goodIn_app (goodIn_of _ (by decide +kernel)) ggX0_common_J6_bitCount_0f7a4
set_option maxRecDepth 20000 in
theorem ggX0_common_X0_flippedAlong : GoodIn wsX0_common wsX0_flippedAlong := goodIn_r _ [62, 1, 12, 26, 27, 5, 28, 63, 64, 65, 66, 67, 68, 69, 70, 71, 72, 73, 74] (by decide +kernel) (by decide +kernel)
set_option maxRecDepth 20000 in
theorem gX0_common_X0_flippedAlong : GoodIn wsX0_common (wsV RX0 168 RX0 yX0_flippedAlong wsX0_flippedAlong) := goodIn_app (goodIn_of _ (by decide +kernel)) ggX0_common_X0_flippedAlong
theorem dX0_common_0 : decode cX0_common 0 = .ok (.iconst 0, 1) := by decide +kernel
theorem dX0_common_1 : decode cX0_common 1 = .ok (.istore_n 1, 1) := by decide +kernel
theorem dX0_common_2 : decode cX0_common 2 = .ok (.iconst 0, 1) := by decide +kernel
theorem dX0_common_3 : decode cX0_common 3 = .ok (.istore_n 2, 1) := by decide +kernel
theorem dX0_common_4 : decode cX0_common 4 = .ok (.iload_n 2, 1) := by decide +kernel
theorem dX0_common_5 : decode cX0_common 5 = .ok (.aload_n 0, 1) := by decide +kernel
theorem dX0_common_6 : decode cX0_common 6 = .ok (.getfield 9, 3) := by decide +kernel
theorem dX0_common_9 : decode cX0_common 9 = .ok (.if_icmp .ge 32, 3) := by decide +kernel
theorem dX0_common_12 : decode cX0_common 12 = .ok (.aload_n 0, 1) := by decide +kernel
theorem dX0_common_13 : decode cX0_common 13 = .ok (.iload_n 1, 1) := by decide +kernel
theorem dX0_common_14 : decode cX0_common 14 = .ok (.invokevirtual 165, 3) := by decide +kernel
theorem dX0_common_17 : decode cX0_common 17 = .ok (.istore_n 3, 1) := by decide +kernel
theorem dX0_common_18 : decode cX0_common 18 = .ok (.iload_n 3, 1) := by decide +kernel
theorem dX0_common_19 : decode cX0_common 19 = .ok (.iconst (-1), 1) := by decide +kernel
theorem dX0_common_20 : decode cX0_common 20 = .ok (.if_icmp .ne 8, 3) := by decide +kernel
theorem dX0_common_23 : decode cX0_common 23 = .ok (.iload_n 1, 1) := by decide +kernel
theorem dX0_common_24 : decode cX0_common 24 = .ok (.invokestatic 157, 3) := by decide +kernel
theorem dX0_common_27 : decode cX0_common 27 = .ok (.ireturn, 1) := by decide +kernel
theorem dX0_common_28 : decode cX0_common 28 = .ok (.aload_n 0, 1) := by decide +kernel
theorem dX0_common_29 : decode cX0_common 29 = .ok (.iload_n 1, 1) := by decide +kernel
theorem dX0_common_30 : decode cX0_common 30 = .ok (.iload_n 3, 1) := by decide +kernel
theorem dX0_common_31 : decode cX0_common 31 = .ok (.invokevirtual 168, 3) := by decide +kernel
theorem dX0_common_34 : decode cX0_common 34 = .ok (.istore_n 1, 1) := by decide +kernel
theorem dX0_common_35 : decode cX0_common 35 = .ok (.iinc 2 1, 3) := by decide +kernel
theorem dX0_common_38 : decode cX0_common 38 = .ok (.goto (-34), 3) := by decide +kernel
theorem dX0_common_41 : decode cX0_common 41 = .ok (.iload_n 1, 1) := by decide +kernel
theorem dX0_common_42 : decode cX0_common 42 = .ok (.invokestatic 157, 3) := by decide +kernel
theorem dX0_common_45 : decode cX0_common 45 = .ok (.ireturn, 1) := by decide +kernel
set_option maxRecDepth 20000 in
theorem ggX0_commonAnew_X0_sets : GoodIn wsX0_commonAnew wsX0_sets := goodIn_r _ [9, 10, 42, 43, 44, 45, 46, 47, 48, 49, 50, 51, 52, 53] (by decide +kernel) (by decide +kernel)
set_option maxRecDepth 20000 in
theorem gX0_commonAnew_X0_sets : GoodIn wsX0_commonAnew (wsV RX0 105 RX0 yX0_sets wsX0_sets) := goodIn_app (goodIn_of _ (by decide +kernel)) ggX0_commonAnew_X0_sets
set_option maxRecDepth 20000 in
theorem ggX0_commonAnew_X0_isFair : GoodIn wsX0_commonAnew wsX0_isFair := goodIn_r _ [14, 15, 16, 17, 8, 18, 10, 19, 20, 21, 22, 23, 24, 25, 26, 27, 28, 29, 30, 31, 32, 33, 34, 42, 43, 44, 45, 46, 47, 48, 49, 50, 51, 52, 53] (by decide +kernel) (by decide +kernel)
set_option maxRecDepth 20000 in
theorem gX0_commonAnew_X0_isFair : GoodIn wsX0_commonAnew (wsV RX0 171 RX0 yX0_isFair wsX0_isFair) := goodIn_app (goodIn_of _ (by decide +kernel)) ggX0_commonAnew_X0_isFair
set_option maxRecDepth 20000 in
theorem ggX0_commonAnew_J6_bitCount_0f7a4 : GoodIn wsX0_commonAnew wsJ6_bitCount_0f7a4 := goodIn_r _ [38, 39, 40, 41] (by decide +kernel) (by decide +kernel)
set_option maxRecDepth 20000 in
theorem gX0_commonAnew_J6_bitCount_0f7a4 : GoodIn wsX0_commonAnew (va_wsS RX0 157 yJ6_bitCount_0f7a4 wsJ6_bitCount_0f7a4) := goodIn_app (goodIn_of _ (by decide +kernel)) ggX0_commonAnew_J6_bitCount_0f7a4
theorem dX0_commonAnew_0 : decode cX0_commonAnew 0 = .ok (.iconst 0, 1) := by decide +kernel
theorem dX0_commonAnew_1 : decode cX0_commonAnew 1 = .ok (.istore_n 1, 1) := by decide +kernel
theorem dX0_commonAnew_2 : decode cX0_commonAnew 2 = .ok (.iconst 0, 1) := by decide +kernel
theorem dX0_commonAnew_3 : decode cX0_commonAnew 3 = .ok (.istore_n 2, 1) := by decide +kernel
theorem dX0_commonAnew_4 : decode cX0_commonAnew 4 = .ok (.iload_n 2, 1) := by decide +kernel
theorem dX0_commonAnew_5 : decode cX0_commonAnew 5 = .ok (.aload_n 0, 1) := by decide +kernel
theorem dX0_commonAnew_6 : decode cX0_commonAnew 6 = .ok (.invokevirtual 105, 3) := by decide +kernel
theorem dX0_commonAnew_9 : decode cX0_commonAnew 9 = .ok (.if_icmp .ge 36, 3) := by decide +kernel
theorem dX0_commonAnew_12 : decode cX0_commonAnew 12 = .ok (.aload_n 0, 1) := by decide +kernel
theorem dX0_commonAnew_13 : decode cX0_commonAnew 13 = .ok (.iconst 0, 1) := by decide +kernel
theorem dX0_commonAnew_14 : decode cX0_commonAnew 14 = .ok (.iload_n 2, 1) := by decide +kernel
theorem dX0_commonAnew_15 : decode cX0_commonAnew 15 = .ok (.invokevirtual 171, 3) := by decide +kernel
theorem dX0_commonAnew_18 : decode cX0_commonAnew 18 = .ok (.ifCond .eq 21, 3) := by decide +kernel
theorem dX0_commonAnew_21 : decode cX0_commonAnew 21 = .ok (.aload_n 0, 1) := by decide +kernel
theorem dX0_commonAnew_22 : decode cX0_commonAnew 22 = .ok (.iconst 1, 1) := by decide +kernel
theorem dX0_commonAnew_23 : decode cX0_commonAnew 23 = .ok (.iload_n 2, 1) := by decide +kernel
theorem dX0_commonAnew_24 : decode cX0_commonAnew 24 = .ok (.invokevirtual 171, 3) := by decide +kernel
theorem dX0_commonAnew_27 : decode cX0_commonAnew 27 = .ok (.ifCond .eq 12, 3) := by decide +kernel
theorem dX0_commonAnew_30 : decode cX0_commonAnew 30 = .ok (.iload_n 1, 1) := by decide +kernel
theorem dX0_commonAnew_31 : decode cX0_commonAnew 31 = .ok (.iload_n 2, 1) := by decide +kernel
theorem dX0_commonAnew_32 : decode cX0_commonAnew 32 = .ok (.invokestatic 157, 3) := by decide +kernel
theorem dX0_commonAnew_35 : decode cX0_commonAnew 35 = .ok (.invokestatic 162, 3) := by decide +kernel
theorem dX0_commonAnew_38 : decode cX0_commonAnew 38 = .ok (.istore_n 1, 1) := by decide +kernel
theorem dX0_commonAnew_39 : decode cX0_commonAnew 39 = .ok (.iinc 2 1, 3) := by decide +kernel
theorem dX0_commonAnew_42 : decode cX0_commonAnew 42 = .ok (.goto (-38), 3) := by decide +kernel
theorem dX0_commonAnew_45 : decode cX0_commonAnew 45 = .ok (.iload_n 1, 1) := by decide +kernel
theorem dX0_commonAnew_46 : decode cX0_commonAnew 46 = .ok (.ireturn, 1) := by decide +kernel
set_option maxRecDepth 20000 in
theorem ggX0_share_X0_isFunction : GoodIn wsX0_share wsX0_isFunction := goodIn_r _ [6, 7, 49, 50, 51, 52, 53, 54, 55, 56, 57, 58, 59, 60] (by decide +kernel) (by decide +kernel)
set_option maxRecDepth 20000 in
theorem gX0_share_X0_isFunction : GoodIn wsX0_share (wsV RX0 119 RX0 yX0_isFunction wsX0_isFunction) := goodIn_app (goodIn_of _ (by decide +kernel)) ggX0_share_X0_isFunction
set_option maxRecDepth 20000 in
theorem ggX0_share_X0_isElement : GoodIn wsX0_share wsX0_isElement := goodIn_r _ [11, 1, 49, 50, 51, 52, 53, 54, 55, 56, 57, 58, 59, 60] (by decide +kernel) (by decide +kernel)
set_option maxRecDepth 20000 in
theorem gX0_share_X0_isElement : GoodIn wsX0_share (wsV RX0 61 RX0 yX0_isElement wsX0_isElement) := goodIn_app (goodIn_of _ (by decide +kernel)) ggX0_share_X0_isElement
set_option maxRecDepth 20000 in
theorem ggX0_share_X0_needIndex : GoodIn wsX0_share wsX0_needIndex := goodIn_ca (goodIn_r _ [14, 15, 16] (by decide +kernel) (by decide +kernel)) (goodIn_sub (fun _ h => List.mem_cons_of_mem _ (List.mem_append_right _ h)) (by decide +kernel))
set_option maxRecDepth 20000 in
theorem gX0_share_X0_needIndex : GoodIn wsX0_share (va_wsS RX0 65 yX0_needIndex wsX0_needIndex) := goodIn_app (goodIn_of _ (by decide +kernel)) ggX0_share_X0_needIndex
set_option maxRecDepth 20000 in
theorem ggX0_share_X0_sets : GoodIn wsX0_share wsX0_sets := goodIn_r _ [20, 1, 49, 50, 51, 52, 53, 54, 55, 56, 57, 58, 59, 60] (by decide +kernel) (by decide +kernel)
set_option maxRecDepth 20000 in
theorem gX0_share_X0_sets : GoodIn wsX0_share (wsV RX0 105 RX0 yX0_sets wsX0_sets) := goodIn_app (goodIn_of _ (by decide +kernel)) ggX0_share_X0_sets
set_option maxRecDepth 20000 in
theorem ggX0_share_X0_has : GoodIn wsX0_share wsX0_has := goodIn_r _ [23] (by decide +kernel) (by decide +kernel)
set_option maxRecDepth 20000 in
theorem gX0_share_X0_has : GoodIn wsX0_share (va_wsS RX0 83 yX0_has wsX0_has) := goodIn_app (goodIn_of _ (by decide +kernel)) ggX0_share_X0_has
set_option maxRecDepth 20000 in
theorem ggX0_share_J6_bitCount_0f7a4 : GoodIn wsX0_share wsJ6_bitCount_0f7a4 := goodIn_r _ [27, 28, 29, 30] (by decide +kernel) (by decide +kernel)
set_option maxRecDepth 20000 in
theorem gX0_share_J6_bitCount_0f7a4 : GoodIn wsX0_share (va_wsS RX0 157 yJ6_bitCount_0f7a4 wsJ6_bitCount_0f7a4) := goodIn_app (goodIn_of _ (by decide +kernel)) ggX0_share_J6_bitCount_0f7a4
set_option maxRecDepth 20000 in
theorem ggX0_share_X0_ordersOf : GoodIn wsX0_share wsX0_ordersOf := goodIn_r _ [33] (by decide +kernel) (by decide +kernel)
set_option maxRecDepth 20000 in
theorem gX0_share_X0_ordersOf : GoodIn wsX0_share (va_wsS RX0 174 yX0_ordersOf wsX0_ordersOf) := goodIn_app (goodIn_of _ (by decide +kernel)) ggX0_share_X0_ordersOf
set_option maxRecDepth 20000 in
theorem ggX0_share_X0_gain : GoodIn wsX0_share wsX0_gain := goodIn_r _ [37, 38, 39, 5, 40, 41, 42, 43, 44, 45, 46, 47, 48, 49, 50, 51, 52, 53, 54, 55, 56, 57, 58, 59, 60] (by decide +kernel) (by decide +kernel)
set_option maxRecDepth 20000 in
theorem gX0_share_X0_gain : GoodIn wsX0_share (wsV RX0 136 RX0 yX0_gain wsX0_gain) := goodIn_app (goodIn_of _ (by decide +kernel)) ggX0_share_X0_gain
theorem dX0_share_0 : decode cX0_share 0 = .ok (.aload_n 0, 1) := by decide +kernel
theorem dX0_share_1 : decode cX0_share 1 = .ok (.iload_n 1, 1) := by decide +kernel
theorem dX0_share_2 : decode cX0_share 2 = .ok (.invokevirtual 119, 3) := by decide +kernel
theorem dX0_share_5 : decode cX0_share 5 = .ok (.ifCond .eq 15, 3) := by decide +kernel
theorem dX0_share_8 : decode cX0_share 8 = .ok (.aload_n 0, 1) := by decide +kernel
theorem dX0_share_9 : decode cX0_share 9 = .ok (.iload_n 2, 1) := by decide +kernel
theorem dX0_share_10 : decode cX0_share 10 = .ok (.invokevirtual 61, 3) := by decide +kernel
theorem dX0_share_13 : decode cX0_share 13 = .ok (.ifCond .eq 7, 3) := by decide +kernel
theorem dX0_share_16 : decode cX0_share 16 = .ok (.iconst 1, 1) := by decide +kernel
theorem dX0_share_17 : decode cX0_share 17 = .ok (.goto 4, 3) := by decide +kernel
theorem dX0_share_20 : decode cX0_share 20 = .ok (.iconst 0, 1) := by decide +kernel
theorem dX0_share_21 : decode cX0_share 21 = .ok (.invokestatic 65, 3) := by decide +kernel
theorem dX0_share_24 : decode cX0_share 24 = .ok (.iconst 0, 1) := by decide +kernel
theorem dX0_share_25 : decode cX0_share 25 = .ok (.istore_n 3, 1) := by decide +kernel
theorem dX0_share_26 : decode cX0_share 26 = .ok (.iconst 0, 1) := by decide +kernel
theorem dX0_share_27 : decode cX0_share 27 = .ok (.istore 4, 2) := by decide +kernel
theorem dX0_share_29 : decode cX0_share 29 = .ok (.iload 4, 2) := by decide +kernel
theorem dX0_share_31 : decode cX0_share 31 = .ok (.aload_n 0, 1) := by decide +kernel
theorem dX0_share_32 : decode cX0_share 32 = .ok (.invokevirtual 105, 3) := by decide +kernel
theorem dX0_share_35 : decode cX0_share 35 = .ok (.if_icmp .ge 59, 3) := by decide +kernel
theorem dX0_share_38 : decode cX0_share 38 = .ok (.iload 4, 2) := by decide +kernel
theorem dX0_share_40 : decode cX0_share 40 = .ok (.iload_n 2, 1) := by decide +kernel
theorem dX0_share_41 : decode cX0_share 41 = .ok (.invokestatic 83, 3) := by decide +kernel
theorem dX0_share_44 : decode cX0_share 44 = .ok (.ifCond .ne 44, 3) := by decide +kernel
theorem dX0_share_47 : decode cX0_share 47 = .ok (.iload 4, 2) := by decide +kernel
theorem dX0_share_49 : decode cX0_share 49 = .ok (.invokestatic 157, 3) := by decide +kernel
theorem dX0_share_52 : decode cX0_share 52 = .ok (.istore 5, 2) := by decide +kernel
theorem dX0_share_54 : decode cX0_share 54 = .ok (.iload 5, 2) := by decide +kernel
theorem dX0_share_56 : decode cX0_share 56 = .ok (.invokestatic 174, 3) := by decide +kernel
theorem dX0_share_59 : decode cX0_share 59 = .ok (.aload_n 0, 1) := by decide +kernel
theorem dX0_share_60 : decode cX0_share 60 = .ok (.getfield 9, 3) := by decide +kernel
theorem dX0_share_63 : decode cX0_share 63 = .ok (.iconst 1, 1) := by decide +kernel
theorem dX0_share_64 : decode cX0_share 64 = .ok (.isub, 1) := by decide +kernel
theorem dX0_share_65 : decode cX0_share 65 = .ok (.iload 5, 2) := by decide +kernel
theorem dX0_share_67 : decode cX0_share 67 = .ok (.isub, 1) := by decide +kernel
theorem dX0_share_68 : decode cX0_share 68 = .ok (.invokestatic 174, 3) := by decide +kernel
theorem dX0_share_71 : decode cX0_share 71 = .ok (.imul, 1) := by decide +kernel
theorem dX0_share_72 : decode cX0_share 72 = .ok (.istore 6, 2) := by decide +kernel
theorem dX0_share_74 : decode cX0_share 74 = .ok (.iload_n 3, 1) := by decide +kernel
theorem dX0_share_75 : decode cX0_share 75 = .ok (.iload 6, 2) := by decide +kernel
theorem dX0_share_77 : decode cX0_share 77 = .ok (.aload_n 0, 1) := by decide +kernel
theorem dX0_share_78 : decode cX0_share 78 = .ok (.iload_n 1, 1) := by decide +kernel
theorem dX0_share_79 : decode cX0_share 79 = .ok (.iload 4, 2) := by decide +kernel
theorem dX0_share_81 : decode cX0_share 81 = .ok (.iload_n 2, 1) := by decide +kernel
theorem dX0_share_82 : decode cX0_share 82 = .ok (.invokevirtual 136, 3) := by decide +kernel
theorem dX0_share_85 : decode cX0_share 85 = .ok (.imul, 1) := by decide +kernel
theorem dX0_share_86 : decode cX0_share 86 = .ok (.iadd, 1) := by decide +kernel
theorem dX0_share_87 : decode cX0_share 87 = .ok (.istore_n 3, 1) := by decide +kernel
theorem dX0_share_88 : decode cX0_share 88 = .ok (.iinc 4 1, 3) := by decide +kernel
theorem dX0_share_91 : decode cX0_share 91 = .ok (.goto (-62), 3) := by decide +kernel
theorem dX0_share_94 : decode cX0_share 94 = .ok (.iload_n 3, 1) := by decide +kernel
theorem dX0_share_95 : decode cX0_share 95 = .ok (.ireturn, 1) := by decide +kernel
set_option maxRecDepth 20000 in
theorem ggX0_shareAnew_X0_isFunction : GoodIn wsX0_shareAnew wsX0_isFunction := goodIn_r _ [5, 6, 39, 40, 41, 42, 43, 44, 45, 46, 47, 48, 49, 50] (by decide +kernel) (by decide +kernel)
set_option maxRecDepth 20000 in
theorem gX0_shareAnew_X0_isFunction : GoodIn wsX0_shareAnew (wsV RX0 119 RX0 yX0_isFunction wsX0_isFunction) := goodIn_app (goodIn_of _ (by decide +kernel)) ggX0_shareAnew_X0_isFunction
set_option maxRecDepth 20000 in
theorem ggX0_shareAnew_X0_isElement : GoodIn wsX0_shareAnew wsX0_isElement := goodIn_r _ [10, 11, 39, 40, 41, 42, 43, 44, 45, 46, 47, 48, 49, 50] (by decide +kernel) (by decide +kernel)
set_option maxRecDepth 20000 in
theorem gX0_shareAnew_X0_isElement : GoodIn wsX0_shareAnew (wsV RX0 61 RX0 yX0_isElement wsX0_isElement) := goodIn_app (goodIn_of _ (by decide +kernel)) ggX0_shareAnew_X0_isElement
set_option maxRecDepth 20000 in
theorem ggX0_shareAnew_X0_needIndex : GoodIn wsX0_shareAnew wsX0_needIndex := goodIn_ca (goodIn_r _ [14, 15, 16] (by decide +kernel) (by decide +kernel)) (goodIn_sub (fun _ h => List.mem_cons_of_mem _ (List.mem_append_right _ h)) (by decide +kernel))
set_option maxRecDepth 20000 in
theorem gX0_shareAnew_X0_needIndex : GoodIn wsX0_shareAnew (va_wsS RX0 65 yX0_needIndex wsX0_needIndex) := goodIn_app (goodIn_of _ (by decide +kernel)) ggX0_shareAnew_X0_needIndex
set_option maxRecDepth 20000 in
theorem ggX0_shareAnew_X0_gainsOverOrders : GoodIn wsX0_shareAnew wsX0_gainsOverOrders := goodIn_r _ [20, 11, 21, 22, 4, 23, 24, 25, 26, 27, 28, 29, 30, 31, 32, 33, 34, 35, 36, 37, 38, 17, 18, 19, 39, 40, 41, 42, 43, 44, 45, 46, 47, 48, 49, 50] (by decide +kernel) (by decide +kernel)
set_option maxRecDepth 20000 in
theorem gX0_shareAnew_X0_gainsOverOrders : GoodIn wsX0_shareAnew (wsV RX0 177 RX0 yX0_gainsOverOrders wsX0_gainsOverOrders) := goodIn_app (goodIn_of _ (by decide +kernel)) ggX0_shareAnew_X0_gainsOverOrders
theorem dX0_shareAnew_0 : decode cX0_shareAnew 0 = .ok (.aload_n 0, 1) := by decide +kernel
theorem dX0_shareAnew_1 : decode cX0_shareAnew 1 = .ok (.iload_n 1, 1) := by decide +kernel
theorem dX0_shareAnew_2 : decode cX0_shareAnew 2 = .ok (.invokevirtual 119, 3) := by decide +kernel
theorem dX0_shareAnew_5 : decode cX0_shareAnew 5 = .ok (.ifCond .eq 15, 3) := by decide +kernel
theorem dX0_shareAnew_8 : decode cX0_shareAnew 8 = .ok (.aload_n 0, 1) := by decide +kernel
theorem dX0_shareAnew_9 : decode cX0_shareAnew 9 = .ok (.iload_n 2, 1) := by decide +kernel
theorem dX0_shareAnew_10 : decode cX0_shareAnew 10 = .ok (.invokevirtual 61, 3) := by decide +kernel
theorem dX0_shareAnew_13 : decode cX0_shareAnew 13 = .ok (.ifCond .eq 7, 3) := by decide +kernel
theorem dX0_shareAnew_16 : decode cX0_shareAnew 16 = .ok (.iconst 1, 1) := by decide +kernel
theorem dX0_shareAnew_17 : decode cX0_shareAnew 17 = .ok (.goto 4, 3) := by decide +kernel
theorem dX0_shareAnew_20 : decode cX0_shareAnew 20 = .ok (.iconst 0, 1) := by decide +kernel
theorem dX0_shareAnew_21 : decode cX0_shareAnew 21 = .ok (.invokestatic 65, 3) := by decide +kernel
theorem dX0_shareAnew_24 : decode cX0_shareAnew 24 = .ok (.aload_n 0, 1) := by decide +kernel
theorem dX0_shareAnew_25 : decode cX0_shareAnew 25 = .ok (.iload_n 1, 1) := by decide +kernel
theorem dX0_shareAnew_26 : decode cX0_shareAnew 26 = .ok (.iload_n 2, 1) := by decide +kernel
theorem dX0_shareAnew_27 : decode cX0_shareAnew 27 = .ok (.iconst 0, 1) := by decide +kernel
theorem dX0_shareAnew_28 : decode cX0_shareAnew 28 = .ok (.iconst 0, 1) := by decide +kernel
theorem dX0_shareAnew_29 : decode cX0_shareAnew 29 = .ok (.iconst 0, 1) := by decide +kernel
theorem dX0_shareAnew_30 : decode cX0_shareAnew 30 = .ok (.invokevirtual 177, 3) := by decide +kernel
theorem dX0_shareAnew_33 : decode cX0_shareAnew 33 = .ok (.ireturn, 1) := by decide +kernel
end
section
theorem dX0_needIndex_0 : decode cX0_needIndex 0 = .ok (.iload_n 0, 1) := by decide +kernel
theorem dX0_needIndex_1 : decode cX0_needIndex 1 = .ok (.ifCond .ne 13, 3) := by decide +kernel
theorem dX0_needIndex_4 : decode cX0_needIndex 4 = .ok (.new 181, 3) := by decide +kernel
theorem dX0_needIndex_7 : decode cX0_needIndex 7 = .ok (.dup, 1) := by decide +kernel
theorem dX0_needIndex_8 : decode cX0_needIndex 8 = .ok (.ldc 183, 2) := by decide +kernel
theorem dX0_needIndex_10 : decode cX0_needIndex 10 = .ok (.invokespecial 185, 3) := by decide +kernel
theorem dX0_needIndex_13 : decode cX0_needIndex 13 = .ok (.athrow, 1) := by decide +kernel
theorem dX0_needIndex_14 : decode cX0_needIndex 14 = .ok (.return_, 1) := by decide +kernel
theorem dX0_needArgument_0 : decode cX0_needArgument 0 = .ok (.iload_n 0, 1) := by decide +kernel
theorem dX0_needArgument_1 : decode cX0_needArgument 1 = .ok (.ifCond .ne 13, 3) := by decide +kernel
theorem dX0_needArgument_4 : decode cX0_needArgument 4 = .ok (.new 188, 3) := by decide +kernel
theorem dX0_needArgument_7 : decode cX0_needArgument 7 = .ok (.dup, 1) := by decide +kernel
theorem dX0_needArgument_8 : decode cX0_needArgument 8 = .ok (.ldc 190, 2) := by decide +kernel
theorem dX0_needArgument_10 : decode cX0_needArgument 10 = .ok (.invokespecial 192, 3) := by decide +kernel
theorem dX0_needArgument_13 : decode cX0_needArgument 13 = .ok (.athrow, 1) := by decide +kernel
theorem dX0_needArgument_14 : decode cX0_needArgument 14 = .ok (.return_, 1) := by decide +kernel
theorem dX0_needState_0 : decode cX0_needState 0 = .ok (.iload_n 0, 1) := by decide +kernel
theorem dX0_needState_1 : decode cX0_needState 1 = .ok (.ifCond .ne 13, 3) := by decide +kernel
theorem dX0_needState_4 : decode cX0_needState 4 = .ok (.new 193, 3) := by decide +kernel
theorem dX0_needState_7 : decode cX0_needState 7 = .ok (.dup, 1) := by decide +kernel
theorem dX0_needState_8 : decode cX0_needState 8 = .ok (.ldc 195, 2) := by decide +kernel
theorem dX0_needState_10 : decode cX0_needState 10 = .ok (.invokespecial 197, 3) := by decide +kernel
theorem dX0_needState_13 : decode cX0_needState 13 = .ok (.athrow, 1) := by decide +kernel
theorem dX0_needState_14 : decode cX0_needState 14 = .ok (.return_, 1) := by decide +kernel
set_option maxRecDepth 20000 in
theorem ggX0_needPlace_X0_needState : GoodIn wsX0_needPlace wsX0_needState := goodIn_ca (goodIn_r _ [5, 6, 7] (by decide +kernel) (by decide +kernel)) (goodIn_sub (fun _ h => List.mem_cons_of_mem _ (List.mem_append_right _ h)) (by decide +kernel))
set_option maxRecDepth 20000 in
theorem gX0_needPlace_X0_needState : GoodIn wsX0_needPlace (va_wsS RX0 140 yX0_needState wsX0_needState) := goodIn_app (goodIn_of _ (by decide +kernel)) ggX0_needPlace_X0_needState
theorem dX0_needPlace_0 : decode cX0_needPlace 0 = .ok (.aload_n 0, 1) := by decide +kernel
theorem dX0_needPlace_1 : decode cX0_needPlace 1 = .ok (.getfield 13, 3) := by decide +kernel
theorem dX0_needPlace_4 : decode cX0_needPlace 4 = .ok (.bipush 8, 2) := by decide +kernel
theorem dX0_needPlace_6 : decode cX0_needPlace 6 = .ok (.if_icmp .ge 7, 3) := by decide +kernel
theorem dX0_needPlace_9 : decode cX0_needPlace 9 = .ok (.iconst 1, 1) := by decide +kernel
theorem dX0_needPlace_10 : decode cX0_needPlace 10 = .ok (.goto 4, 3) := by decide +kernel
theorem dX0_needPlace_13 : decode cX0_needPlace 13 = .ok (.iconst 0, 1) := by decide +kernel
theorem dX0_needPlace_14 : decode cX0_needPlace 14 = .ok (.invokestatic 140, 3) := by decide +kernel
theorem dX0_needPlace_17 : decode cX0_needPlace 17 = .ok (.return_, 1) := by decide +kernel
theorem dX0_isWithin_0 : decode cX0_isWithin 0 = .ok (.iload_n 0, 1) := by decide +kernel
theorem dX0_isWithin_1 : decode cX0_isWithin 1 = .ok (.iload_n 1, 1) := by decide +kernel
theorem dX0_isWithin_2 : decode cX0_isWithin 2 = .ok (.if_icmp .lt 12, 3) := by decide +kernel
theorem dX0_isWithin_5 : decode cX0_isWithin 5 = .ok (.iload_n 0, 1) := by decide +kernel
theorem dX0_isWithin_6 : decode cX0_isWithin 6 = .ok (.iload_n 2, 1) := by decide +kernel
theorem dX0_isWithin_7 : decode cX0_isWithin 7 = .ok (.if_icmp .gt 7, 3) := by decide +kernel
theorem dX0_isWithin_10 : decode cX0_isWithin 10 = .ok (.iconst 1, 1) := by decide +kernel
theorem dX0_isWithin_11 : decode cX0_isWithin 11 = .ok (.goto 4, 3) := by decide +kernel
theorem dX0_isWithin_14 : decode cX0_isWithin 14 = .ok (.iconst 0, 1) := by decide +kernel
theorem dX0_isWithin_15 : decode cX0_isWithin 15 = .ok (.ireturn, 1) := by decide +kernel
theorem dX0_isElement_0 : decode cX0_isElement 0 = .ok (.iload_n 1, 1) := by decide +kernel
theorem dX0_isElement_1 : decode cX0_isElement 1 = .ok (.ifCond .lt 15, 3) := by decide +kernel
theorem dX0_isElement_4 : decode cX0_isElement 4 = .ok (.iload_n 1, 1) := by decide +kernel
theorem dX0_isElement_5 : decode cX0_isElement 5 = .ok (.aload_n 0, 1) := by decide +kernel
theorem dX0_isElement_6 : decode cX0_isElement 6 = .ok (.getfield 9, 3) := by decide +kernel
theorem dX0_isElement_9 : decode cX0_isElement 9 = .ok (.if_icmp .ge 7, 3) := by decide +kernel
theorem dX0_isElement_12 : decode cX0_isElement 12 = .ok (.iconst 1, 1) := by decide +kernel
theorem dX0_isElement_13 : decode cX0_isElement 13 = .ok (.goto 4, 3) := by decide +kernel
theorem dX0_isElement_16 : decode cX0_isElement 16 = .ok (.iconst 0, 1) := by decide +kernel
theorem dX0_isElement_17 : decode cX0_isElement 17 = .ok (.ireturn, 1) := by decide +kernel
theorem dX0_isFamily_0 : decode cX0_isFamily 0 = .ok (.iload_n 0, 1) := by decide +kernel
theorem dX0_isFamily_1 : decode cX0_isFamily 1 = .ok (.ifCond .lt 12, 3) := by decide +kernel
theorem dX0_isFamily_4 : decode cX0_isFamily 4 = .ok (.iload_n 0, 1) := by decide +kernel
theorem dX0_isFamily_5 : decode cX0_isFamily 5 = .ok (.iconst 2, 1) := by decide +kernel
theorem dX0_isFamily_6 : decode cX0_isFamily 6 = .ok (.if_icmp .ge 7, 3) := by decide +kernel
theorem dX0_isFamily_9 : decode cX0_isFamily 9 = .ok (.iconst 1, 1) := by decide +kernel
theorem dX0_isFamily_10 : decode cX0_isFamily 10 = .ok (.goto 4, 3) := by decide +kernel
theorem dX0_isFamily_13 : decode cX0_isFamily 13 = .ok (.iconst 0, 1) := by decide +kernel
theorem dX0_isFamily_14 : decode cX0_isFamily 14 = .ok (.ireturn, 1) := by decide +kernel
theorem dX0_isColour_0 : decode cX0_isColour 0 = .ok (.iload_n 0, 1) := by decide +kernel
theorem dX0_isColour_1 : decode cX0_isColour 1 = .ok (.ifCond .lt 13, 3) := by decide +kernel
theorem dX0_isColour_4 : decode cX0_isColour 4 = .ok (.iload_n 0, 1) := by decide +kernel
theorem dX0_isColour_5 : decode cX0_isColour 5 = .ok (.bipush 6, 2) := by decide +kernel
theorem dX0_isColour_7 : decode cX0_isColour 7 = .ok (.if_icmp .ge 7, 3) := by decide +kernel
theorem dX0_isColour_10 : decode cX0_isColour 10 = .ok (.iconst 1, 1) := by decide +kernel
theorem dX0_isColour_11 : decode cX0_isColour 11 = .ok (.goto 4, 3) := by decide +kernel
theorem dX0_isColour_14 : decode cX0_isColour 14 = .ok (.iconst 0, 1) := by decide +kernel
theorem dX0_isColour_15 : decode cX0_isColour 15 = .ok (.ireturn, 1) := by decide +kernel
theorem dX0_isFunction_0 : decode cX0_isFunction 0 = .ok (.iload_n 1, 1) := by decide +kernel
theorem dX0_isFunction_1 : decode cX0_isFunction 1 = .ok (.ifCond .lt 15, 3) := by decide +kernel
theorem dX0_isFunction_4 : decode cX0_isFunction 4 = .ok (.iload_n 1, 1) := by decide +kernel
theorem dX0_isFunction_5 : decode cX0_isFunction 5 = .ok (.aload_n 0, 1) := by decide +kernel
theorem dX0_isFunction_6 : decode cX0_isFunction 6 = .ok (.getfield 13, 3) := by decide +kernel
theorem dX0_isFunction_9 : decode cX0_isFunction 9 = .ok (.if_icmp .ge 7, 3) := by decide +kernel
theorem dX0_isFunction_12 : decode cX0_isFunction 12 = .ok (.iconst 1, 1) := by decide +kernel
theorem dX0_isFunction_13 : decode cX0_isFunction 13 = .ok (.goto 4, 3) := by decide +kernel
theorem dX0_isFunction_16 : decode cX0_isFunction 16 = .ok (.iconst 0, 1) := by decide +kernel
theorem dX0_isFunction_17 : decode cX0_isFunction 17 = .ok (.ireturn, 1) := by decide +kernel
set_option maxRecDepth 20000 in
theorem ggX0_isSet_X0_sets : GoodIn wsX0_isSet wsX0_sets := goodIn_r _ [5, 6, 7, 8, 9, 10, 11, 12, 13, 14, 15, 16, 17, 18] (by decide +kernel) (by decide +kernel)
set_option maxRecDepth 20000 in
theorem gX0_isSet_X0_sets : GoodIn wsX0_isSet (wsV RX0 105 RX0 yX0_sets wsX0_sets) := goodIn_app (goodIn_of _ (by decide +kernel)) ggX0_isSet_X0_sets
theorem dX0_isSet_0 : decode cX0_isSet 0 = .ok (.iload_n 1, 1) := by decide +kernel
theorem dX0_isSet_1 : decode cX0_isSet 1 = .ok (.ifCond .lt 15, 3) := by decide +kernel
theorem dX0_isSet_4 : decode cX0_isSet 4 = .ok (.iload_n 1, 1) := by decide +kernel
theorem dX0_isSet_5 : decode cX0_isSet 5 = .ok (.aload_n 0, 1) := by decide +kernel
theorem dX0_isSet_6 : decode cX0_isSet 6 = .ok (.invokevirtual 105, 3) := by decide +kernel
theorem dX0_isSet_9 : decode cX0_isSet 9 = .ok (.if_icmp .ge 7, 3) := by decide +kernel
theorem dX0_isSet_12 : decode cX0_isSet 12 = .ok (.iconst 1, 1) := by decide +kernel
theorem dX0_isSet_13 : decode cX0_isSet 13 = .ok (.goto 4, 3) := by decide +kernel
theorem dX0_isSet_16 : decode cX0_isSet 16 = .ok (.iconst 0, 1) := by decide +kernel
theorem dX0_isSet_17 : decode cX0_isSet 17 = .ok (.ireturn, 1) := by decide +kernel
theorem dX0_at_0 : decode cX0_at 0 = .ok (.iload_n 1, 1) := by decide +kernel
theorem dX0_at_1 : decode cX0_at 1 = .ok (.ifCond .lt 15, 3) := by decide +kernel
theorem dX0_at_4 : decode cX0_at 4 = .ok (.iload_n 1, 1) := by decide +kernel
theorem dX0_at_5 : decode cX0_at 5 = .ok (.aload_n 0, 1) := by decide +kernel
theorem dX0_at_6 : decode cX0_at 6 = .ok (.arraylength, 1) := by decide +kernel
theorem dX0_at_7 : decode cX0_at 7 = .ok (.if_icmp .ge 9, 3) := by decide +kernel
theorem dX0_at_10 : decode cX0_at 10 = .ok (.aload_n 0, 1) := by decide +kernel
theorem dX0_at_11 : decode cX0_at 11 = .ok (.iload_n 1, 1) := by decide +kernel
theorem dX0_at_12 : decode cX0_at 12 = .ok (.iaload, 1) := by decide +kernel
theorem dX0_at_13 : decode cX0_at 13 = .ok (.goto 4, 3) := by decide +kernel
theorem dX0_at_16 : decode cX0_at 16 = .ok (.iconst 0, 1) := by decide +kernel
theorem dX0_at_17 : decode cX0_at 17 = .ok (.ireturn, 1) := by decide +kernel
theorem dX0_put_0 : decode cX0_put 0 = .ok (.iload_n 1, 1) := by decide +kernel
theorem dX0_put_1 : decode cX0_put 1 = .ok (.ifCond .lt 13, 3) := by decide +kernel
theorem dX0_put_4 : decode cX0_put 4 = .ok (.iload_n 1, 1) := by decide +kernel
theorem dX0_put_5 : decode cX0_put 5 = .ok (.aload_n 0, 1) := by decide +kernel
theorem dX0_put_6 : decode cX0_put 6 = .ok (.arraylength, 1) := by decide +kernel
theorem dX0_put_7 : decode cX0_put 7 = .ok (.if_icmp .ge 7, 3) := by decide +kernel
theorem dX0_put_10 : decode cX0_put 10 = .ok (.aload_n 0, 1) := by decide +kernel
theorem dX0_put_11 : decode cX0_put 11 = .ok (.iload_n 1, 1) := by decide +kernel
theorem dX0_put_12 : decode cX0_put 12 = .ok (.iload_n 2, 1) := by decide +kernel
theorem dX0_put_13 : decode cX0_put 13 = .ok (.iastore, 1) := by decide +kernel
theorem dX0_put_14 : decode cX0_put 14 = .ok (.return_, 1) := by decide +kernel
set_option maxRecDepth 20000 in
theorem ggX0_edgeWeight_X0_at : GoodIn wsX0_edgeWeight wsX0_at := goodIn_r _ [5] (by decide +kernel) (by decide +kernel)
set_option maxRecDepth 20000 in
theorem gX0_edgeWeight_X0_at : GoodIn wsX0_edgeWeight (va_wsS RX0 68 yX0_at wsX0_at) := goodIn_app (goodIn_of _ (by decide +kernel)) ggX0_edgeWeight_X0_at
theorem dX0_edgeWeight_0 : decode cX0_edgeWeight 0 = .ok (.aload_n 0, 1) := by decide +kernel
theorem dX0_edgeWeight_1 : decode cX0_edgeWeight 1 = .ok (.getfield 23, 3) := by decide +kernel
theorem dX0_edgeWeight_4 : decode cX0_edgeWeight 4 = .ok (.iload_n 1, 1) := by decide +kernel
theorem dX0_edgeWeight_5 : decode cX0_edgeWeight 5 = .ok (.bipush 6, 2) := by decide +kernel
theorem dX0_edgeWeight_7 : decode cX0_edgeWeight 7 = .ok (.imul, 1) := by decide +kernel
theorem dX0_edgeWeight_8 : decode cX0_edgeWeight 8 = .ok (.iload_n 2, 1) := by decide +kernel
theorem dX0_edgeWeight_9 : decode cX0_edgeWeight 9 = .ok (.iadd, 1) := by decide +kernel
theorem dX0_edgeWeight_10 : decode cX0_edgeWeight 10 = .ok (.invokestatic 68, 3) := by decide +kernel
theorem dX0_edgeWeight_13 : decode cX0_edgeWeight 13 = .ok (.ireturn, 1) := by decide +kernel
set_option maxRecDepth 20000 in
theorem ggX0_colourOf_X0_at : GoodIn wsX0_colourOf wsX0_at := goodIn_r _ [5] (by decide +kernel) (by decide +kernel)
set_option maxRecDepth 20000 in
theorem gX0_colourOf_X0_at : GoodIn wsX0_colourOf (va_wsS RX0 68 yX0_at wsX0_at) := goodIn_app (goodIn_of _ (by decide +kernel)) ggX0_colourOf_X0_at
theorem dX0_colourOf_0 : decode cX0_colourOf 0 = .ok (.aload_n 0, 1) := by decide +kernel
theorem dX0_colourOf_1 : decode cX0_colourOf 1 = .ok (.getfield 26, 3) := by decide +kernel
theorem dX0_colourOf_4 : decode cX0_colourOf 4 = .ok (.iload_n 1, 1) := by decide +kernel
theorem dX0_colourOf_5 : decode cX0_colourOf 5 = .ok (.bipush 6, 2) := by decide +kernel
theorem dX0_colourOf_7 : decode cX0_colourOf 7 = .ok (.imul, 1) := by decide +kernel
theorem dX0_colourOf_8 : decode cX0_colourOf 8 = .ok (.iload_n 2, 1) := by decide +kernel
theorem dX0_colourOf_9 : decode cX0_colourOf 9 = .ok (.iadd, 1) := by decide +kernel
theorem dX0_colourOf_10 : decode cX0_colourOf 10 = .ok (.invokestatic 68, 3) := by decide +kernel
theorem dX0_colourOf_13 : decode cX0_colourOf 13 = .ok (.ireturn, 1) := by decide +kernel
set_option maxRecDepth 20000 in
theorem ggX0_roomOf_X0_at : GoodIn wsX0_roomOf wsX0_at := goodIn_r _ [5] (by decide +kernel) (by decide +kernel)
set_option maxRecDepth 20000 in
theorem gX0_roomOf_X0_at : GoodIn wsX0_roomOf (va_wsS RX0 68 yX0_at wsX0_at) := goodIn_app (goodIn_of _ (by decide +kernel)) ggX0_roomOf_X0_at
theorem dX0_roomOf_0 : decode cX0_roomOf 0 = .ok (.aload_n 0, 1) := by decide +kernel
theorem dX0_roomOf_1 : decode cX0_roomOf 1 = .ok (.getfield 29, 3) := by decide +kernel
theorem dX0_roomOf_4 : decode cX0_roomOf 4 = .ok (.iload_n 1, 1) := by decide +kernel
theorem dX0_roomOf_5 : decode cX0_roomOf 5 = .ok (.bipush 6, 2) := by decide +kernel
theorem dX0_roomOf_7 : decode cX0_roomOf 7 = .ok (.imul, 1) := by decide +kernel
theorem dX0_roomOf_8 : decode cX0_roomOf 8 = .ok (.iload_n 2, 1) := by decide +kernel
theorem dX0_roomOf_9 : decode cX0_roomOf 9 = .ok (.iadd, 1) := by decide +kernel
theorem dX0_roomOf_10 : decode cX0_roomOf 10 = .ok (.invokestatic 68, 3) := by decide +kernel
theorem dX0_roomOf_13 : decode cX0_roomOf 13 = .ok (.ireturn, 1) := by decide +kernel
set_option maxRecDepth 20000 in
theorem ggX0_valueOf_X0_at : GoodIn wsX0_valueOf wsX0_at := goodIn_r _ [5] (by decide +kernel) (by decide +kernel)
set_option maxRecDepth 20000 in
theorem gX0_valueOf_X0_at : GoodIn wsX0_valueOf (va_wsS RX0 68 yX0_at wsX0_at) := goodIn_app (goodIn_of _ (by decide +kernel)) ggX0_valueOf_X0_at
theorem dX0_valueOf_0 : decode cX0_valueOf 0 = .ok (.aload_n 0, 1) := by decide +kernel
theorem dX0_valueOf_1 : decode cX0_valueOf 1 = .ok (.getfield 35, 3) := by decide +kernel
theorem dX0_valueOf_4 : decode cX0_valueOf 4 = .ok (.iload_n 1, 1) := by decide +kernel
theorem dX0_valueOf_5 : decode cX0_valueOf 5 = .ok (.bipush 64, 2) := by decide +kernel
theorem dX0_valueOf_7 : decode cX0_valueOf 7 = .ok (.imul, 1) := by decide +kernel
theorem dX0_valueOf_8 : decode cX0_valueOf 8 = .ok (.iload_n 2, 1) := by decide +kernel
theorem dX0_valueOf_9 : decode cX0_valueOf 9 = .ok (.iadd, 1) := by decide +kernel
theorem dX0_valueOf_10 : decode cX0_valueOf 10 = .ok (.invokestatic 68, 3) := by decide +kernel
theorem dX0_valueOf_13 : decode cX0_valueOf 13 = .ok (.ireturn, 1) := by decide +kernel
set_option maxRecDepth 20000 in
theorem ggX0_putNew_X0_put : GoodIn wsX0_putNew wsX0_put := goodIn_r _ [6] (by decide +kernel) (by decide +kernel)
set_option maxRecDepth 20000 in
theorem gX0_putNew_X0_put : GoodIn wsX0_putNew (va_wsS RX0 79 yX0_put wsX0_put) := goodIn_app (goodIn_of _ (by decide +kernel)) ggX0_putNew_X0_put
theorem dX0_putNew_0 : decode cX0_putNew 0 = .ok (.aload_n 0, 1) := by decide +kernel
theorem dX0_putNew_1 : decode cX0_putNew 1 = .ok (.getfield 35, 3) := by decide +kernel
theorem dX0_putNew_4 : decode cX0_putNew 4 = .ok (.aload_n 0, 1) := by decide +kernel
theorem dX0_putNew_5 : decode cX0_putNew 5 = .ok (.getfield 13, 3) := by decide +kernel
theorem dX0_putNew_8 : decode cX0_putNew 8 = .ok (.bipush 64, 2) := by decide +kernel
theorem dX0_putNew_10 : decode cX0_putNew 10 = .ok (.imul, 1) := by decide +kernel
theorem dX0_putNew_11 : decode cX0_putNew 11 = .ok (.iload_n 1, 1) := by decide +kernel
theorem dX0_putNew_12 : decode cX0_putNew 12 = .ok (.iadd, 1) := by decide +kernel
theorem dX0_putNew_13 : decode cX0_putNew 13 = .ok (.iload_n 2, 1) := by decide +kernel
theorem dX0_putNew_14 : decode cX0_putNew 14 = .ok (.invokestatic 79, 3) := by decide +kernel
theorem dX0_putNew_17 : decode cX0_putNew 17 = .ok (.return_, 1) := by decide +kernel
theorem dX0_countNew_0 : decode cX0_countNew 0 = .ok (.aload_n 0, 1) := by decide +kernel
theorem dX0_countNew_1 : decode cX0_countNew 1 = .ok (.getfield 13, 3) := by decide +kernel
theorem dX0_countNew_4 : decode cX0_countNew 4 = .ok (.istore_n 1, 1) := by decide +kernel
theorem dX0_countNew_5 : decode cX0_countNew 5 = .ok (.aload_n 0, 1) := by decide +kernel
theorem dX0_countNew_6 : decode cX0_countNew 6 = .ok (.dup, 1) := by decide +kernel
theorem dX0_countNew_7 : decode cX0_countNew 7 = .ok (.getfield 13, 3) := by decide +kernel
theorem dX0_countNew_10 : decode cX0_countNew 10 = .ok (.iconst 1, 1) := by decide +kernel
theorem dX0_countNew_11 : decode cX0_countNew 11 = .ok (.iadd, 1) := by decide +kernel
theorem dX0_countNew_12 : decode cX0_countNew 12 = .ok (.putfield 13, 3) := by decide +kernel
theorem dX0_countNew_15 : decode cX0_countNew 15 = .ok (.iload_n 1, 1) := by decide +kernel
theorem dX0_countNew_16 : decode cX0_countNew 16 = .ok (.ireturn, 1) := by decide +kernel
theorem dX0_sets_0 : decode cX0_sets 0 = .ok (.iconst 1, 1) := by decide +kernel
theorem dX0_sets_1 : decode cX0_sets 1 = .ok (.aload_n 0, 1) := by decide +kernel
theorem dX0_sets_2 : decode cX0_sets 2 = .ok (.getfield 9, 3) := by decide +kernel
theorem dX0_sets_5 : decode cX0_sets 5 = .ok (.ishl, 1) := by decide +kernel
theorem dX0_sets_6 : decode cX0_sets 6 = .ok (.ireturn, 1) := by decide +kernel
theorem dX0_has_0 : decode cX0_has 0 = .ok (.iload_n 0, 1) := by decide +kernel
theorem dX0_has_1 : decode cX0_has 1 = .ok (.iload_n 1, 1) := by decide +kernel
theorem dX0_has_2 : decode cX0_has 2 = .ok (.ishr, 1) := by decide +kernel
theorem dX0_has_3 : decode cX0_has 3 = .ok (.iconst 1, 1) := by decide +kernel
theorem dX0_has_4 : decode cX0_has 4 = .ok (.iand, 1) := by decide +kernel
theorem dX0_has_5 : decode cX0_has 5 = .ok (.iconst 1, 1) := by decide +kernel
theorem dX0_has_6 : decode cX0_has 6 = .ok (.if_icmp .ne 7, 3) := by decide +kernel
theorem dX0_has_9 : decode cX0_has 9 = .ok (.iconst 1, 1) := by decide +kernel
theorem dX0_has_10 : decode cX0_has 10 = .ok (.goto 4, 3) := by decide +kernel
theorem dX0_has_13 : decode cX0_has 13 = .ok (.iconst 0, 1) := by decide +kernel
theorem dX0_has_14 : decode cX0_has 14 = .ok (.ireturn, 1) := by decide +kernel
theorem dX0_with_0 : decode cX0_with 0 = .ok (.iload_n 0, 1) := by decide +kernel
theorem dX0_with_1 : decode cX0_with 1 = .ok (.iconst 1, 1) := by decide +kernel
theorem dX0_with_2 : decode cX0_with 2 = .ok (.iload_n 1, 1) := by decide +kernel
theorem dX0_with_3 : decode cX0_with 3 = .ok (.ishl, 1) := by decide +kernel
theorem dX0_with_4 : decode cX0_with 4 = .ok (.ior, 1) := by decide +kernel
theorem dX0_with_5 : decode cX0_with 5 = .ok (.ireturn, 1) := by decide +kernel
theorem dX0_without_0 : decode cX0_without 0 = .ok (.iload_n 0, 1) := by decide +kernel
theorem dX0_without_1 : decode cX0_without 1 = .ok (.iconst 1, 1) := by decide +kernel
theorem dX0_without_2 : decode cX0_without 2 = .ok (.iload_n 1, 1) := by decide +kernel
theorem dX0_without_3 : decode cX0_without 3 = .ok (.ishl, 1) := by decide +kernel
theorem dX0_without_4 : decode cX0_without 4 = .ok (.iconst (-1), 1) := by decide +kernel
theorem dX0_without_5 : decode cX0_without 5 = .ok (.ixor, 1) := by decide +kernel
theorem dX0_without_6 : decode cX0_without 6 = .ok (.iand, 1) := by decide +kernel
theorem dX0_without_7 : decode cX0_without 7 = .ok (.ireturn, 1) := by decide +kernel
set_option maxRecDepth 20000 in
theorem ggX0_toldValue_X0_coverValue : GoodIn wsX0_toldValue wsX0_coverValue := goodIn_r _ [5, 6, 7, 8, 9, 4, 10, 11, 12, 13, 14, 15, 16, 17, 18, 19, 20, 57, 58, 59, 60, 61, 62, 63, 64, 65, 66, 67, 68] (by decide +kernel) (by decide +kernel)
set_option maxRecDepth 20000 in
theorem gX0_toldValue_X0_coverValue : GoodIn wsX0_toldValue (wsV RX0 198 RX0 yX0_coverValue wsX0_coverValue) := goodIn_app (goodIn_of _ (by decide +kernel)) ggX0_toldValue_X0_coverValue
set_option maxRecDepth 20000 in
theorem ggX0_toldValue_X0_cutValue : GoodIn wsX0_toldValue wsX0_cutValue := goodIn_r _ [24, 6, 8, 9, 4, 10, 25, 26, 27, 28, 29, 11, 12, 13, 57, 58, 59, 60, 61, 62, 63, 64, 65, 66, 67, 68] (by decide +kernel) (by decide +kernel)
set_option maxRecDepth 20000 in
theorem gX0_toldValue_X0_cutValue : GoodIn wsX0_toldValue (wsV RX0 201 RX0 yX0_cutValue wsX0_cutValue) := goodIn_app (goodIn_of _ (by decide +kernel)) ggX0_toldValue_X0_cutValue
set_option maxRecDepth 20000 in
theorem ggX0_toldValue_X0_rankValue : GoodIn wsX0_toldValue wsX0_rankValue := goodIn_r _ [33, 34, 35, 36, 37, 38, 39, 40, 4, 41, 6, 8, 9, 10, 42, 43, 44, 45, 46, 11, 12, 13, 47, 48, 49, 50, 51, 57, 58, 59, 60, 61, 62, 63, 64, 65, 66, 67, 68] (by decide +kernel) (by decide +kernel)
set_option maxRecDepth 20000 in
theorem gX0_toldValue_X0_rankValue : GoodIn wsX0_toldValue (wsV RX0 204 RX0 yX0_rankValue wsX0_rankValue) := goodIn_app (goodIn_of _ (by decide +kernel)) ggX0_toldValue_X0_rankValue
set_option maxRecDepth 20000 in
theorem ggX0_toldValue_X0_weightsValue : GoodIn wsX0_toldValue wsX0_weightsValue := goodIn_r _ [55, 6, 56, 8, 9, 4, 10, 11, 12, 13, 57, 58, 59, 60, 61, 62, 63, 64, 65, 66, 67, 68] (by decide +kernel) (by decide +kernel)
set_option maxRecDepth 20000 in
theorem gX0_toldValue_X0_weightsValue : GoodIn wsX0_toldValue (wsV RX0 207 RX0 yX0_weightsValue wsX0_weightsValue) := goodIn_app (goodIn_of _ (by decide +kernel)) ggX0_toldValue_X0_weightsValue
theorem dX0_toldValue_0 : decode cX0_toldValue 0 = .ok (.iload_n 1, 1) := by decide +kernel
theorem dX0_toldValue_1 : decode cX0_toldValue 1 = .ok (.tableswitch 57 0 3 #[31, 37, 43, 50], 31) := by decide +kernel
theorem dX0_toldValue_32 : decode cX0_toldValue 32 = .ok (.aload_n 0, 1) := by decide +kernel
theorem dX0_toldValue_33 : decode cX0_toldValue 33 = .ok (.iload_n 2, 1) := by decide +kernel
theorem dX0_toldValue_34 : decode cX0_toldValue 34 = .ok (.invokevirtual 198, 3) := by decide +kernel
theorem dX0_toldValue_37 : decode cX0_toldValue 37 = .ok (.ireturn, 1) := by decide +kernel
theorem dX0_toldValue_38 : decode cX0_toldValue 38 = .ok (.aload_n 0, 1) := by decide +kernel
theorem dX0_toldValue_39 : decode cX0_toldValue 39 = .ok (.iload_n 2, 1) := by decide +kernel
theorem dX0_toldValue_40 : decode cX0_toldValue 40 = .ok (.invokevirtual 201, 3) := by decide +kernel
theorem dX0_toldValue_43 : decode cX0_toldValue 43 = .ok (.ireturn, 1) := by decide +kernel
theorem dX0_toldValue_44 : decode cX0_toldValue 44 = .ok (.aload_n 0, 1) := by decide +kernel
theorem dX0_toldValue_45 : decode cX0_toldValue 45 = .ok (.iconst 0, 1) := by decide +kernel
theorem dX0_toldValue_46 : decode cX0_toldValue 46 = .ok (.iload_n 2, 1) := by decide +kernel
theorem dX0_toldValue_47 : decode cX0_toldValue 47 = .ok (.invokevirtual 204, 3) := by decide +kernel
theorem dX0_toldValue_50 : decode cX0_toldValue 50 = .ok (.ireturn, 1) := by decide +kernel
theorem dX0_toldValue_51 : decode cX0_toldValue 51 = .ok (.aload_n 0, 1) := by decide +kernel
theorem dX0_toldValue_52 : decode cX0_toldValue 52 = .ok (.iconst 1, 1) := by decide +kernel
theorem dX0_toldValue_53 : decode cX0_toldValue 53 = .ok (.iload_n 2, 1) := by decide +kernel
theorem dX0_toldValue_54 : decode cX0_toldValue 54 = .ok (.invokevirtual 204, 3) := by decide +kernel
theorem dX0_toldValue_57 : decode cX0_toldValue 57 = .ok (.ireturn, 1) := by decide +kernel
theorem dX0_toldValue_58 : decode cX0_toldValue 58 = .ok (.aload_n 0, 1) := by decide +kernel
theorem dX0_toldValue_59 : decode cX0_toldValue 59 = .ok (.iload_n 2, 1) := by decide +kernel
theorem dX0_toldValue_60 : decode cX0_toldValue 60 = .ok (.invokevirtual 207, 3) := by decide +kernel
theorem dX0_toldValue_63 : decode cX0_toldValue 63 = .ok (.ireturn, 1) := by decide +kernel
set_option maxRecDepth 20000 in
theorem ggX0_coverValue_X0_has : GoodIn wsX0_coverValue wsX0_has := goodIn_r _ [6] (by decide +kernel) (by decide +kernel)
set_option maxRecDepth 20000 in
theorem gX0_coverValue_X0_has : GoodIn wsX0_coverValue (va_wsS RX0 83 yX0_has wsX0_has) := goodIn_app (goodIn_of _ (by decide +kernel)) ggX0_coverValue_X0_has
set_option maxRecDepth 20000 in
theorem ggX0_coverValue_X0_at : GoodIn wsX0_coverValue wsX0_at := goodIn_r _ [9] (by decide +kernel) (by decide +kernel)
set_option maxRecDepth 20000 in
theorem gX0_coverValue_X0_at : GoodIn wsX0_coverValue (va_wsS RX0 68 yX0_at wsX0_at) := goodIn_app (goodIn_of _ (by decide +kernel)) ggX0_coverValue_X0_at
set_option maxRecDepth 20000 in
theorem ggX0_coverValue_J6_bitCount_0f7a4 : GoodIn wsX0_coverValue wsJ6_bitCount_0f7a4 := goodIn_r _ [13, 14, 15, 16] (by decide +kernel) (by decide +kernel)
set_option maxRecDepth 20000 in
theorem gX0_coverValue_J6_bitCount_0f7a4 : GoodIn wsX0_coverValue (va_wsS RX0 157 yJ6_bitCount_0f7a4 wsJ6_bitCount_0f7a4) := goodIn_app (goodIn_of _ (by decide +kernel)) ggX0_coverValue_J6_bitCount_0f7a4
theorem dX0_coverValue_0 : decode cX0_coverValue 0 = .ok (.iconst 0, 1) := by decide +kernel
theorem dX0_coverValue_1 : decode cX0_coverValue 1 = .ok (.istore_n 2, 1) := by decide +kernel
theorem dX0_coverValue_2 : decode cX0_coverValue 2 = .ok (.iconst 0, 1) := by decide +kernel
theorem dX0_coverValue_3 : decode cX0_coverValue 3 = .ok (.istore_n 3, 1) := by decide +kernel
theorem dX0_coverValue_4 : decode cX0_coverValue 4 = .ok (.iload_n 3, 1) := by decide +kernel
theorem dX0_coverValue_5 : decode cX0_coverValue 5 = .ok (.aload_n 0, 1) := by decide +kernel
theorem dX0_coverValue_6 : decode cX0_coverValue 6 = .ok (.getfield 9, 3) := by decide +kernel
theorem dX0_coverValue_9 : decode cX0_coverValue 9 = .ok (.if_icmp .ge 28, 3) := by decide +kernel
theorem dX0_coverValue_12 : decode cX0_coverValue 12 = .ok (.iload_n 1, 1) := by decide +kernel
theorem dX0_coverValue_13 : decode cX0_coverValue 13 = .ok (.iload_n 3, 1) := by decide +kernel
theorem dX0_coverValue_14 : decode cX0_coverValue 14 = .ok (.invokestatic 83, 3) := by decide +kernel
theorem dX0_coverValue_17 : decode cX0_coverValue 17 = .ok (.ifCond .eq 14, 3) := by decide +kernel
theorem dX0_coverValue_20 : decode cX0_coverValue 20 = .ok (.iload_n 2, 1) := by decide +kernel
theorem dX0_coverValue_21 : decode cX0_coverValue 21 = .ok (.aload_n 0, 1) := by decide +kernel
theorem dX0_coverValue_22 : decode cX0_coverValue 22 = .ok (.getfield 19, 3) := by decide +kernel
theorem dX0_coverValue_25 : decode cX0_coverValue 25 = .ok (.iload_n 3, 1) := by decide +kernel
theorem dX0_coverValue_26 : decode cX0_coverValue 26 = .ok (.invokestatic 68, 3) := by decide +kernel
theorem dX0_coverValue_29 : decode cX0_coverValue 29 = .ok (.ior, 1) := by decide +kernel
theorem dX0_coverValue_30 : decode cX0_coverValue 30 = .ok (.istore_n 2, 1) := by decide +kernel
theorem dX0_coverValue_31 : decode cX0_coverValue 31 = .ok (.iinc 3 1, 3) := by decide +kernel
theorem dX0_coverValue_34 : decode cX0_coverValue 34 = .ok (.goto (-30), 3) := by decide +kernel
theorem dX0_coverValue_37 : decode cX0_coverValue 37 = .ok (.iload_n 2, 1) := by decide +kernel
theorem dX0_coverValue_38 : decode cX0_coverValue 38 = .ok (.invokestatic 157, 3) := by decide +kernel
theorem dX0_coverValue_41 : decode cX0_coverValue 41 = .ok (.ireturn, 1) := by decide +kernel
set_option maxRecDepth 20000 in
theorem ggX0_cutValue_X0_has : GoodIn wsX0_cutValue wsX0_has := goodIn_r _ [5] (by decide +kernel) (by decide +kernel)
set_option maxRecDepth 20000 in
theorem gX0_cutValue_X0_has : GoodIn wsX0_cutValue (va_wsS RX0 83 yX0_has wsX0_has) := goodIn_app (goodIn_of _ (by decide +kernel)) ggX0_cutValue_X0_has
set_option maxRecDepth 20000 in
theorem ggX0_cutValue_X0_edgeWeight : GoodIn wsX0_cutValue wsX0_edgeWeight := goodIn_r _ [9, 10, 11, 12, 4, 13, 14, 15, 16, 17, 18, 19, 20, 21, 22, 23, 24, 25] (by decide +kernel) (by decide +kernel)
set_option maxRecDepth 20000 in
theorem gX0_cutValue_X0_edgeWeight : GoodIn wsX0_cutValue (wsV RX0 87 RX0 yX0_edgeWeight wsX0_edgeWeight) := goodIn_app (goodIn_of _ (by decide +kernel)) ggX0_cutValue_X0_edgeWeight
theorem dX0_cutValue_0 : decode cX0_cutValue 0 = .ok (.iconst 0, 1) := by decide +kernel
theorem dX0_cutValue_1 : decode cX0_cutValue 1 = .ok (.istore_n 2, 1) := by decide +kernel
theorem dX0_cutValue_2 : decode cX0_cutValue 2 = .ok (.iconst 0, 1) := by decide +kernel
theorem dX0_cutValue_3 : decode cX0_cutValue 3 = .ok (.istore_n 3, 1) := by decide +kernel
theorem dX0_cutValue_4 : decode cX0_cutValue 4 = .ok (.iload_n 3, 1) := by decide +kernel
theorem dX0_cutValue_5 : decode cX0_cutValue 5 = .ok (.aload_n 0, 1) := by decide +kernel
theorem dX0_cutValue_6 : decode cX0_cutValue 6 = .ok (.getfield 9, 3) := by decide +kernel
theorem dX0_cutValue_9 : decode cX0_cutValue 9 = .ok (.if_icmp .ge 53, 3) := by decide +kernel
theorem dX0_cutValue_12 : decode cX0_cutValue 12 = .ok (.iload_n 3, 1) := by decide +kernel
theorem dX0_cutValue_13 : decode cX0_cutValue 13 = .ok (.iconst 1, 1) := by decide +kernel
theorem dX0_cutValue_14 : decode cX0_cutValue 14 = .ok (.iadd, 1) := by decide +kernel
theorem dX0_cutValue_15 : decode cX0_cutValue 15 = .ok (.istore 4, 2) := by decide +kernel
theorem dX0_cutValue_17 : decode cX0_cutValue 17 = .ok (.iload 4, 2) := by decide +kernel
theorem dX0_cutValue_19 : decode cX0_cutValue 19 = .ok (.aload_n 0, 1) := by decide +kernel
theorem dX0_cutValue_20 : decode cX0_cutValue 20 = .ok (.getfield 9, 3) := by decide +kernel
theorem dX0_cutValue_23 : decode cX0_cutValue 23 = .ok (.if_icmp .ge 33, 3) := by decide +kernel
theorem dX0_cutValue_26 : decode cX0_cutValue 26 = .ok (.iload_n 1, 1) := by decide +kernel
theorem dX0_cutValue_27 : decode cX0_cutValue 27 = .ok (.iload_n 3, 1) := by decide +kernel
theorem dX0_cutValue_28 : decode cX0_cutValue 28 = .ok (.invokestatic 83, 3) := by decide +kernel
theorem dX0_cutValue_31 : decode cX0_cutValue 31 = .ok (.iload_n 1, 1) := by decide +kernel
theorem dX0_cutValue_32 : decode cX0_cutValue 32 = .ok (.iload 4, 2) := by decide +kernel
theorem dX0_cutValue_34 : decode cX0_cutValue 34 = .ok (.invokestatic 83, 3) := by decide +kernel
theorem dX0_cutValue_37 : decode cX0_cutValue 37 = .ok (.if_icmp .eq 13, 3) := by decide +kernel
theorem dX0_cutValue_40 : decode cX0_cutValue 40 = .ok (.iload_n 2, 1) := by decide +kernel
theorem dX0_cutValue_41 : decode cX0_cutValue 41 = .ok (.aload_n 0, 1) := by decide +kernel
theorem dX0_cutValue_42 : decode cX0_cutValue 42 = .ok (.iload_n 3, 1) := by decide +kernel
theorem dX0_cutValue_43 : decode cX0_cutValue 43 = .ok (.iload 4, 2) := by decide +kernel
theorem dX0_cutValue_45 : decode cX0_cutValue 45 = .ok (.invokevirtual 87, 3) := by decide +kernel
theorem dX0_cutValue_48 : decode cX0_cutValue 48 = .ok (.iadd, 1) := by decide +kernel
theorem dX0_cutValue_49 : decode cX0_cutValue 49 = .ok (.istore_n 2, 1) := by decide +kernel
theorem dX0_cutValue_50 : decode cX0_cutValue 50 = .ok (.iinc 4 1, 3) := by decide +kernel
theorem dX0_cutValue_53 : decode cX0_cutValue 53 = .ok (.goto (-36), 3) := by decide +kernel
theorem dX0_cutValue_56 : decode cX0_cutValue 56 = .ok (.iinc 3 1, 3) := by decide +kernel
theorem dX0_cutValue_59 : decode cX0_cutValue 59 = .ok (.goto (-55), 3) := by decide +kernel
theorem dX0_cutValue_62 : decode cX0_cutValue 62 = .ok (.iload_n 2, 1) := by decide +kernel
theorem dX0_cutValue_63 : decode cX0_cutValue 63 = .ok (.ireturn, 1) := by decide +kernel
set_option maxRecDepth 20000 in
theorem ggX0_rankValue_X0_countOf : GoodIn wsX0_rankValue wsX0_countOf := goodIn_r _ [9, 10, 11, 12, 8, 13, 14, 15, 16, 17, 18, 19, 20, 21, 27, 28, 29, 30, 31, 32, 33, 34, 35, 36, 37, 38] (by decide +kernel) (by decide +kernel)
set_option maxRecDepth 20000 in
theorem gX0_rankValue_X0_countOf : GoodIn wsX0_rankValue (wsV RX0 210 RX0 yX0_countOf wsX0_countOf) := goodIn_app (goodIn_of _ (by decide +kernel)) ggX0_rankValue_X0_countOf
set_option maxRecDepth 20000 in
theorem ggX0_rankValue_X0_roomOf : GoodIn wsX0_rankValue wsX0_roomOf := goodIn_r _ [25, 26, 19, 20, 8, 21, 27, 28, 29, 30, 31, 32, 33, 34, 35, 36, 37, 38] (by decide +kernel) (by decide +kernel)
set_option maxRecDepth 20000 in
theorem gX0_rankValue_X0_roomOf : GoodIn wsX0_rankValue (wsV RX0 99 RX0 yX0_roomOf wsX0_roomOf) := goodIn_app (goodIn_of _ (by decide +kernel)) ggX0_rankValue_X0_roomOf
theorem dX0_rankValue_0 : decode cX0_rankValue 0 = .ok (.iconst 0, 1) := by decide +kernel
theorem dX0_rankValue_1 : decode cX0_rankValue 1 = .ok (.istore_n 3, 1) := by decide +kernel
theorem dX0_rankValue_2 : decode cX0_rankValue 2 = .ok (.iconst 0, 1) := by decide +kernel
theorem dX0_rankValue_3 : decode cX0_rankValue 3 = .ok (.istore 4, 2) := by decide +kernel
theorem dX0_rankValue_5 : decode cX0_rankValue 5 = .ok (.iload 4, 2) := by decide +kernel
theorem dX0_rankValue_7 : decode cX0_rankValue 7 = .ok (.bipush 6, 2) := by decide +kernel
theorem dX0_rankValue_9 : decode cX0_rankValue 9 = .ok (.if_icmp .ge 30, 3) := by decide +kernel
theorem dX0_rankValue_12 : decode cX0_rankValue 12 = .ok (.iload_n 3, 1) := by decide +kernel
theorem dX0_rankValue_13 : decode cX0_rankValue 13 = .ok (.aload_n 0, 1) := by decide +kernel
theorem dX0_rankValue_14 : decode cX0_rankValue 14 = .ok (.iload_n 1, 1) := by decide +kernel
theorem dX0_rankValue_15 : decode cX0_rankValue 15 = .ok (.iload 4, 2) := by decide +kernel
theorem dX0_rankValue_17 : decode cX0_rankValue 17 = .ok (.iload_n 2, 1) := by decide +kernel
theorem dX0_rankValue_18 : decode cX0_rankValue 18 = .ok (.invokevirtual 210, 3) := by decide +kernel
theorem dX0_rankValue_21 : decode cX0_rankValue 21 = .ok (.aload_n 0, 1) := by decide +kernel
theorem dX0_rankValue_22 : decode cX0_rankValue 22 = .ok (.iload_n 1, 1) := by decide +kernel
theorem dX0_rankValue_23 : decode cX0_rankValue 23 = .ok (.iload 4, 2) := by decide +kernel
theorem dX0_rankValue_25 : decode cX0_rankValue 25 = .ok (.invokevirtual 99, 3) := by decide +kernel
theorem dX0_rankValue_28 : decode cX0_rankValue 28 = .ok (.invokestatic 128, 3) := by decide +kernel
theorem dX0_rankValue_31 : decode cX0_rankValue 31 = .ok (.iadd, 1) := by decide +kernel
theorem dX0_rankValue_32 : decode cX0_rankValue 32 = .ok (.istore_n 3, 1) := by decide +kernel
theorem dX0_rankValue_33 : decode cX0_rankValue 33 = .ok (.iinc 4 1, 3) := by decide +kernel
theorem dX0_rankValue_36 : decode cX0_rankValue 36 = .ok (.goto (-31), 3) := by decide +kernel
theorem dX0_rankValue_39 : decode cX0_rankValue 39 = .ok (.iload_n 3, 1) := by decide +kernel
theorem dX0_rankValue_40 : decode cX0_rankValue 40 = .ok (.ireturn, 1) := by decide +kernel
set_option maxRecDepth 20000 in
theorem ggX0_weightsValue_X0_has : GoodIn wsX0_weightsValue wsX0_has := goodIn_r _ [6] (by decide +kernel) (by decide +kernel)
set_option maxRecDepth 20000 in
theorem gX0_weightsValue_X0_has : GoodIn wsX0_weightsValue (va_wsS RX0 83 yX0_has wsX0_has) := goodIn_app (goodIn_of _ (by decide +kernel)) ggX0_weightsValue_X0_has
set_option maxRecDepth 20000 in
theorem ggX0_weightsValue_X0_at : GoodIn wsX0_weightsValue wsX0_at := goodIn_r _ [9] (by decide +kernel) (by decide +kernel)
set_option maxRecDepth 20000 in
theorem gX0_weightsValue_X0_at : GoodIn wsX0_weightsValue (va_wsS RX0 68 yX0_at wsX0_at) := goodIn_app (goodIn_of _ (by decide +kernel)) ggX0_weightsValue_X0_at
theorem dX0_weightsValue_0 : decode cX0_weightsValue 0 = .ok (.iconst 0, 1) := by decide +kernel
theorem dX0_weightsValue_1 : decode cX0_weightsValue 1 = .ok (.istore_n 2, 1) := by decide +kernel
theorem dX0_weightsValue_2 : decode cX0_weightsValue 2 = .ok (.iconst 0, 1) := by decide +kernel
theorem dX0_weightsValue_3 : decode cX0_weightsValue 3 = .ok (.istore_n 3, 1) := by decide +kernel
theorem dX0_weightsValue_4 : decode cX0_weightsValue 4 = .ok (.iload_n 3, 1) := by decide +kernel
theorem dX0_weightsValue_5 : decode cX0_weightsValue 5 = .ok (.aload_n 0, 1) := by decide +kernel
theorem dX0_weightsValue_6 : decode cX0_weightsValue 6 = .ok (.getfield 9, 3) := by decide +kernel
theorem dX0_weightsValue_9 : decode cX0_weightsValue 9 = .ok (.if_icmp .ge 28, 3) := by decide +kernel
theorem dX0_weightsValue_12 : decode cX0_weightsValue 12 = .ok (.iload_n 1, 1) := by decide +kernel
theorem dX0_weightsValue_13 : decode cX0_weightsValue 13 = .ok (.iload_n 3, 1) := by decide +kernel
theorem dX0_weightsValue_14 : decode cX0_weightsValue 14 = .ok (.invokestatic 83, 3) := by decide +kernel
theorem dX0_weightsValue_17 : decode cX0_weightsValue 17 = .ok (.ifCond .eq 14, 3) := by decide +kernel
theorem dX0_weightsValue_20 : decode cX0_weightsValue 20 = .ok (.iload_n 2, 1) := by decide +kernel
theorem dX0_weightsValue_21 : decode cX0_weightsValue 21 = .ok (.aload_n 0, 1) := by decide +kernel
theorem dX0_weightsValue_22 : decode cX0_weightsValue 22 = .ok (.getfield 32, 3) := by decide +kernel
theorem dX0_weightsValue_25 : decode cX0_weightsValue 25 = .ok (.iload_n 3, 1) := by decide +kernel
theorem dX0_weightsValue_26 : decode cX0_weightsValue 26 = .ok (.invokestatic 68, 3) := by decide +kernel
theorem dX0_weightsValue_29 : decode cX0_weightsValue 29 = .ok (.iadd, 1) := by decide +kernel
theorem dX0_weightsValue_30 : decode cX0_weightsValue 30 = .ok (.istore_n 2, 1) := by decide +kernel
theorem dX0_weightsValue_31 : decode cX0_weightsValue 31 = .ok (.iinc 3 1, 3) := by decide +kernel
theorem dX0_weightsValue_34 : decode cX0_weightsValue 34 = .ok (.goto (-30), 3) := by decide +kernel
theorem dX0_weightsValue_37 : decode cX0_weightsValue 37 = .ok (.iload_n 2, 1) := by decide +kernel
theorem dX0_weightsValue_38 : decode cX0_weightsValue 38 = .ok (.ireturn, 1) := by decide +kernel
set_option maxRecDepth 20000 in
theorem ggX0_countOf_X0_has : GoodIn wsX0_countOf wsX0_has := goodIn_r _ [5] (by decide +kernel) (by decide +kernel)
set_option maxRecDepth 20000 in
theorem gX0_countOf_X0_has : GoodIn wsX0_countOf (va_wsS RX0 83 yX0_has wsX0_has) := goodIn_app (goodIn_of _ (by decide +kernel)) ggX0_countOf_X0_has
set_option maxRecDepth 20000 in
theorem ggX0_countOf_X0_colourOf : GoodIn wsX0_countOf wsX0_colourOf := goodIn_r _ [9, 10, 11, 12, 4, 13, 14, 15, 16, 17, 18, 19, 20, 21, 22, 23, 24, 25] (by decide +kernel) (by decide +kernel)
set_option maxRecDepth 20000 in
theorem gX0_countOf_X0_colourOf : GoodIn wsX0_countOf (wsV RX0 96 RX0 yX0_colourOf wsX0_colourOf) := goodIn_app (goodIn_of _ (by decide +kernel)) ggX0_countOf_X0_colourOf
theorem dX0_countOf_0 : decode cX0_countOf 0 = .ok (.iconst 0, 1) := by decide +kernel
theorem dX0_countOf_1 : decode cX0_countOf 1 = .ok (.istore 4, 2) := by decide +kernel
theorem dX0_countOf_3 : decode cX0_countOf 3 = .ok (.iconst 0, 1) := by decide +kernel
theorem dX0_countOf_4 : decode cX0_countOf 4 = .ok (.istore 5, 2) := by decide +kernel
theorem dX0_countOf_6 : decode cX0_countOf 6 = .ok (.iload 5, 2) := by decide +kernel
theorem dX0_countOf_8 : decode cX0_countOf 8 = .ok (.aload_n 0, 1) := by decide +kernel
theorem dX0_countOf_9 : decode cX0_countOf 9 = .ok (.getfield 9, 3) := by decide +kernel
theorem dX0_countOf_12 : decode cX0_countOf 12 = .ok (.if_icmp .ge 32, 3) := by decide +kernel
theorem dX0_countOf_15 : decode cX0_countOf 15 = .ok (.iload_n 3, 1) := by decide +kernel
theorem dX0_countOf_16 : decode cX0_countOf 16 = .ok (.iload 5, 2) := by decide +kernel
theorem dX0_countOf_18 : decode cX0_countOf 18 = .ok (.invokestatic 83, 3) := by decide +kernel
theorem dX0_countOf_21 : decode cX0_countOf 21 = .ok (.ifCond .eq 17, 3) := by decide +kernel
theorem dX0_countOf_24 : decode cX0_countOf 24 = .ok (.aload_n 0, 1) := by decide +kernel
theorem dX0_countOf_25 : decode cX0_countOf 25 = .ok (.iload_n 1, 1) := by decide +kernel
theorem dX0_countOf_26 : decode cX0_countOf 26 = .ok (.iload 5, 2) := by decide +kernel
theorem dX0_countOf_28 : decode cX0_countOf 28 = .ok (.invokevirtual 96, 3) := by decide +kernel
theorem dX0_countOf_31 : decode cX0_countOf 31 = .ok (.iload_n 2, 1) := by decide +kernel
theorem dX0_countOf_32 : decode cX0_countOf 32 = .ok (.if_icmp .ne 6, 3) := by decide +kernel
theorem dX0_countOf_35 : decode cX0_countOf 35 = .ok (.iinc 4 1, 3) := by decide +kernel
theorem dX0_countOf_38 : decode cX0_countOf 38 = .ok (.iinc 5 1, 3) := by decide +kernel
theorem dX0_countOf_41 : decode cX0_countOf 41 = .ok (.goto (-35), 3) := by decide +kernel
theorem dX0_countOf_44 : decode cX0_countOf 44 = .ok (.iload 4, 2) := by decide +kernel
theorem dX0_countOf_46 : decode cX0_countOf 46 = .ok (.ireturn, 1) := by decide +kernel
set_option maxRecDepth 20000 in
theorem ggX0_gain_X0_with : GoodIn wsX0_gain wsX0_with := goodIn_r _ [4] (by decide +kernel) (by decide +kernel)
set_option maxRecDepth 20000 in
theorem gX0_gain_X0_with : GoodIn wsX0_gain (va_wsS RX0 72 yX0_with wsX0_with) := goodIn_app (goodIn_of _ (by decide +kernel)) ggX0_gain_X0_with
set_option maxRecDepth 20000 in
theorem ggX0_gain_X0_valueOf : GoodIn wsX0_gain wsX0_valueOf := goodIn_r _ [8, 9, 10, 11, 3, 12, 13, 14, 15, 16, 17, 18, 19, 20, 21, 22, 23, 24] (by decide +kernel) (by decide +kernel)
set_option maxRecDepth 20000 in
theorem gX0_gain_X0_valueOf : GoodIn wsX0_gain (wsV RX0 122 RX0 yX0_valueOf wsX0_valueOf) := goodIn_app (goodIn_of _ (by decide +kernel)) ggX0_gain_X0_valueOf
theorem dX0_gain_0 : decode cX0_gain 0 = .ok (.aload_n 0, 1) := by decide +kernel
theorem dX0_gain_1 : decode cX0_gain 1 = .ok (.iload_n 1, 1) := by decide +kernel
theorem dX0_gain_2 : decode cX0_gain 2 = .ok (.iload_n 2, 1) := by decide +kernel
theorem dX0_gain_3 : decode cX0_gain 3 = .ok (.iload_n 3, 1) := by decide +kernel
theorem dX0_gain_4 : decode cX0_gain 4 = .ok (.invokestatic 72, 3) := by decide +kernel
theorem dX0_gain_7 : decode cX0_gain 7 = .ok (.invokevirtual 122, 3) := by decide +kernel
theorem dX0_gain_10 : decode cX0_gain 10 = .ok (.aload_n 0, 1) := by decide +kernel
theorem dX0_gain_11 : decode cX0_gain 11 = .ok (.iload_n 1, 1) := by decide +kernel
theorem dX0_gain_12 : decode cX0_gain 12 = .ok (.iload_n 2, 1) := by decide +kernel
theorem dX0_gain_13 : decode cX0_gain 13 = .ok (.invokevirtual 122, 3) := by decide +kernel
theorem dX0_gain_16 : decode cX0_gain 16 = .ok (.isub, 1) := by decide +kernel
theorem dX0_gain_17 : decode cX0_gain 17 = .ok (.ireturn, 1) := by decide +kernel
set_option maxRecDepth 20000 in
theorem ggX0_hasLaw_X0_sets : GoodIn wsX0_hasLaw wsX0_sets := goodIn_r _ [5, 6, 29, 30, 31, 32, 33, 34, 35, 36, 37, 38, 39, 40] (by decide +kernel) (by decide +kernel)
set_option maxRecDepth 20000 in
theorem gX0_hasLaw_X0_sets : GoodIn wsX0_hasLaw (wsV RX0 105 RX0 yX0_sets wsX0_sets) := goodIn_app (goodIn_of _ (by decide +kernel)) ggX0_hasLaw_X0_sets
set_option maxRecDepth 20000 in
theorem ggX0_hasLaw_X0_hasLawAbove : GoodIn wsX0_hasLaw wsX0_hasLawAbove := goodIn_r _ [10, 6, 11, 12, 4, 13, 14, 15, 16, 17, 18, 19, 20, 21, 22, 23, 24, 25, 26, 27, 28, 29, 30, 31, 32, 33, 34, 35, 36, 37, 38, 39, 40] (by decide +kernel) (by decide +kernel)
set_option maxRecDepth 20000 in
theorem gX0_hasLaw_X0_hasLawAbove : GoodIn wsX0_hasLaw (wsV RX0 213 RX0 yX0_hasLawAbove wsX0_hasLawAbove) := goodIn_app (goodIn_of _ (by decide +kernel)) ggX0_hasLaw_X0_hasLawAbove
theorem dX0_hasLaw_0 : decode cX0_hasLaw 0 = .ok (.iconst 0, 1) := by decide +kernel
theorem dX0_hasLaw_1 : decode cX0_hasLaw 1 = .ok (.istore_n 2, 1) := by decide +kernel
theorem dX0_hasLaw_2 : decode cX0_hasLaw 2 = .ok (.iload_n 2, 1) := by decide +kernel
theorem dX0_hasLaw_3 : decode cX0_hasLaw 3 = .ok (.aload_n 0, 1) := by decide +kernel
theorem dX0_hasLaw_4 : decode cX0_hasLaw 4 = .ok (.invokevirtual 105, 3) := by decide +kernel
theorem dX0_hasLaw_7 : decode cX0_hasLaw 7 = .ok (.if_icmp .ge 20, 3) := by decide +kernel
theorem dX0_hasLaw_10 : decode cX0_hasLaw 10 = .ok (.aload_n 0, 1) := by decide +kernel
theorem dX0_hasLaw_11 : decode cX0_hasLaw 11 = .ok (.iload_n 1, 1) := by decide +kernel
theorem dX0_hasLaw_12 : decode cX0_hasLaw 12 = .ok (.iload_n 2, 1) := by decide +kernel
theorem dX0_hasLaw_13 : decode cX0_hasLaw 13 = .ok (.invokevirtual 213, 3) := by decide +kernel
theorem dX0_hasLaw_16 : decode cX0_hasLaw 16 = .ok (.ifCond .ne 5, 3) := by decide +kernel
theorem dX0_hasLaw_19 : decode cX0_hasLaw 19 = .ok (.iconst 0, 1) := by decide +kernel
theorem dX0_hasLaw_20 : decode cX0_hasLaw 20 = .ok (.ireturn, 1) := by decide +kernel
theorem dX0_hasLaw_21 : decode cX0_hasLaw 21 = .ok (.iinc 2 1, 3) := by decide +kernel
theorem dX0_hasLaw_24 : decode cX0_hasLaw 24 = .ok (.goto (-22), 3) := by decide +kernel
theorem dX0_hasLaw_27 : decode cX0_hasLaw 27 = .ok (.iconst 1, 1) := by decide +kernel
theorem dX0_hasLaw_28 : decode cX0_hasLaw 28 = .ok (.ireturn, 1) := by decide +kernel
set_option maxRecDepth 20000 in
theorem ggX0_hasLawAbove_X0_has : GoodIn wsX0_hasLawAbove wsX0_has := goodIn_r _ [5] (by decide +kernel) (by decide +kernel)
set_option maxRecDepth 20000 in
theorem gX0_hasLawAbove_X0_has : GoodIn wsX0_hasLawAbove (va_wsS RX0 83 yX0_has wsX0_has) := goodIn_app (goodIn_of _ (by decide +kernel)) ggX0_hasLawAbove_X0_has
set_option maxRecDepth 20000 in
theorem ggX0_hasLawAbove_X0_gain : GoodIn wsX0_hasLawAbove wsX0_gain := goodIn_r _ [9, 10, 11, 4, 12, 13, 14, 15, 16, 17, 18, 19, 20, 21, 22, 23, 24, 25, 26, 27, 28, 29, 30, 31, 32] (by decide +kernel) (by decide +kernel)
set_option maxRecDepth 20000 in
theorem gX0_hasLawAbove_X0_gain : GoodIn wsX0_hasLawAbove (wsV RX0 136 RX0 yX0_gain wsX0_gain) := goodIn_app (goodIn_of _ (by decide +kernel)) ggX0_hasLawAbove_X0_gain
set_option maxRecDepth 20000 in
theorem ggX0_hasLawAbove_X0_with : GoodIn wsX0_hasLawAbove wsX0_with := goodIn_r _ [12] (by decide +kernel) (by decide +kernel)
set_option maxRecDepth 20000 in
theorem gX0_hasLawAbove_X0_with : GoodIn wsX0_hasLawAbove (va_wsS RX0 72 yX0_with wsX0_with) := goodIn_app (goodIn_of _ (by decide +kernel)) ggX0_hasLawAbove_X0_with
theorem dX0_hasLawAbove_0 : decode cX0_hasLawAbove 0 = .ok (.iconst 0, 1) := by decide +kernel
theorem dX0_hasLawAbove_1 : decode cX0_hasLawAbove 1 = .ok (.istore_n 3, 1) := by decide +kernel
theorem dX0_hasLawAbove_2 : decode cX0_hasLawAbove 2 = .ok (.iload_n 3, 1) := by decide +kernel
theorem dX0_hasLawAbove_3 : decode cX0_hasLawAbove 3 = .ok (.aload_n 0, 1) := by decide +kernel
theorem dX0_hasLawAbove_4 : decode cX0_hasLawAbove 4 = .ok (.getfield 9, 3) := by decide +kernel
theorem dX0_hasLawAbove_7 : decode cX0_hasLawAbove 7 = .ok (.if_icmp .ge 82, 3) := by decide +kernel
theorem dX0_hasLawAbove_10 : decode cX0_hasLawAbove 10 = .ok (.iload_n 3, 1) := by decide +kernel
theorem dX0_hasLawAbove_11 : decode cX0_hasLawAbove 11 = .ok (.iconst 1, 1) := by decide +kernel
theorem dX0_hasLawAbove_12 : decode cX0_hasLawAbove 12 = .ok (.iadd, 1) := by decide +kernel
theorem dX0_hasLawAbove_13 : decode cX0_hasLawAbove 13 = .ok (.istore 4, 2) := by decide +kernel
theorem dX0_hasLawAbove_15 : decode cX0_hasLawAbove 15 = .ok (.iload 4, 2) := by decide +kernel
theorem dX0_hasLawAbove_17 : decode cX0_hasLawAbove 17 = .ok (.aload_n 0, 1) := by decide +kernel
theorem dX0_hasLawAbove_18 : decode cX0_hasLawAbove 18 = .ok (.getfield 9, 3) := by decide +kernel
theorem dX0_hasLawAbove_21 : decode cX0_hasLawAbove 21 = .ok (.if_icmp .ge 62, 3) := by decide +kernel
theorem dX0_hasLawAbove_24 : decode cX0_hasLawAbove 24 = .ok (.iload_n 2, 1) := by decide +kernel
theorem dX0_hasLawAbove_25 : decode cX0_hasLawAbove 25 = .ok (.iload_n 3, 1) := by decide +kernel
theorem dX0_hasLawAbove_26 : decode cX0_hasLawAbove 26 = .ok (.invokestatic 83, 3) := by decide +kernel
theorem dX0_hasLawAbove_29 : decode cX0_hasLawAbove 29 = .ok (.ifCond .ne 16, 3) := by decide +kernel
theorem dX0_hasLawAbove_32 : decode cX0_hasLawAbove 32 = .ok (.iload_n 2, 1) := by decide +kernel
theorem dX0_hasLawAbove_33 : decode cX0_hasLawAbove 33 = .ok (.iload 4, 2) := by decide +kernel
theorem dX0_hasLawAbove_35 : decode cX0_hasLawAbove 35 = .ok (.invokestatic 83, 3) := by decide +kernel
theorem dX0_hasLawAbove_38 : decode cX0_hasLawAbove 38 = .ok (.ifCond .ne 7, 3) := by decide +kernel
theorem dX0_hasLawAbove_41 : decode cX0_hasLawAbove 41 = .ok (.iconst 1, 1) := by decide +kernel
theorem dX0_hasLawAbove_42 : decode cX0_hasLawAbove 42 = .ok (.goto 4, 3) := by decide +kernel
theorem dX0_hasLawAbove_45 : decode cX0_hasLawAbove 45 = .ok (.iconst 0, 1) := by decide +kernel
theorem dX0_hasLawAbove_46 : decode cX0_hasLawAbove 46 = .ok (.istore 5, 2) := by decide +kernel
theorem dX0_hasLawAbove_48 : decode cX0_hasLawAbove 48 = .ok (.iload 5, 2) := by decide +kernel
theorem dX0_hasLawAbove_50 : decode cX0_hasLawAbove 50 = .ok (.ifCond .eq 27, 3) := by decide +kernel
theorem dX0_hasLawAbove_53 : decode cX0_hasLawAbove 53 = .ok (.aload_n 0, 1) := by decide +kernel
theorem dX0_hasLawAbove_54 : decode cX0_hasLawAbove 54 = .ok (.iload_n 1, 1) := by decide +kernel
theorem dX0_hasLawAbove_55 : decode cX0_hasLawAbove 55 = .ok (.iload_n 2, 1) := by decide +kernel
theorem dX0_hasLawAbove_56 : decode cX0_hasLawAbove 56 = .ok (.iload_n 3, 1) := by decide +kernel
theorem dX0_hasLawAbove_57 : decode cX0_hasLawAbove 57 = .ok (.invokevirtual 136, 3) := by decide +kernel
theorem dX0_hasLawAbove_60 : decode cX0_hasLawAbove 60 = .ok (.aload_n 0, 1) := by decide +kernel
theorem dX0_hasLawAbove_61 : decode cX0_hasLawAbove 61 = .ok (.iload_n 1, 1) := by decide +kernel
theorem dX0_hasLawAbove_62 : decode cX0_hasLawAbove 62 = .ok (.iload_n 2, 1) := by decide +kernel
theorem dX0_hasLawAbove_63 : decode cX0_hasLawAbove 63 = .ok (.iload 4, 2) := by decide +kernel
theorem dX0_hasLawAbove_65 : decode cX0_hasLawAbove 65 = .ok (.invokestatic 72, 3) := by decide +kernel
theorem dX0_hasLawAbove_68 : decode cX0_hasLawAbove 68 = .ok (.iload_n 3, 1) := by decide +kernel
theorem dX0_hasLawAbove_69 : decode cX0_hasLawAbove 69 = .ok (.invokevirtual 136, 3) := by decide +kernel
theorem dX0_hasLawAbove_72 : decode cX0_hasLawAbove 72 = .ok (.if_icmp .ge 5, 3) := by decide +kernel
theorem dX0_hasLawAbove_75 : decode cX0_hasLawAbove 75 = .ok (.iconst 0, 1) := by decide +kernel
theorem dX0_hasLawAbove_76 : decode cX0_hasLawAbove 76 = .ok (.ireturn, 1) := by decide +kernel
theorem dX0_hasLawAbove_77 : decode cX0_hasLawAbove 77 = .ok (.iinc 4 1, 3) := by decide +kernel
theorem dX0_hasLawAbove_80 : decode cX0_hasLawAbove 80 = .ok (.goto (-65), 3) := by decide +kernel
theorem dX0_hasLawAbove_83 : decode cX0_hasLawAbove 83 = .ok (.iinc 3 1, 3) := by decide +kernel
theorem dX0_hasLawAbove_86 : decode cX0_hasLawAbove 86 = .ok (.goto (-84), 3) := by decide +kernel
theorem dX0_hasLawAbove_89 : decode cX0_hasLawAbove 89 = .ok (.iconst 1, 1) := by decide +kernel
theorem dX0_hasLawAbove_90 : decode cX0_hasLawAbove 90 = .ok (.ireturn, 1) := by decide +kernel
set_option maxRecDepth 20000 in
theorem ggX0_leastBetween_X0_takenIn : GoodIn wsX0_leastBetween wsX0_takenIn := goodIn_r _ [6, 1, 7, 8, 5, 9, 10, 11, 12, 13, 14, 15, 16, 17, 18, 19, 20, 21, 22, 23, 24, 39, 40, 41, 42, 43, 44, 45, 46, 47, 48, 49, 50] (by decide +kernel) (by decide +kernel)
set_option maxRecDepth 20000 in
theorem gX0_leastBetween_X0_takenIn : GoodIn wsX0_leastBetween (wsV RX0 216 RX0 yX0_takenIn wsX0_takenIn) := goodIn_app (goodIn_of _ (by decide +kernel)) ggX0_leastBetween_X0_takenIn
set_option maxRecDepth 20000 in
theorem ggX0_leastBetween_X0_takenOut : GoodIn wsX0_leastBetween wsX0_takenOut := goodIn_r _ [28, 1, 7, 8, 5, 9, 29, 30, 31, 10, 11, 12, 13, 14, 15, 16, 17, 18, 19, 20, 21, 22, 23, 24, 39, 40, 41, 42, 43, 44, 45, 46, 47, 48, 49, 50] (by decide +kernel) (by decide +kernel)
set_option maxRecDepth 20000 in
theorem gX0_leastBetween_X0_takenOut : GoodIn wsX0_leastBetween (wsV RX0 220 RX0 yX0_takenOut wsX0_takenOut) := goodIn_app (goodIn_of _ (by decide +kernel)) ggX0_leastBetween_X0_takenOut
set_option maxRecDepth 20000 in
theorem ggX0_leastBetween_X0_lowest : GoodIn wsX0_leastBetween wsX0_lowest := goodIn_r _ [35, 1, 7, 8, 5, 9, 39, 40, 41, 42, 43, 44, 45, 46, 47, 48, 49, 50] (by decide +kernel) (by decide +kernel)
set_option maxRecDepth 20000 in
theorem gX0_leastBetween_X0_lowest : GoodIn wsX0_leastBetween (wsV RX0 223 RX0 yX0_lowest wsX0_lowest) := goodIn_app (goodIn_of _ (by decide +kernel)) ggX0_leastBetween_X0_lowest
set_option maxRecDepth 20000 in
theorem ggX0_leastBetween_X0_with : GoodIn wsX0_leastBetween wsX0_with := goodIn_r _ [16] (by decide +kernel) (by decide +kernel)
set_option maxRecDepth 20000 in
theorem gX0_leastBetween_X0_with : GoodIn wsX0_leastBetween (va_wsS RX0 72 yX0_with wsX0_with) := goodIn_app (goodIn_of _ (by decide +kernel)) ggX0_leastBetween_X0_with
set_option maxRecDepth 20000 in
theorem ggX0_leastBetween_X0_leastBetween : GoodIn wsX0_leastBetween wsX0_leastBetween := goodIn_r _ [0, 1, 2, 3, 4, 5, 6, 7, 8, 9, 10, 11, 12, 13, 14, 15, 16, 17, 18, 19, 20, 21, 22, 23, 24, 25, 26, 27, 28, 29, 30, 31, 32, 33, 34, 35, 36, 37, 38, 39, 40, 41, 42, 43, 44, 45, 46, 47, 48, 49, 50] (by decide +kernel) (by decide +kernel)
set_option maxRecDepth 20000 in
theorem gX0_leastBetween_X0_leastBetween : GoodIn wsX0_leastBetween (wsV RX0 143 RX0 yX0_leastBetween wsX0_leastBetween) := goodIn_app (goodIn_of _ (by decide +kernel)) ggX0_leastBetween_X0_leastBetween
set_option maxRecDepth 20000 in
theorem ggX0_leastBetween_X0_without : GoodIn wsX0_leastBetween wsX0_without := goodIn_r _ [31] (by decide +kernel) (by decide +kernel)
set_option maxRecDepth 20000 in
theorem gX0_leastBetween_X0_without : GoodIn wsX0_leastBetween (va_wsS RX0 76 yX0_without wsX0_without) := goodIn_app (goodIn_of _ (by decide +kernel)) ggX0_leastBetween_X0_without
set_option maxRecDepth 20000 in
theorem ggX0_leastBetween_X0_valueOf : GoodIn wsX0_leastBetween wsX0_valueOf := goodIn_r _ [20, 21, 22, 23, 5, 24, 39, 40, 41, 42, 43, 44, 45, 46, 47, 48, 49, 50] (by decide +kernel) (by decide +kernel)
set_option maxRecDepth 20000 in
theorem gX0_leastBetween_X0_valueOf : GoodIn wsX0_leastBetween (wsV RX0 122 RX0 yX0_valueOf wsX0_valueOf) := goodIn_app (goodIn_of _ (by decide +kernel)) ggX0_leastBetween_X0_valueOf
theorem dX0_leastBetween_0 : decode cX0_leastBetween 0 = .ok (.iload_n 2, 1) := by decide +kernel
theorem dX0_leastBetween_1 : decode cX0_leastBetween 1 = .ok (.istore 6, 2) := by decide +kernel
theorem dX0_leastBetween_3 : decode cX0_leastBetween 3 = .ok (.iload_n 3, 1) := by decide +kernel
theorem dX0_leastBetween_4 : decode cX0_leastBetween 4 = .ok (.istore 7, 2) := by decide +kernel
theorem dX0_leastBetween_6 : decode cX0_leastBetween 6 = .ok (.iconst 0, 1) := by decide +kernel
theorem dX0_leastBetween_7 : decode cX0_leastBetween 7 = .ok (.istore 8, 2) := by decide +kernel
theorem dX0_leastBetween_9 : decode cX0_leastBetween 9 = .ok (.iload 8, 2) := by decide +kernel
theorem dX0_leastBetween_11 : decode cX0_leastBetween 11 = .ok (.aload_n 0, 1) := by decide +kernel
theorem dX0_leastBetween_12 : decode cX0_leastBetween 12 = .ok (.getfield 9, 3) := by decide +kernel
theorem dX0_leastBetween_15 : decode cX0_leastBetween 15 = .ok (.if_icmp .ge 60, 3) := by decide +kernel
theorem dX0_leastBetween_18 : decode cX0_leastBetween 18 = .ok (.aload_n 0, 1) := by decide +kernel
theorem dX0_leastBetween_19 : decode cX0_leastBetween 19 = .ok (.iload_n 1, 1) := by decide +kernel
theorem dX0_leastBetween_20 : decode cX0_leastBetween 20 = .ok (.iload 6, 2) := by decide +kernel
theorem dX0_leastBetween_22 : decode cX0_leastBetween 22 = .ok (.iload 7, 2) := by decide +kernel
theorem dX0_leastBetween_24 : decode cX0_leastBetween 24 = .ok (.iload 4, 2) := by decide +kernel
theorem dX0_leastBetween_26 : decode cX0_leastBetween 26 = .ok (.invokevirtual 216, 3) := by decide +kernel
theorem dX0_leastBetween_29 : decode cX0_leastBetween 29 = .ok (.istore 9, 2) := by decide +kernel
theorem dX0_leastBetween_31 : decode cX0_leastBetween 31 = .ok (.aload_n 0, 1) := by decide +kernel
theorem dX0_leastBetween_32 : decode cX0_leastBetween 32 = .ok (.iload_n 1, 1) := by decide +kernel
theorem dX0_leastBetween_33 : decode cX0_leastBetween 33 = .ok (.iload 9, 2) := by decide +kernel
theorem dX0_leastBetween_35 : decode cX0_leastBetween 35 = .ok (.iload 7, 2) := by decide +kernel
theorem dX0_leastBetween_37 : decode cX0_leastBetween 37 = .ok (.iload 4, 2) := by decide +kernel
theorem dX0_leastBetween_39 : decode cX0_leastBetween 39 = .ok (.invokevirtual 220, 3) := by decide +kernel
theorem dX0_leastBetween_42 : decode cX0_leastBetween 42 = .ok (.istore 10, 2) := by decide +kernel
theorem dX0_leastBetween_44 : decode cX0_leastBetween 44 = .ok (.iload 9, 2) := by decide +kernel
theorem dX0_leastBetween_46 : decode cX0_leastBetween 46 = .ok (.iload 6, 2) := by decide +kernel
theorem dX0_leastBetween_48 : decode cX0_leastBetween 48 = .ok (.if_icmp .ne 13, 3) := by decide +kernel
theorem dX0_leastBetween_51 : decode cX0_leastBetween 51 = .ok (.iload 10, 2) := by decide +kernel
theorem dX0_leastBetween_53 : decode cX0_leastBetween 53 = .ok (.iload 7, 2) := by decide +kernel
theorem dX0_leastBetween_55 : decode cX0_leastBetween 55 = .ok (.if_icmp .ne 6, 3) := by decide +kernel
theorem dX0_leastBetween_58 : decode cX0_leastBetween 58 = .ok (.goto 17, 3) := by decide +kernel
theorem dX0_leastBetween_61 : decode cX0_leastBetween 61 = .ok (.iload 9, 2) := by decide +kernel
theorem dX0_leastBetween_63 : decode cX0_leastBetween 63 = .ok (.istore 6, 2) := by decide +kernel
theorem dX0_leastBetween_65 : decode cX0_leastBetween 65 = .ok (.iload 10, 2) := by decide +kernel
theorem dX0_leastBetween_67 : decode cX0_leastBetween 67 = .ok (.istore 7, 2) := by decide +kernel
theorem dX0_leastBetween_69 : decode cX0_leastBetween 69 = .ok (.iinc 8 1, 3) := by decide +kernel
theorem dX0_leastBetween_72 : decode cX0_leastBetween 72 = .ok (.goto (-63), 3) := by decide +kernel
theorem dX0_leastBetween_75 : decode cX0_leastBetween 75 = .ok (.aload_n 0, 1) := by decide +kernel
theorem dX0_leastBetween_76 : decode cX0_leastBetween 76 = .ok (.iload 7, 2) := by decide +kernel
theorem dX0_leastBetween_78 : decode cX0_leastBetween 78 = .ok (.iload 6, 2) := by decide +kernel
theorem dX0_leastBetween_80 : decode cX0_leastBetween 80 = .ok (.iconst (-1), 1) := by decide +kernel
theorem dX0_leastBetween_81 : decode cX0_leastBetween 81 = .ok (.ixor, 1) := by decide +kernel
theorem dX0_leastBetween_82 : decode cX0_leastBetween 82 = .ok (.iand, 1) := by decide +kernel
theorem dX0_leastBetween_83 : decode cX0_leastBetween 83 = .ok (.invokevirtual 223, 3) := by decide +kernel
theorem dX0_leastBetween_86 : decode cX0_leastBetween 86 = .ok (.istore 8, 2) := by decide +kernel
theorem dX0_leastBetween_88 : decode cX0_leastBetween 88 = .ok (.iload 8, 2) := by decide +kernel
theorem dX0_leastBetween_90 : decode cX0_leastBetween 90 = .ok (.iconst (-1), 1) := by decide +kernel
theorem dX0_leastBetween_91 : decode cX0_leastBetween 91 = .ok (.if_icmp .eq 10, 3) := by decide +kernel
theorem dX0_leastBetween_94 : decode cX0_leastBetween 94 = .ok (.iload 5, 2) := by decide +kernel
theorem dX0_leastBetween_96 : decode cX0_leastBetween 96 = .ok (.bipush 6, 2) := by decide +kernel
theorem dX0_leastBetween_98 : decode cX0_leastBetween 98 = .ok (.if_icmp .lt 6, 3) := by decide +kernel
theorem dX0_leastBetween_101 : decode cX0_leastBetween 101 = .ok (.iload 6, 2) := by decide +kernel
theorem dX0_leastBetween_103 : decode cX0_leastBetween 103 = .ok (.ireturn, 1) := by decide +kernel
theorem dX0_leastBetween_104 : decode cX0_leastBetween 104 = .ok (.aload_n 0, 1) := by decide +kernel
theorem dX0_leastBetween_105 : decode cX0_leastBetween 105 = .ok (.iload_n 1, 1) := by decide +kernel
theorem dX0_leastBetween_106 : decode cX0_leastBetween 106 = .ok (.iload 6, 2) := by decide +kernel
theorem dX0_leastBetween_108 : decode cX0_leastBetween 108 = .ok (.iload 8, 2) := by decide +kernel
theorem dX0_leastBetween_110 : decode cX0_leastBetween 110 = .ok (.invokestatic 72, 3) := by decide +kernel
theorem dX0_leastBetween_113 : decode cX0_leastBetween 113 = .ok (.iload 7, 2) := by decide +kernel
theorem dX0_leastBetween_115 : decode cX0_leastBetween 115 = .ok (.iload 4, 2) := by decide +kernel
theorem dX0_leastBetween_117 : decode cX0_leastBetween 117 = .ok (.iload 5, 2) := by decide +kernel
theorem dX0_leastBetween_119 : decode cX0_leastBetween 119 = .ok (.iconst 1, 1) := by decide +kernel
theorem dX0_leastBetween_120 : decode cX0_leastBetween 120 = .ok (.iadd, 1) := by decide +kernel
theorem dX0_leastBetween_121 : decode cX0_leastBetween 121 = .ok (.invokevirtual 143, 3) := by decide +kernel
theorem dX0_leastBetween_124 : decode cX0_leastBetween 124 = .ok (.istore 9, 2) := by decide +kernel
theorem dX0_leastBetween_126 : decode cX0_leastBetween 126 = .ok (.aload_n 0, 1) := by decide +kernel
theorem dX0_leastBetween_127 : decode cX0_leastBetween 127 = .ok (.iload_n 1, 1) := by decide +kernel
theorem dX0_leastBetween_128 : decode cX0_leastBetween 128 = .ok (.iload 6, 2) := by decide +kernel
theorem dX0_leastBetween_130 : decode cX0_leastBetween 130 = .ok (.iload 7, 2) := by decide +kernel
theorem dX0_leastBetween_132 : decode cX0_leastBetween 132 = .ok (.iload 8, 2) := by decide +kernel
theorem dX0_leastBetween_134 : decode cX0_leastBetween 134 = .ok (.invokestatic 76, 3) := by decide +kernel
theorem dX0_leastBetween_137 : decode cX0_leastBetween 137 = .ok (.iload 4, 2) := by decide +kernel
theorem dX0_leastBetween_139 : decode cX0_leastBetween 139 = .ok (.iload 5, 2) := by decide +kernel
theorem dX0_leastBetween_141 : decode cX0_leastBetween 141 = .ok (.iconst 1, 1) := by decide +kernel
theorem dX0_leastBetween_142 : decode cX0_leastBetween 142 = .ok (.iadd, 1) := by decide +kernel
theorem dX0_leastBetween_143 : decode cX0_leastBetween 143 = .ok (.invokevirtual 143, 3) := by decide +kernel
theorem dX0_leastBetween_146 : decode cX0_leastBetween 146 = .ok (.istore 10, 2) := by decide +kernel
theorem dX0_leastBetween_148 : decode cX0_leastBetween 148 = .ok (.aload_n 0, 1) := by decide +kernel
theorem dX0_leastBetween_149 : decode cX0_leastBetween 149 = .ok (.iload_n 1, 1) := by decide +kernel
theorem dX0_leastBetween_150 : decode cX0_leastBetween 150 = .ok (.iload 9, 2) := by decide +kernel
theorem dX0_leastBetween_152 : decode cX0_leastBetween 152 = .ok (.invokevirtual 122, 3) := by decide +kernel
theorem dX0_leastBetween_155 : decode cX0_leastBetween 155 = .ok (.aload_n 0, 1) := by decide +kernel
theorem dX0_leastBetween_156 : decode cX0_leastBetween 156 = .ok (.iload_n 1, 1) := by decide +kernel
theorem dX0_leastBetween_157 : decode cX0_leastBetween 157 = .ok (.iload 10, 2) := by decide +kernel
theorem dX0_leastBetween_159 : decode cX0_leastBetween 159 = .ok (.invokevirtual 122, 3) := by decide +kernel
theorem dX0_leastBetween_162 : decode cX0_leastBetween 162 = .ok (.isub, 1) := by decide +kernel
theorem dX0_leastBetween_163 : decode cX0_leastBetween 163 = .ok (.istore 11, 2) := by decide +kernel
theorem dX0_leastBetween_165 : decode cX0_leastBetween 165 = .ok (.iload 11, 2) := by decide +kernel
theorem dX0_leastBetween_167 : decode cX0_leastBetween 167 = .ok (.ifCond .lt 13, 3) := by decide +kernel
theorem dX0_leastBetween_170 : decode cX0_leastBetween 170 = .ok (.iload 11, 2) := by decide +kernel
theorem dX0_leastBetween_172 : decode cX0_leastBetween 172 = .ok (.ifCond .ne 13, 3) := by decide +kernel
theorem dX0_leastBetween_175 : decode cX0_leastBetween 175 = .ok (.iload 4, 2) := by decide +kernel
theorem dX0_leastBetween_177 : decode cX0_leastBetween 177 = .ok (.ifCond .eq 8, 3) := by decide +kernel
theorem dX0_leastBetween_180 : decode cX0_leastBetween 180 = .ok (.iload 9, 2) := by decide +kernel
theorem dX0_leastBetween_182 : decode cX0_leastBetween 182 = .ok (.goto 5, 3) := by decide +kernel
theorem dX0_leastBetween_185 : decode cX0_leastBetween 185 = .ok (.iload 10, 2) := by decide +kernel
theorem dX0_leastBetween_187 : decode cX0_leastBetween 187 = .ok (.ireturn, 1) := by decide +kernel
set_option maxRecDepth 20000 in
theorem ggX0_takenIn_X0_has : GoodIn wsX0_takenIn wsX0_has := goodIn_r _ [5] (by decide +kernel) (by decide +kernel)
set_option maxRecDepth 20000 in
theorem gX0_takenIn_X0_has : GoodIn wsX0_takenIn (va_wsS RX0 83 yX0_has wsX0_has) := goodIn_app (goodIn_of _ (by decide +kernel)) ggX0_takenIn_X0_has
set_option maxRecDepth 20000 in
theorem ggX0_takenIn_X0_gain : GoodIn wsX0_takenIn wsX0_gain := goodIn_r _ [9, 10, 11, 4, 12, 13, 14, 15, 16, 17, 18, 19, 20, 21, 22, 23, 24, 25, 26, 27, 28, 29, 30, 31, 32] (by decide +kernel) (by decide +kernel)
set_option maxRecDepth 20000 in
theorem gX0_takenIn_X0_gain : GoodIn wsX0_takenIn (wsV RX0 136 RX0 yX0_gain wsX0_gain) := goodIn_app (goodIn_of _ (by decide +kernel)) ggX0_takenIn_X0_gain
set_option maxRecDepth 20000 in
theorem ggX0_takenIn_X0_with : GoodIn wsX0_takenIn wsX0_with := goodIn_r _ [12] (by decide +kernel) (by decide +kernel)
set_option maxRecDepth 20000 in
theorem gX0_takenIn_X0_with : GoodIn wsX0_takenIn (va_wsS RX0 72 yX0_with wsX0_with) := goodIn_app (goodIn_of _ (by decide +kernel)) ggX0_takenIn_X0_with
theorem dX0_takenIn_0 : decode cX0_takenIn 0 = .ok (.iload_n 2, 1) := by decide +kernel
theorem dX0_takenIn_1 : decode cX0_takenIn 1 = .ok (.istore 5, 2) := by decide +kernel
theorem dX0_takenIn_3 : decode cX0_takenIn 3 = .ok (.iconst 0, 1) := by decide +kernel
theorem dX0_takenIn_4 : decode cX0_takenIn 4 = .ok (.istore 6, 2) := by decide +kernel
theorem dX0_takenIn_6 : decode cX0_takenIn 6 = .ok (.iload 6, 2) := by decide +kernel
theorem dX0_takenIn_8 : decode cX0_takenIn 8 = .ok (.aload_n 0, 1) := by decide +kernel
theorem dX0_takenIn_9 : decode cX0_takenIn 9 = .ok (.getfield 9, 3) := by decide +kernel
theorem dX0_takenIn_12 : decode cX0_takenIn 12 = .ok (.if_icmp .ge 63, 3) := by decide +kernel
theorem dX0_takenIn_15 : decode cX0_takenIn 15 = .ok (.iload_n 3, 1) := by decide +kernel
theorem dX0_takenIn_16 : decode cX0_takenIn 16 = .ok (.iload 6, 2) := by decide +kernel
theorem dX0_takenIn_18 : decode cX0_takenIn 18 = .ok (.invokestatic 83, 3) := by decide +kernel
theorem dX0_takenIn_21 : decode cX0_takenIn 21 = .ok (.ifCond .eq 48, 3) := by decide +kernel
theorem dX0_takenIn_24 : decode cX0_takenIn 24 = .ok (.iload 5, 2) := by decide +kernel
theorem dX0_takenIn_26 : decode cX0_takenIn 26 = .ok (.iload 6, 2) := by decide +kernel
theorem dX0_takenIn_28 : decode cX0_takenIn 28 = .ok (.invokestatic 83, 3) := by decide +kernel
theorem dX0_takenIn_31 : decode cX0_takenIn 31 = .ok (.ifCond .ne 38, 3) := by decide +kernel
theorem dX0_takenIn_34 : decode cX0_takenIn 34 = .ok (.aload_n 0, 1) := by decide +kernel
theorem dX0_takenIn_35 : decode cX0_takenIn 35 = .ok (.iload_n 1, 1) := by decide +kernel
theorem dX0_takenIn_36 : decode cX0_takenIn 36 = .ok (.iload 5, 2) := by decide +kernel
theorem dX0_takenIn_38 : decode cX0_takenIn 38 = .ok (.iload 6, 2) := by decide +kernel
theorem dX0_takenIn_40 : decode cX0_takenIn 40 = .ok (.invokevirtual 136, 3) := by decide +kernel
theorem dX0_takenIn_43 : decode cX0_takenIn 43 = .ok (.istore 7, 2) := by decide +kernel
theorem dX0_takenIn_45 : decode cX0_takenIn 45 = .ok (.iload 7, 2) := by decide +kernel
theorem dX0_takenIn_47 : decode cX0_takenIn 47 = .ok (.ifCond .lt 13, 3) := by decide +kernel
theorem dX0_takenIn_50 : decode cX0_takenIn 50 = .ok (.iload 7, 2) := by decide +kernel
theorem dX0_takenIn_52 : decode cX0_takenIn 52 = .ok (.ifCond .ne 17, 3) := by decide +kernel
theorem dX0_takenIn_55 : decode cX0_takenIn 55 = .ok (.iload 4, 2) := by decide +kernel
theorem dX0_takenIn_57 : decode cX0_takenIn 57 = .ok (.ifCond .eq 12, 3) := by decide +kernel
theorem dX0_takenIn_60 : decode cX0_takenIn 60 = .ok (.iload 5, 2) := by decide +kernel
theorem dX0_takenIn_62 : decode cX0_takenIn 62 = .ok (.iload 6, 2) := by decide +kernel
theorem dX0_takenIn_64 : decode cX0_takenIn 64 = .ok (.invokestatic 72, 3) := by decide +kernel
theorem dX0_takenIn_67 : decode cX0_takenIn 67 = .ok (.istore 5, 2) := by decide +kernel
theorem dX0_takenIn_69 : decode cX0_takenIn 69 = .ok (.iinc 6 1, 3) := by decide +kernel
theorem dX0_takenIn_72 : decode cX0_takenIn 72 = .ok (.goto (-66), 3) := by decide +kernel
theorem dX0_takenIn_75 : decode cX0_takenIn 75 = .ok (.iload 5, 2) := by decide +kernel
theorem dX0_takenIn_77 : decode cX0_takenIn 77 = .ok (.ireturn, 1) := by decide +kernel
set_option maxRecDepth 20000 in
theorem ggX0_takenOut_X0_has : GoodIn wsX0_takenOut wsX0_has := goodIn_r _ [5] (by decide +kernel) (by decide +kernel)
set_option maxRecDepth 20000 in
theorem gX0_takenOut_X0_has : GoodIn wsX0_takenOut (va_wsS RX0 83 yX0_has wsX0_has) := goodIn_app (goodIn_of _ (by decide +kernel)) ggX0_takenOut_X0_has
set_option maxRecDepth 20000 in
theorem ggX0_takenOut_X0_without : GoodIn wsX0_takenOut wsX0_without := goodIn_r _ [8] (by decide +kernel) (by decide +kernel)
set_option maxRecDepth 20000 in
theorem gX0_takenOut_X0_without : GoodIn wsX0_takenOut (va_wsS RX0 76 yX0_without wsX0_without) := goodIn_app (goodIn_of _ (by decide +kernel)) ggX0_takenOut_X0_without
set_option maxRecDepth 20000 in
theorem ggX0_takenOut_X0_gain : GoodIn wsX0_takenOut wsX0_gain := goodIn_r _ [12, 13, 14, 4, 15, 16, 17, 18, 19, 20, 21, 22, 23, 24, 25, 26, 27, 28, 29, 30, 31, 32, 33, 34, 35] (by decide +kernel) (by decide +kernel)
set_option maxRecDepth 20000 in
theorem gX0_takenOut_X0_gain : GoodIn wsX0_takenOut (wsV RX0 136 RX0 yX0_gain wsX0_gain) := goodIn_app (goodIn_of _ (by decide +kernel)) ggX0_takenOut_X0_gain
theorem dX0_takenOut_0 : decode cX0_takenOut 0 = .ok (.iload_n 3, 1) := by decide +kernel
theorem dX0_takenOut_1 : decode cX0_takenOut 1 = .ok (.istore 5, 2) := by decide +kernel
theorem dX0_takenOut_3 : decode cX0_takenOut 3 = .ok (.iconst 0, 1) := by decide +kernel
theorem dX0_takenOut_4 : decode cX0_takenOut 4 = .ok (.istore 6, 2) := by decide +kernel
theorem dX0_takenOut_6 : decode cX0_takenOut 6 = .ok (.iload 6, 2) := by decide +kernel
theorem dX0_takenOut_8 : decode cX0_takenOut 8 = .ok (.aload_n 0, 1) := by decide +kernel
theorem dX0_takenOut_9 : decode cX0_takenOut 9 = .ok (.getfield 9, 3) := by decide +kernel
theorem dX0_takenOut_12 : decode cX0_takenOut 12 = .ok (.if_icmp .ge 68, 3) := by decide +kernel
theorem dX0_takenOut_15 : decode cX0_takenOut 15 = .ok (.iload 5, 2) := by decide +kernel
theorem dX0_takenOut_17 : decode cX0_takenOut 17 = .ok (.iload 6, 2) := by decide +kernel
theorem dX0_takenOut_19 : decode cX0_takenOut 19 = .ok (.invokestatic 83, 3) := by decide +kernel
theorem dX0_takenOut_22 : decode cX0_takenOut 22 = .ok (.ifCond .eq 52, 3) := by decide +kernel
theorem dX0_takenOut_25 : decode cX0_takenOut 25 = .ok (.iload_n 2, 1) := by decide +kernel
theorem dX0_takenOut_26 : decode cX0_takenOut 26 = .ok (.iload 6, 2) := by decide +kernel
theorem dX0_takenOut_28 : decode cX0_takenOut 28 = .ok (.invokestatic 83, 3) := by decide +kernel
theorem dX0_takenOut_31 : decode cX0_takenOut 31 = .ok (.ifCond .ne 43, 3) := by decide +kernel
theorem dX0_takenOut_34 : decode cX0_takenOut 34 = .ok (.aload_n 0, 1) := by decide +kernel
theorem dX0_takenOut_35 : decode cX0_takenOut 35 = .ok (.iload_n 1, 1) := by decide +kernel
theorem dX0_takenOut_36 : decode cX0_takenOut 36 = .ok (.iload 5, 2) := by decide +kernel
theorem dX0_takenOut_38 : decode cX0_takenOut 38 = .ok (.iload 6, 2) := by decide +kernel
theorem dX0_takenOut_40 : decode cX0_takenOut 40 = .ok (.invokestatic 76, 3) := by decide +kernel
theorem dX0_takenOut_43 : decode cX0_takenOut 43 = .ok (.iload 6, 2) := by decide +kernel
theorem dX0_takenOut_45 : decode cX0_takenOut 45 = .ok (.invokevirtual 136, 3) := by decide +kernel
theorem dX0_takenOut_48 : decode cX0_takenOut 48 = .ok (.istore 7, 2) := by decide +kernel
theorem dX0_takenOut_50 : decode cX0_takenOut 50 = .ok (.iload 7, 2) := by decide +kernel
theorem dX0_takenOut_52 : decode cX0_takenOut 52 = .ok (.ifCond .gt 13, 3) := by decide +kernel
theorem dX0_takenOut_55 : decode cX0_takenOut 55 = .ok (.iload 7, 2) := by decide +kernel
theorem dX0_takenOut_57 : decode cX0_takenOut 57 = .ok (.ifCond .ne 17, 3) := by decide +kernel
theorem dX0_takenOut_60 : decode cX0_takenOut 60 = .ok (.iload 4, 2) := by decide +kernel
theorem dX0_takenOut_62 : decode cX0_takenOut 62 = .ok (.ifCond .ne 12, 3) := by decide +kernel
theorem dX0_takenOut_65 : decode cX0_takenOut 65 = .ok (.iload 5, 2) := by decide +kernel
theorem dX0_takenOut_67 : decode cX0_takenOut 67 = .ok (.iload 6, 2) := by decide +kernel
theorem dX0_takenOut_69 : decode cX0_takenOut 69 = .ok (.invokestatic 76, 3) := by decide +kernel
theorem dX0_takenOut_72 : decode cX0_takenOut 72 = .ok (.istore 5, 2) := by decide +kernel
theorem dX0_takenOut_74 : decode cX0_takenOut 74 = .ok (.iinc 6 1, 3) := by decide +kernel
theorem dX0_takenOut_77 : decode cX0_takenOut 77 = .ok (.goto (-71), 3) := by decide +kernel
theorem dX0_takenOut_80 : decode cX0_takenOut 80 = .ok (.iload 5, 2) := by decide +kernel
theorem dX0_takenOut_82 : decode cX0_takenOut 82 = .ok (.ireturn, 1) := by decide +kernel
set_option maxRecDepth 20000 in
theorem ggX0_lowest_X0_has : GoodIn wsX0_lowest wsX0_has := goodIn_r _ [5] (by decide +kernel) (by decide +kernel)
set_option maxRecDepth 20000 in
theorem gX0_lowest_X0_has : GoodIn wsX0_lowest (va_wsS RX0 83 yX0_has wsX0_has) := goodIn_app (goodIn_of _ (by decide +kernel)) ggX0_lowest_X0_has
theorem dX0_lowest_0 : decode cX0_lowest 0 = .ok (.iconst 0, 1) := by decide +kernel
theorem dX0_lowest_1 : decode cX0_lowest 1 = .ok (.istore_n 2, 1) := by decide +kernel
theorem dX0_lowest_2 : decode cX0_lowest 2 = .ok (.iload_n 2, 1) := by decide +kernel
theorem dX0_lowest_3 : decode cX0_lowest 3 = .ok (.aload_n 0, 1) := by decide +kernel
theorem dX0_lowest_4 : decode cX0_lowest 4 = .ok (.getfield 9, 3) := by decide +kernel
theorem dX0_lowest_7 : decode cX0_lowest 7 = .ok (.if_icmp .ge 19, 3) := by decide +kernel
theorem dX0_lowest_10 : decode cX0_lowest 10 = .ok (.iload_n 1, 1) := by decide +kernel
theorem dX0_lowest_11 : decode cX0_lowest 11 = .ok (.iload_n 2, 1) := by decide +kernel
theorem dX0_lowest_12 : decode cX0_lowest 12 = .ok (.invokestatic 83, 3) := by decide +kernel
theorem dX0_lowest_15 : decode cX0_lowest 15 = .ok (.ifCond .eq 5, 3) := by decide +kernel
theorem dX0_lowest_18 : decode cX0_lowest 18 = .ok (.iload_n 2, 1) := by decide +kernel
theorem dX0_lowest_19 : decode cX0_lowest 19 = .ok (.ireturn, 1) := by decide +kernel
theorem dX0_lowest_20 : decode cX0_lowest 20 = .ok (.iinc 2 1, 3) := by decide +kernel
theorem dX0_lowest_23 : decode cX0_lowest 23 = .ok (.goto (-21), 3) := by decide +kernel
theorem dX0_lowest_26 : decode cX0_lowest 26 = .ok (.iconst (-1), 1) := by decide +kernel
theorem dX0_lowest_27 : decode cX0_lowest 27 = .ok (.ireturn, 1) := by decide +kernel
set_option maxRecDepth 20000 in
theorem ggX0_isTold_X0_at : GoodIn wsX0_isTold wsX0_at := goodIn_r _ [6] (by decide +kernel) (by decide +kernel)
set_option maxRecDepth 20000 in
theorem gX0_isTold_X0_at : GoodIn wsX0_isTold (va_wsS RX0 68 yX0_at wsX0_at) := goodIn_app (goodIn_of _ (by decide +kernel)) ggX0_isTold_X0_at
theorem dX0_isTold_0 : decode cX0_isTold 0 = .ok (.iconst 0, 1) := by decide +kernel
theorem dX0_isTold_1 : decode cX0_isTold 1 = .ok (.istore_n 2, 1) := by decide +kernel
theorem dX0_isTold_2 : decode cX0_isTold 2 = .ok (.iload_n 2, 1) := by decide +kernel
theorem dX0_isTold_3 : decode cX0_isTold 3 = .ok (.aload_n 0, 1) := by decide +kernel
theorem dX0_isTold_4 : decode cX0_isTold 4 = .ok (.getfield 16, 3) := by decide +kernel
theorem dX0_isTold_7 : decode cX0_isTold 7 = .ok (.if_icmp .ge 23, 3) := by decide +kernel
theorem dX0_isTold_10 : decode cX0_isTold 10 = .ok (.aload_n 0, 1) := by decide +kernel
theorem dX0_isTold_11 : decode cX0_isTold 11 = .ok (.getfield 38, 3) := by decide +kernel
theorem dX0_isTold_14 : decode cX0_isTold 14 = .ok (.iload_n 2, 1) := by decide +kernel
theorem dX0_isTold_15 : decode cX0_isTold 15 = .ok (.invokestatic 68, 3) := by decide +kernel
theorem dX0_isTold_18 : decode cX0_isTold 18 = .ok (.iload_n 1, 1) := by decide +kernel
theorem dX0_isTold_19 : decode cX0_isTold 19 = .ok (.if_icmp .ne 5, 3) := by decide +kernel
theorem dX0_isTold_22 : decode cX0_isTold 22 = .ok (.iconst 1, 1) := by decide +kernel
theorem dX0_isTold_23 : decode cX0_isTold 23 = .ok (.ireturn, 1) := by decide +kernel
theorem dX0_isTold_24 : decode cX0_isTold 24 = .ok (.iinc 2 1, 3) := by decide +kernel
theorem dX0_isTold_27 : decode cX0_isTold 27 = .ok (.goto (-25), 3) := by decide +kernel
theorem dX0_isTold_30 : decode cX0_isTold 30 = .ok (.iconst 0, 1) := by decide +kernel
theorem dX0_isTold_31 : decode cX0_isTold 31 = .ok (.ireturn, 1) := by decide +kernel
set_option maxRecDepth 20000 in
theorem ggX0_aheadOf_X0_at : GoodIn wsX0_aheadOf wsX0_at := goodIn_r _ [6] (by decide +kernel) (by decide +kernel)
set_option maxRecDepth 20000 in
theorem gX0_aheadOf_X0_at : GoodIn wsX0_aheadOf (va_wsS RX0 68 yX0_at wsX0_at) := goodIn_app (goodIn_of _ (by decide +kernel)) ggX0_aheadOf_X0_at
set_option maxRecDepth 20000 in
theorem ggX0_aheadOf_X0_with : GoodIn wsX0_aheadOf wsX0_with := goodIn_r _ [9] (by decide +kernel) (by decide +kernel)
set_option maxRecDepth 20000 in
theorem gX0_aheadOf_X0_with : GoodIn wsX0_aheadOf (va_wsS RX0 72 yX0_with wsX0_with) := goodIn_app (goodIn_of _ (by decide +kernel)) ggX0_aheadOf_X0_with
theorem dX0_aheadOf_0 : decode cX0_aheadOf 0 = .ok (.iconst 0, 1) := by decide +kernel
theorem dX0_aheadOf_1 : decode cX0_aheadOf 1 = .ok (.istore_n 2, 1) := by decide +kernel
theorem dX0_aheadOf_2 : decode cX0_aheadOf 2 = .ok (.iconst 0, 1) := by decide +kernel
theorem dX0_aheadOf_3 : decode cX0_aheadOf 3 = .ok (.istore_n 3, 1) := by decide +kernel
theorem dX0_aheadOf_4 : decode cX0_aheadOf 4 = .ok (.iload_n 3, 1) := by decide +kernel
theorem dX0_aheadOf_5 : decode cX0_aheadOf 5 = .ok (.aload_n 0, 1) := by decide +kernel
theorem dX0_aheadOf_6 : decode cX0_aheadOf 6 = .ok (.getfield 16, 3) := by decide +kernel
theorem dX0_aheadOf_9 : decode cX0_aheadOf 9 = .ok (.if_icmp .ge 34, 3) := by decide +kernel
theorem dX0_aheadOf_12 : decode cX0_aheadOf 12 = .ok (.aload_n 0, 1) := by decide +kernel
theorem dX0_aheadOf_13 : decode cX0_aheadOf 13 = .ok (.getfield 38, 3) := by decide +kernel
theorem dX0_aheadOf_16 : decode cX0_aheadOf 16 = .ok (.iload_n 3, 1) := by decide +kernel
theorem dX0_aheadOf_17 : decode cX0_aheadOf 17 = .ok (.invokestatic 68, 3) := by decide +kernel
theorem dX0_aheadOf_20 : decode cX0_aheadOf 20 = .ok (.istore 4, 2) := by decide +kernel
theorem dX0_aheadOf_22 : decode cX0_aheadOf 22 = .ok (.iload 4, 2) := by decide +kernel
theorem dX0_aheadOf_24 : decode cX0_aheadOf 24 = .ok (.iload_n 1, 1) := by decide +kernel
theorem dX0_aheadOf_25 : decode cX0_aheadOf 25 = .ok (.if_icmp .ne 5, 3) := by decide +kernel
theorem dX0_aheadOf_28 : decode cX0_aheadOf 28 = .ok (.iload_n 2, 1) := by decide +kernel
theorem dX0_aheadOf_29 : decode cX0_aheadOf 29 = .ok (.ireturn, 1) := by decide +kernel
theorem dX0_aheadOf_30 : decode cX0_aheadOf 30 = .ok (.iload_n 2, 1) := by decide +kernel
theorem dX0_aheadOf_31 : decode cX0_aheadOf 31 = .ok (.iload 4, 2) := by decide +kernel
theorem dX0_aheadOf_33 : decode cX0_aheadOf 33 = .ok (.invokestatic 72, 3) := by decide +kernel
theorem dX0_aheadOf_36 : decode cX0_aheadOf 36 = .ok (.istore_n 2, 1) := by decide +kernel
theorem dX0_aheadOf_37 : decode cX0_aheadOf 37 = .ok (.iinc 3 1, 3) := by decide +kernel
theorem dX0_aheadOf_40 : decode cX0_aheadOf 40 = .ok (.goto (-36), 3) := by decide +kernel
theorem dX0_aheadOf_43 : decode cX0_aheadOf 43 = .ok (.iload_n 2, 1) := by decide +kernel
theorem dX0_aheadOf_44 : decode cX0_aheadOf 44 = .ok (.ireturn, 1) := by decide +kernel
set_option maxRecDepth 20000 in
theorem ggX0_greediest_X0_gain : GoodIn wsX0_greediest wsX0_gain := goodIn_r _ [6, 7, 8, 5, 9, 10, 11, 12, 13, 14, 15, 16, 17, 18, 19, 20, 21, 22, 23, 24, 25, 26, 27, 28, 29] (by decide +kernel) (by decide +kernel)
set_option maxRecDepth 20000 in
theorem gX0_greediest_X0_gain : GoodIn wsX0_greediest (wsV RX0 136 RX0 yX0_gain wsX0_gain) := goodIn_app (goodIn_of _ (by decide +kernel)) ggX0_greediest_X0_gain
theorem dX0_greediest_0 : decode cX0_greediest 0 = .ok (.iconst (-1), 1) := by decide +kernel
theorem dX0_greediest_1 : decode cX0_greediest 1 = .ok (.istore_n 3, 1) := by decide +kernel
theorem dX0_greediest_2 : decode cX0_greediest 2 = .ok (.iconst 0, 1) := by decide +kernel
theorem dX0_greediest_3 : decode cX0_greediest 3 = .ok (.istore 4, 2) := by decide +kernel
theorem dX0_greediest_5 : decode cX0_greediest 5 = .ok (.iconst 0, 1) := by decide +kernel
theorem dX0_greediest_6 : decode cX0_greediest 6 = .ok (.istore 5, 2) := by decide +kernel
theorem dX0_greediest_8 : decode cX0_greediest 8 = .ok (.iload 5, 2) := by decide +kernel
theorem dX0_greediest_10 : decode cX0_greediest 10 = .ok (.aload_n 0, 1) := by decide +kernel
theorem dX0_greediest_11 : decode cX0_greediest 11 = .ok (.getfield 9, 3) := by decide +kernel
theorem dX0_greediest_14 : decode cX0_greediest 14 = .ok (.if_icmp .ge 33, 3) := by decide +kernel
theorem dX0_greediest_17 : decode cX0_greediest 17 = .ok (.aload_n 0, 1) := by decide +kernel
theorem dX0_greediest_18 : decode cX0_greediest 18 = .ok (.iload_n 1, 1) := by decide +kernel
theorem dX0_greediest_19 : decode cX0_greediest 19 = .ok (.iload_n 2, 1) := by decide +kernel
theorem dX0_greediest_20 : decode cX0_greediest 20 = .ok (.iload 5, 2) := by decide +kernel
theorem dX0_greediest_22 : decode cX0_greediest 22 = .ok (.invokevirtual 136, 3) := by decide +kernel
theorem dX0_greediest_25 : decode cX0_greediest 25 = .ok (.istore 6, 2) := by decide +kernel
theorem dX0_greediest_27 : decode cX0_greediest 27 = .ok (.iload 6, 2) := by decide +kernel
theorem dX0_greediest_29 : decode cX0_greediest 29 = .ok (.iload 4, 2) := by decide +kernel
theorem dX0_greediest_31 : decode cX0_greediest 31 = .ok (.if_icmp .le 10, 3) := by decide +kernel
theorem dX0_greediest_34 : decode cX0_greediest 34 = .ok (.iload 6, 2) := by decide +kernel
theorem dX0_greediest_36 : decode cX0_greediest 36 = .ok (.istore 4, 2) := by decide +kernel
theorem dX0_greediest_38 : decode cX0_greediest 38 = .ok (.iload 5, 2) := by decide +kernel
theorem dX0_greediest_40 : decode cX0_greediest 40 = .ok (.istore_n 3, 1) := by decide +kernel
theorem dX0_greediest_41 : decode cX0_greediest 41 = .ok (.iinc 5 1, 3) := by decide +kernel
theorem dX0_greediest_44 : decode cX0_greediest 44 = .ok (.goto (-36), 3) := by decide +kernel
theorem dX0_greediest_47 : decode cX0_greediest 47 = .ok (.iload_n 3, 1) := by decide +kernel
theorem dX0_greediest_48 : decode cX0_greediest 48 = .ok (.ireturn, 1) := by decide +kernel
set_option maxRecDepth 20000 in
theorem ggX0_isFair_X0_countOf : GoodIn wsX0_isFair wsX0_countOf := goodIn_r _ [5, 6, 7, 8, 4, 9, 10, 11, 12, 13, 14, 15, 16, 17, 23, 24, 25, 26, 27, 28, 29, 30, 31, 32, 33, 34] (by decide +kernel) (by decide +kernel)
set_option maxRecDepth 20000 in
theorem gX0_isFair_X0_countOf : GoodIn wsX0_isFair (wsV RX0 210 RX0 yX0_countOf wsX0_countOf) := goodIn_app (goodIn_of _ (by decide +kernel)) ggX0_isFair_X0_countOf
set_option maxRecDepth 20000 in
theorem ggX0_isFair_X0_roomOf : GoodIn wsX0_isFair wsX0_roomOf := goodIn_r _ [21, 22, 15, 16, 4, 17, 23, 24, 25, 26, 27, 28, 29, 30, 31, 32, 33, 34] (by decide +kernel) (by decide +kernel)
set_option maxRecDepth 20000 in
theorem gX0_isFair_X0_roomOf : GoodIn wsX0_isFair (wsV RX0 99 RX0 yX0_roomOf wsX0_roomOf) := goodIn_app (goodIn_of _ (by decide +kernel)) ggX0_isFair_X0_roomOf
theorem dX0_isFair_0 : decode cX0_isFair 0 = .ok (.iconst 0, 1) := by decide +kernel
theorem dX0_isFair_1 : decode cX0_isFair 1 = .ok (.istore_n 3, 1) := by decide +kernel
theorem dX0_isFair_2 : decode cX0_isFair 2 = .ok (.iload_n 3, 1) := by decide +kernel
theorem dX0_isFair_3 : decode cX0_isFair 3 = .ok (.bipush 6, 2) := by decide +kernel
theorem dX0_isFair_5 : decode cX0_isFair 5 = .ok (.if_icmp .ge 27, 3) := by decide +kernel
theorem dX0_isFair_8 : decode cX0_isFair 8 = .ok (.aload_n 0, 1) := by decide +kernel
theorem dX0_isFair_9 : decode cX0_isFair 9 = .ok (.iload_n 1, 1) := by decide +kernel
theorem dX0_isFair_10 : decode cX0_isFair 10 = .ok (.iload_n 3, 1) := by decide +kernel
theorem dX0_isFair_11 : decode cX0_isFair 11 = .ok (.iload_n 2, 1) := by decide +kernel
theorem dX0_isFair_12 : decode cX0_isFair 12 = .ok (.invokevirtual 210, 3) := by decide +kernel
theorem dX0_isFair_15 : decode cX0_isFair 15 = .ok (.aload_n 0, 1) := by decide +kernel
theorem dX0_isFair_16 : decode cX0_isFair 16 = .ok (.iload_n 1, 1) := by decide +kernel
theorem dX0_isFair_17 : decode cX0_isFair 17 = .ok (.iload_n 3, 1) := by decide +kernel
theorem dX0_isFair_18 : decode cX0_isFair 18 = .ok (.invokevirtual 99, 3) := by decide +kernel
theorem dX0_isFair_21 : decode cX0_isFair 21 = .ok (.if_icmp .le 5, 3) := by decide +kernel
theorem dX0_isFair_24 : decode cX0_isFair 24 = .ok (.iconst 0, 1) := by decide +kernel
theorem dX0_isFair_25 : decode cX0_isFair 25 = .ok (.ireturn, 1) := by decide +kernel
theorem dX0_isFair_26 : decode cX0_isFair 26 = .ok (.iinc 3 1, 3) := by decide +kernel
theorem dX0_isFair_29 : decode cX0_isFair 29 = .ok (.goto (-27), 3) := by decide +kernel
theorem dX0_isFair_32 : decode cX0_isFair 32 = .ok (.iconst 1, 1) := by decide +kernel
theorem dX0_isFair_33 : decode cX0_isFair 33 = .ok (.ireturn, 1) := by decide +kernel
set_option maxRecDepth 20000 in
theorem ggX0_hasRoom_X0_colourOf : GoodIn wsX0_hasRoom wsX0_colourOf := goodIn_r _ [5, 6, 7, 8, 4, 9, 23, 24, 25, 26, 27, 28, 29, 30, 31, 32, 33, 34] (by decide +kernel) (by decide +kernel)
set_option maxRecDepth 20000 in
theorem gX0_hasRoom_X0_colourOf : GoodIn wsX0_hasRoom (wsV RX0 96 RX0 yX0_colourOf wsX0_colourOf) := goodIn_app (goodIn_of _ (by decide +kernel)) ggX0_hasRoom_X0_colourOf
set_option maxRecDepth 20000 in
theorem ggX0_hasRoom_X0_has : GoodIn wsX0_hasRoom wsX0_has := goodIn_r _ [12] (by decide +kernel) (by decide +kernel)
set_option maxRecDepth 20000 in
theorem gX0_hasRoom_X0_has : GoodIn wsX0_hasRoom (va_wsS RX0 83 yX0_has wsX0_has) := goodIn_app (goodIn_of _ (by decide +kernel)) ggX0_hasRoom_X0_has
set_option maxRecDepth 20000 in
theorem ggX0_hasRoom_X0_countOf : GoodIn wsX0_hasRoom wsX0_countOf := goodIn_r _ [16, 17, 10, 11, 4, 12, 1, 2, 3, 5, 6, 7, 8, 9, 23, 24, 25, 26, 27, 28, 29, 30, 31, 32, 33, 34] (by decide +kernel) (by decide +kernel)
set_option maxRecDepth 20000 in
theorem gX0_hasRoom_X0_countOf : GoodIn wsX0_hasRoom (wsV RX0 210 RX0 yX0_countOf wsX0_countOf) := goodIn_app (goodIn_of _ (by decide +kernel)) ggX0_hasRoom_X0_countOf
set_option maxRecDepth 20000 in
theorem ggX0_hasRoom_X0_roomOf : GoodIn wsX0_hasRoom wsX0_roomOf := goodIn_r _ [21, 22, 7, 8, 4, 9, 23, 24, 25, 26, 27, 28, 29, 30, 31, 32, 33, 34] (by decide +kernel) (by decide +kernel)
set_option maxRecDepth 20000 in
theorem gX0_hasRoom_X0_roomOf : GoodIn wsX0_hasRoom (wsV RX0 99 RX0 yX0_roomOf wsX0_roomOf) := goodIn_app (goodIn_of _ (by decide +kernel)) ggX0_hasRoom_X0_roomOf
theorem dX0_hasRoom_0 : decode cX0_hasRoom 0 = .ok (.aload_n 0, 1) := by decide +kernel
theorem dX0_hasRoom_1 : decode cX0_hasRoom 1 = .ok (.iload_n 1, 1) := by decide +kernel
theorem dX0_hasRoom_2 : decode cX0_hasRoom 2 = .ok (.iload_n 2, 1) := by decide +kernel
theorem dX0_hasRoom_3 : decode cX0_hasRoom 3 = .ok (.invokevirtual 96, 3) := by decide +kernel
theorem dX0_hasRoom_6 : decode cX0_hasRoom 6 = .ok (.istore 4, 2) := by decide +kernel
theorem dX0_hasRoom_8 : decode cX0_hasRoom 8 = .ok (.iload_n 3, 1) := by decide +kernel
theorem dX0_hasRoom_9 : decode cX0_hasRoom 9 = .ok (.iload_n 2, 1) := by decide +kernel
theorem dX0_hasRoom_10 : decode cX0_hasRoom 10 = .ok (.invokestatic 83, 3) := by decide +kernel
theorem dX0_hasRoom_13 : decode cX0_hasRoom 13 = .ok (.ifCond .ne 25, 3) := by decide +kernel
theorem dX0_hasRoom_16 : decode cX0_hasRoom 16 = .ok (.aload_n 0, 1) := by decide +kernel
theorem dX0_hasRoom_17 : decode cX0_hasRoom 17 = .ok (.iload_n 1, 1) := by decide +kernel
theorem dX0_hasRoom_18 : decode cX0_hasRoom 18 = .ok (.iload 4, 2) := by decide +kernel
theorem dX0_hasRoom_20 : decode cX0_hasRoom 20 = .ok (.iload_n 3, 1) := by decide +kernel
theorem dX0_hasRoom_21 : decode cX0_hasRoom 21 = .ok (.invokevirtual 210, 3) := by decide +kernel
theorem dX0_hasRoom_24 : decode cX0_hasRoom 24 = .ok (.aload_n 0, 1) := by decide +kernel
theorem dX0_hasRoom_25 : decode cX0_hasRoom 25 = .ok (.iload_n 1, 1) := by decide +kernel
theorem dX0_hasRoom_26 : decode cX0_hasRoom 26 = .ok (.iload 4, 2) := by decide +kernel
theorem dX0_hasRoom_28 : decode cX0_hasRoom 28 = .ok (.invokevirtual 99, 3) := by decide +kernel
theorem dX0_hasRoom_31 : decode cX0_hasRoom 31 = .ok (.if_icmp .ge 7, 3) := by decide +kernel
theorem dX0_hasRoom_34 : decode cX0_hasRoom 34 = .ok (.iconst 1, 1) := by decide +kernel
theorem dX0_hasRoom_35 : decode cX0_hasRoom 35 = .ok (.goto 4, 3) := by decide +kernel
theorem dX0_hasRoom_38 : decode cX0_hasRoom 38 = .ok (.iconst 0, 1) := by decide +kernel
theorem dX0_hasRoom_39 : decode cX0_hasRoom 39 = .ok (.ireturn, 1) := by decide +kernel
set_option maxRecDepth 20000 in
theorem ggX0_endOfPath_X0_reachFirst : GoodIn wsX0_endOfPath wsX0_reachFirst := goodIn_r _ [6, 7, 8, 1, 9, 10, 11, 12, 13, 14, 15, 5, 16, 17, 18, 19, 20, 21, 22, 23, 24, 25, 26, 27, 28, 29, 30, 31, 32, 33, 34, 35, 36, 37, 38, 39, 48, 49, 50, 51, 52, 53, 54, 55, 56, 57, 58, 59] (by decide +kernel) (by decide +kernel)
set_option maxRecDepth 20000 in
theorem gX0_endOfPath_X0_reachFirst : GoodIn wsX0_endOfPath (wsV RX0 226 RX0 yX0_reachFirst wsX0_reachFirst) := goodIn_app (goodIn_of _ (by decide +kernel)) ggX0_endOfPath_X0_reachFirst
set_option maxRecDepth 20000 in
theorem ggX0_endOfPath_X0_at : GoodIn wsX0_endOfPath wsX0_at := goodIn_r _ [24] (by decide +kernel) (by decide +kernel)
set_option maxRecDepth 20000 in
theorem gX0_endOfPath_X0_at : GoodIn wsX0_endOfPath (va_wsS RX0 68 yX0_at wsX0_at) := goodIn_app (goodIn_of _ (by decide +kernel)) ggX0_endOfPath_X0_at
set_option maxRecDepth 20000 in
theorem ggX0_endOfPath_X0_hasRoom : GoodIn wsX0_endOfPath wsX0_hasRoom := goodIn_r _ [16, 17, 18, 19, 5, 20, 21, 22, 23, 24, 25, 26, 27, 28, 29, 30, 31, 8, 32, 33, 34, 35, 36, 48, 49, 50, 51, 52, 53, 54, 55, 56, 57, 58, 59] (by decide +kernel) (by decide +kernel)
set_option maxRecDepth 20000 in
theorem gX0_endOfPath_X0_hasRoom : GoodIn wsX0_endOfPath (wsV RX0 229 RX0 yX0_hasRoom wsX0_hasRoom) := goodIn_app (goodIn_of _ (by decide +kernel)) ggX0_endOfPath_X0_hasRoom
set_option maxRecDepth 20000 in
theorem ggX0_endOfPath_X0_reachFrom : GoodIn wsX0_endOfPath wsX0_reachFrom := goodIn_r _ [43, 8, 7, 1, 22, 23, 5, 24, 44, 45, 46, 47, 25, 26, 27, 17, 18, 19, 20, 21, 37, 38, 39, 48, 49, 50, 51, 52, 53, 54, 55, 56, 57, 58, 59] (by decide +kernel) (by decide +kernel)
set_option maxRecDepth 20000 in
theorem gX0_endOfPath_X0_reachFrom : GoodIn wsX0_endOfPath (wsV RX0 232 RX0 yX0_reachFrom wsX0_reachFrom) := goodIn_app (goodIn_of _ (by decide +kernel)) ggX0_endOfPath_X0_reachFrom
theorem dX0_endOfPath_0 : decode cX0_endOfPath 0 = .ok (.aload_n 0, 1) := by decide +kernel
theorem dX0_endOfPath_1 : decode cX0_endOfPath 1 = .ok (.iload_n 1, 1) := by decide +kernel
theorem dX0_endOfPath_2 : decode cX0_endOfPath 2 = .ok (.invokevirtual 226, 3) := by decide +kernel
theorem dX0_endOfPath_5 : decode cX0_endOfPath 5 = .ok (.istore_n 2, 1) := by decide +kernel
theorem dX0_endOfPath_6 : decode cX0_endOfPath 6 = .ok (.iconst 0, 1) := by decide +kernel
theorem dX0_endOfPath_7 : decode cX0_endOfPath 7 = .ok (.istore_n 3, 1) := by decide +kernel
theorem dX0_endOfPath_8 : decode cX0_endOfPath 8 = .ok (.iload_n 3, 1) := by decide +kernel
theorem dX0_endOfPath_9 : decode cX0_endOfPath 9 = .ok (.iload_n 2, 1) := by decide +kernel
theorem dX0_endOfPath_10 : decode cX0_endOfPath 10 = .ok (.if_icmp .ge 48, 3) := by decide +kernel
theorem dX0_endOfPath_13 : decode cX0_endOfPath 13 = .ok (.iload_n 3, 1) := by decide +kernel
theorem dX0_endOfPath_14 : decode cX0_endOfPath 14 = .ok (.bipush 6, 2) := by decide +kernel
theorem dX0_endOfPath_16 : decode cX0_endOfPath 16 = .ok (.if_icmp .ge 42, 3) := by decide +kernel
theorem dX0_endOfPath_19 : decode cX0_endOfPath 19 = .ok (.aload_n 0, 1) := by decide +kernel
theorem dX0_endOfPath_20 : decode cX0_endOfPath 20 = .ok (.getfield 44, 3) := by decide +kernel
theorem dX0_endOfPath_23 : decode cX0_endOfPath 23 = .ok (.iload_n 3, 1) := by decide +kernel
theorem dX0_endOfPath_24 : decode cX0_endOfPath 24 = .ok (.invokestatic 68, 3) := by decide +kernel
theorem dX0_endOfPath_27 : decode cX0_endOfPath 27 = .ok (.istore 4, 2) := by decide +kernel
theorem dX0_endOfPath_29 : decode cX0_endOfPath 29 = .ok (.aload_n 0, 1) := by decide +kernel
theorem dX0_endOfPath_30 : decode cX0_endOfPath 30 = .ok (.iconst 1, 1) := by decide +kernel
theorem dX0_endOfPath_31 : decode cX0_endOfPath 31 = .ok (.iload 4, 2) := by decide +kernel
theorem dX0_endOfPath_33 : decode cX0_endOfPath 33 = .ok (.iload_n 1, 1) := by decide +kernel
theorem dX0_endOfPath_34 : decode cX0_endOfPath 34 = .ok (.invokevirtual 229, 3) := by decide +kernel
theorem dX0_endOfPath_37 : decode cX0_endOfPath 37 = .ok (.ifCond .eq 6, 3) := by decide +kernel
theorem dX0_endOfPath_40 : decode cX0_endOfPath 40 = .ok (.iload 4, 2) := by decide +kernel
theorem dX0_endOfPath_42 : decode cX0_endOfPath 42 = .ok (.ireturn, 1) := by decide +kernel
theorem dX0_endOfPath_43 : decode cX0_endOfPath 43 = .ok (.aload_n 0, 1) := by decide +kernel
theorem dX0_endOfPath_44 : decode cX0_endOfPath 44 = .ok (.iload 4, 2) := by decide +kernel
theorem dX0_endOfPath_46 : decode cX0_endOfPath 46 = .ok (.iload_n 1, 1) := by decide +kernel
theorem dX0_endOfPath_47 : decode cX0_endOfPath 47 = .ok (.iload_n 2, 1) := by decide +kernel
theorem dX0_endOfPath_48 : decode cX0_endOfPath 48 = .ok (.invokevirtual 232, 3) := by decide +kernel
theorem dX0_endOfPath_51 : decode cX0_endOfPath 51 = .ok (.istore_n 2, 1) := by decide +kernel
theorem dX0_endOfPath_52 : decode cX0_endOfPath 52 = .ok (.iinc 3 1, 3) := by decide +kernel
theorem dX0_endOfPath_55 : decode cX0_endOfPath 55 = .ok (.goto (-47), 3) := by decide +kernel
theorem dX0_endOfPath_58 : decode cX0_endOfPath 58 = .ok (.iconst (-1), 1) := by decide +kernel
theorem dX0_endOfPath_59 : decode cX0_endOfPath 59 = .ok (.ireturn, 1) := by decide +kernel
set_option maxRecDepth 20000 in
theorem ggX0_reachFirst_J7_fill_53178 : GoodIn wsX0_reachFirst wsJ7_fill_53178 := goodIn_r _ [7] (by decide +kernel) (by decide +kernel)
set_option maxRecDepth 20000 in
theorem gX0_reachFirst_J7_fill_53178 : GoodIn wsX0_reachFirst (va_wsS RX0 47 yJ7_fill_53178 wsJ7_fill_53178) := goodIn_app (goodIn_of _ (by decide +kernel)) ggX0_reachFirst_J7_fill_53178
set_option maxRecDepth 20000 in
theorem ggX0_reachFirst_X0_hasRoom : GoodIn wsX0_reachFirst wsX0_hasRoom := goodIn_r _ [12, 13, 14, 15, 11, 16, 17, 18, 19, 20, 21, 22, 23, 24, 25, 26, 27, 2, 28, 29, 30, 31, 32, 36, 37, 38, 39, 40, 41, 42, 43, 44, 45, 46, 47] (by decide +kernel) (by decide +kernel)
set_option maxRecDepth 20000 in
theorem gX0_reachFirst_X0_hasRoom : GoodIn wsX0_reachFirst (wsV RX0 229 RX0 yX0_hasRoom wsX0_hasRoom) := goodIn_app (goodIn_of _ (by decide +kernel)) ggX0_reachFirst_X0_hasRoom
set_option maxRecDepth 20000 in
theorem ggX0_reachFirst_X0_put : GoodIn wsX0_reachFirst wsX0_put := goodIn_r _ [35] (by decide +kernel) (by decide +kernel)
set_option maxRecDepth 20000 in
theorem gX0_reachFirst_X0_put : GoodIn wsX0_reachFirst (va_wsS RX0 79 yX0_put wsX0_put) := goodIn_app (goodIn_of _ (by decide +kernel)) ggX0_reachFirst_X0_put
theorem dX0_reachFirst_0 : decode cX0_reachFirst 0 = .ok (.iconst 0, 1) := by decide +kernel
theorem dX0_reachFirst_1 : decode cX0_reachFirst 1 = .ok (.istore_n 2, 1) := by decide +kernel
theorem dX0_reachFirst_2 : decode cX0_reachFirst 2 = .ok (.aload_n 0, 1) := by decide +kernel
theorem dX0_reachFirst_3 : decode cX0_reachFirst 3 = .ok (.getfield 41, 3) := by decide +kernel
theorem dX0_reachFirst_6 : decode cX0_reachFirst 6 = .ok (.bipush (-2), 2) := by decide +kernel
theorem dX0_reachFirst_8 : decode cX0_reachFirst 8 = .ok (.invokestatic 47, 3) := by decide +kernel
theorem dX0_reachFirst_11 : decode cX0_reachFirst 11 = .ok (.iconst 0, 1) := by decide +kernel
theorem dX0_reachFirst_12 : decode cX0_reachFirst 12 = .ok (.istore_n 3, 1) := by decide +kernel
theorem dX0_reachFirst_13 : decode cX0_reachFirst 13 = .ok (.iload_n 3, 1) := by decide +kernel
theorem dX0_reachFirst_14 : decode cX0_reachFirst 14 = .ok (.aload_n 0, 1) := by decide +kernel
theorem dX0_reachFirst_15 : decode cX0_reachFirst 15 = .ok (.getfield 9, 3) := by decide +kernel
theorem dX0_reachFirst_18 : decode cX0_reachFirst 18 = .ok (.if_icmp .ge 40, 3) := by decide +kernel
theorem dX0_reachFirst_21 : decode cX0_reachFirst 21 = .ok (.aload_n 0, 1) := by decide +kernel
theorem dX0_reachFirst_22 : decode cX0_reachFirst 22 = .ok (.iconst 0, 1) := by decide +kernel
theorem dX0_reachFirst_23 : decode cX0_reachFirst 23 = .ok (.iload_n 3, 1) := by decide +kernel
theorem dX0_reachFirst_24 : decode cX0_reachFirst 24 = .ok (.iload_n 1, 1) := by decide +kernel
theorem dX0_reachFirst_25 : decode cX0_reachFirst 25 = .ok (.invokevirtual 229, 3) := by decide +kernel
theorem dX0_reachFirst_28 : decode cX0_reachFirst 28 = .ok (.ifCond .eq 24, 3) := by decide +kernel
theorem dX0_reachFirst_31 : decode cX0_reachFirst 31 = .ok (.aload_n 0, 1) := by decide +kernel
theorem dX0_reachFirst_32 : decode cX0_reachFirst 32 = .ok (.getfield 41, 3) := by decide +kernel
theorem dX0_reachFirst_35 : decode cX0_reachFirst 35 = .ok (.iload_n 3, 1) := by decide +kernel
theorem dX0_reachFirst_36 : decode cX0_reachFirst 36 = .ok (.iconst (-1), 1) := by decide +kernel
theorem dX0_reachFirst_37 : decode cX0_reachFirst 37 = .ok (.invokestatic 79, 3) := by decide +kernel
theorem dX0_reachFirst_40 : decode cX0_reachFirst 40 = .ok (.aload_n 0, 1) := by decide +kernel
theorem dX0_reachFirst_41 : decode cX0_reachFirst 41 = .ok (.getfield 44, 3) := by decide +kernel
theorem dX0_reachFirst_44 : decode cX0_reachFirst 44 = .ok (.iload_n 2, 1) := by decide +kernel
theorem dX0_reachFirst_45 : decode cX0_reachFirst 45 = .ok (.iload_n 3, 1) := by decide +kernel
theorem dX0_reachFirst_46 : decode cX0_reachFirst 46 = .ok (.invokestatic 79, 3) := by decide +kernel
theorem dX0_reachFirst_49 : decode cX0_reachFirst 49 = .ok (.iinc 2 1, 3) := by decide +kernel
theorem dX0_reachFirst_52 : decode cX0_reachFirst 52 = .ok (.iinc 3 1, 3) := by decide +kernel
theorem dX0_reachFirst_55 : decode cX0_reachFirst 55 = .ok (.goto (-42), 3) := by decide +kernel
theorem dX0_reachFirst_58 : decode cX0_reachFirst 58 = .ok (.iload_n 2, 1) := by decide +kernel
theorem dX0_reachFirst_59 : decode cX0_reachFirst 59 = .ok (.ireturn, 1) := by decide +kernel
set_option maxRecDepth 20000 in
theorem ggX0_reachFrom_X0_at : GoodIn wsX0_reachFrom wsX0_at := goodIn_r _ [7] (by decide +kernel) (by decide +kernel)
set_option maxRecDepth 20000 in
theorem gX0_reachFrom_X0_at : GoodIn wsX0_reachFrom (va_wsS RX0 68 yX0_at wsX0_at) := goodIn_app (goodIn_of _ (by decide +kernel)) ggX0_reachFrom_X0_at
set_option maxRecDepth 20000 in
theorem ggX0_reachFrom_X0_isStep : GoodIn wsX0_reachFrom wsX0_isStep := goodIn_r _ [11, 12, 13, 6, 14, 15, 16, 17, 18, 19, 4, 5, 7, 23, 24, 25, 26, 27, 28, 29, 30, 31, 32, 33, 34] (by decide +kernel) (by decide +kernel)
set_option maxRecDepth 20000 in
theorem gX0_reachFrom_X0_isStep : GoodIn wsX0_reachFrom (wsV RX0 235 RX0 yX0_isStep wsX0_isStep) := goodIn_app (goodIn_of _ (by decide +kernel)) ggX0_reachFrom_X0_isStep
set_option maxRecDepth 20000 in
theorem ggX0_reachFrom_X0_put : GoodIn wsX0_reachFrom wsX0_put := goodIn_r _ [22] (by decide +kernel) (by decide +kernel)
set_option maxRecDepth 20000 in
theorem gX0_reachFrom_X0_put : GoodIn wsX0_reachFrom (va_wsS RX0 79 yX0_put wsX0_put) := goodIn_app (goodIn_of _ (by decide +kernel)) ggX0_reachFrom_X0_put
theorem dX0_reachFrom_0 : decode cX0_reachFrom 0 = .ok (.iload_n 3, 1) := by decide +kernel
theorem dX0_reachFrom_1 : decode cX0_reachFrom 1 = .ok (.istore 4, 2) := by decide +kernel
theorem dX0_reachFrom_3 : decode cX0_reachFrom 3 = .ok (.iconst 0, 1) := by decide +kernel
theorem dX0_reachFrom_4 : decode cX0_reachFrom 4 = .ok (.istore 5, 2) := by decide +kernel
theorem dX0_reachFrom_6 : decode cX0_reachFrom 6 = .ok (.iload 5, 2) := by decide +kernel
theorem dX0_reachFrom_8 : decode cX0_reachFrom 8 = .ok (.aload_n 0, 1) := by decide +kernel
theorem dX0_reachFrom_9 : decode cX0_reachFrom 9 = .ok (.getfield 9, 3) := by decide +kernel
theorem dX0_reachFrom_12 : decode cX0_reachFrom 12 = .ok (.if_icmp .ge 58, 3) := by decide +kernel
theorem dX0_reachFrom_15 : decode cX0_reachFrom 15 = .ok (.aload_n 0, 1) := by decide +kernel
theorem dX0_reachFrom_16 : decode cX0_reachFrom 16 = .ok (.getfield 41, 3) := by decide +kernel
theorem dX0_reachFrom_19 : decode cX0_reachFrom 19 = .ok (.iload 5, 2) := by decide +kernel
theorem dX0_reachFrom_21 : decode cX0_reachFrom 21 = .ok (.invokestatic 68, 3) := by decide +kernel
theorem dX0_reachFrom_24 : decode cX0_reachFrom 24 = .ok (.bipush (-2), 2) := by decide +kernel
theorem dX0_reachFrom_26 : decode cX0_reachFrom 26 = .ok (.if_icmp .ne 38, 3) := by decide +kernel
theorem dX0_reachFrom_29 : decode cX0_reachFrom 29 = .ok (.aload_n 0, 1) := by decide +kernel
theorem dX0_reachFrom_30 : decode cX0_reachFrom 30 = .ok (.iload_n 1, 1) := by decide +kernel
theorem dX0_reachFrom_31 : decode cX0_reachFrom 31 = .ok (.iload 5, 2) := by decide +kernel
theorem dX0_reachFrom_33 : decode cX0_reachFrom 33 = .ok (.iload_n 2, 1) := by decide +kernel
theorem dX0_reachFrom_34 : decode cX0_reachFrom 34 = .ok (.invokevirtual 235, 3) := by decide +kernel
theorem dX0_reachFrom_37 : decode cX0_reachFrom 37 = .ok (.ifCond .eq 27, 3) := by decide +kernel
theorem dX0_reachFrom_40 : decode cX0_reachFrom 40 = .ok (.aload_n 0, 1) := by decide +kernel
theorem dX0_reachFrom_41 : decode cX0_reachFrom 41 = .ok (.getfield 41, 3) := by decide +kernel
theorem dX0_reachFrom_44 : decode cX0_reachFrom 44 = .ok (.iload 5, 2) := by decide +kernel
theorem dX0_reachFrom_46 : decode cX0_reachFrom 46 = .ok (.iload_n 1, 1) := by decide +kernel
theorem dX0_reachFrom_47 : decode cX0_reachFrom 47 = .ok (.invokestatic 79, 3) := by decide +kernel
theorem dX0_reachFrom_50 : decode cX0_reachFrom 50 = .ok (.aload_n 0, 1) := by decide +kernel
theorem dX0_reachFrom_51 : decode cX0_reachFrom 51 = .ok (.getfield 44, 3) := by decide +kernel
theorem dX0_reachFrom_54 : decode cX0_reachFrom 54 = .ok (.iload 4, 2) := by decide +kernel
theorem dX0_reachFrom_56 : decode cX0_reachFrom 56 = .ok (.iload 5, 2) := by decide +kernel
theorem dX0_reachFrom_58 : decode cX0_reachFrom 58 = .ok (.invokestatic 79, 3) := by decide +kernel
theorem dX0_reachFrom_61 : decode cX0_reachFrom 61 = .ok (.iinc 4 1, 3) := by decide +kernel
theorem dX0_reachFrom_64 : decode cX0_reachFrom 64 = .ok (.iinc 5 1, 3) := by decide +kernel
theorem dX0_reachFrom_67 : decode cX0_reachFrom 67 = .ok (.goto (-61), 3) := by decide +kernel
theorem dX0_reachFrom_70 : decode cX0_reachFrom 70 = .ok (.iload 4, 2) := by decide +kernel
theorem dX0_reachFrom_72 : decode cX0_reachFrom 72 = .ok (.ireturn, 1) := by decide +kernel
set_option maxRecDepth 20000 in
theorem ggX0_isStep_X0_has : GoodIn wsX0_isStep wsX0_has := goodIn_r _ [4] (by decide +kernel) (by decide +kernel)
set_option maxRecDepth 20000 in
theorem gX0_isStep_X0_has : GoodIn wsX0_isStep (va_wsS RX0 83 yX0_has wsX0_has) := goodIn_app (goodIn_of _ (by decide +kernel)) ggX0_isStep_X0_has
set_option maxRecDepth 20000 in
theorem ggX0_isStep_X0_colourOf : GoodIn wsX0_isStep wsX0_colourOf := goodIn_r _ [8, 9, 10, 11, 3, 12, 13, 14, 15, 16, 17, 18, 19, 20, 21, 22, 23, 24] (by decide +kernel) (by decide +kernel)
set_option maxRecDepth 20000 in
theorem gX0_isStep_X0_colourOf : GoodIn wsX0_isStep (wsV RX0 96 RX0 yX0_colourOf wsX0_colourOf) := goodIn_app (goodIn_of _ (by decide +kernel)) ggX0_isStep_X0_colourOf
theorem dX0_isStep_0 : decode cX0_isStep 0 = .ok (.iload_n 3, 1) := by decide +kernel
theorem dX0_isStep_1 : decode cX0_isStep 1 = .ok (.iload_n 1, 1) := by decide +kernel
theorem dX0_isStep_2 : decode cX0_isStep 2 = .ok (.invokestatic 83, 3) := by decide +kernel
theorem dX0_isStep_5 : decode cX0_isStep 5 = .ok (.ifCond .eq 7, 3) := by decide +kernel
theorem dX0_isStep_8 : decode cX0_isStep 8 = .ok (.iconst 0, 1) := by decide +kernel
theorem dX0_isStep_9 : decode cX0_isStep 9 = .ok (.goto 4, 3) := by decide +kernel
theorem dX0_isStep_12 : decode cX0_isStep 12 = .ok (.iconst 1, 1) := by decide +kernel
theorem dX0_isStep_13 : decode cX0_isStep 13 = .ok (.istore 4, 2) := by decide +kernel
theorem dX0_isStep_15 : decode cX0_isStep 15 = .ok (.iload_n 3, 1) := by decide +kernel
theorem dX0_isStep_16 : decode cX0_isStep 16 = .ok (.iload_n 1, 1) := by decide +kernel
theorem dX0_isStep_17 : decode cX0_isStep 17 = .ok (.invokestatic 83, 3) := by decide +kernel
theorem dX0_isStep_20 : decode cX0_isStep 20 = .ok (.iload_n 3, 1) := by decide +kernel
theorem dX0_isStep_21 : decode cX0_isStep 21 = .ok (.iload_n 2, 1) := by decide +kernel
theorem dX0_isStep_22 : decode cX0_isStep 22 = .ok (.invokestatic 83, 3) := by decide +kernel
theorem dX0_isStep_25 : decode cX0_isStep 25 = .ok (.if_icmp .eq 24, 3) := by decide +kernel
theorem dX0_isStep_28 : decode cX0_isStep 28 = .ok (.aload_n 0, 1) := by decide +kernel
theorem dX0_isStep_29 : decode cX0_isStep 29 = .ok (.iload 4, 2) := by decide +kernel
theorem dX0_isStep_31 : decode cX0_isStep 31 = .ok (.iload_n 1, 1) := by decide +kernel
theorem dX0_isStep_32 : decode cX0_isStep 32 = .ok (.invokevirtual 96, 3) := by decide +kernel
theorem dX0_isStep_35 : decode cX0_isStep 35 = .ok (.aload_n 0, 1) := by decide +kernel
theorem dX0_isStep_36 : decode cX0_isStep 36 = .ok (.iload 4, 2) := by decide +kernel
theorem dX0_isStep_38 : decode cX0_isStep 38 = .ok (.iload_n 2, 1) := by decide +kernel
theorem dX0_isStep_39 : decode cX0_isStep 39 = .ok (.invokevirtual 96, 3) := by decide +kernel
theorem dX0_isStep_42 : decode cX0_isStep 42 = .ok (.if_icmp .ne 7, 3) := by decide +kernel
theorem dX0_isStep_45 : decode cX0_isStep 45 = .ok (.iconst 1, 1) := by decide +kernel
theorem dX0_isStep_46 : decode cX0_isStep 46 = .ok (.goto 4, 3) := by decide +kernel
theorem dX0_isStep_49 : decode cX0_isStep 49 = .ok (.iconst 0, 1) := by decide +kernel
theorem dX0_isStep_50 : decode cX0_isStep 50 = .ok (.ireturn, 1) := by decide +kernel
set_option maxRecDepth 20000 in
theorem ggX0_flippedAlong_X0_at : GoodIn wsX0_flippedAlong wsX0_at := goodIn_r _ [6] (by decide +kernel) (by decide +kernel)
set_option maxRecDepth 20000 in
theorem gX0_flippedAlong_X0_at : GoodIn wsX0_flippedAlong (va_wsS RX0 68 yX0_at wsX0_at) := goodIn_app (goodIn_of _ (by decide +kernel)) ggX0_flippedAlong_X0_at
theorem dX0_flippedAlong_0 : decode cX0_flippedAlong 0 = .ok (.iload_n 1, 1) := by decide +kernel
theorem dX0_flippedAlong_1 : decode cX0_flippedAlong 1 = .ok (.istore_n 3, 1) := by decide +kernel
theorem dX0_flippedAlong_2 : decode cX0_flippedAlong 2 = .ok (.iload_n 2, 1) := by decide +kernel
theorem dX0_flippedAlong_3 : decode cX0_flippedAlong 3 = .ok (.istore 4, 2) := by decide +kernel
theorem dX0_flippedAlong_5 : decode cX0_flippedAlong 5 = .ok (.iconst 0, 1) := by decide +kernel
theorem dX0_flippedAlong_6 : decode cX0_flippedAlong 6 = .ok (.istore 5, 2) := by decide +kernel
theorem dX0_flippedAlong_8 : decode cX0_flippedAlong 8 = .ok (.iload 5, 2) := by decide +kernel
theorem dX0_flippedAlong_10 : decode cX0_flippedAlong 10 = .ok (.aload_n 0, 1) := by decide +kernel
theorem dX0_flippedAlong_11 : decode cX0_flippedAlong 11 = .ok (.getfield 9, 3) := by decide +kernel
theorem dX0_flippedAlong_14 : decode cX0_flippedAlong 14 = .ok (.if_icmp .ge 33, 3) := by decide +kernel
theorem dX0_flippedAlong_17 : decode cX0_flippedAlong 17 = .ok (.iload 4, 2) := by decide +kernel
theorem dX0_flippedAlong_19 : decode cX0_flippedAlong 19 = .ok (.iconst (-1), 1) := by decide +kernel
theorem dX0_flippedAlong_20 : decode cX0_flippedAlong 20 = .ok (.if_icmp .eq 27, 3) := by decide +kernel
theorem dX0_flippedAlong_23 : decode cX0_flippedAlong 23 = .ok (.iload_n 3, 1) := by decide +kernel
theorem dX0_flippedAlong_24 : decode cX0_flippedAlong 24 = .ok (.iconst 1, 1) := by decide +kernel
theorem dX0_flippedAlong_25 : decode cX0_flippedAlong 25 = .ok (.iload 4, 2) := by decide +kernel
theorem dX0_flippedAlong_27 : decode cX0_flippedAlong 27 = .ok (.ishl, 1) := by decide +kernel
theorem dX0_flippedAlong_28 : decode cX0_flippedAlong 28 = .ok (.ixor, 1) := by decide +kernel
theorem dX0_flippedAlong_29 : decode cX0_flippedAlong 29 = .ok (.istore_n 3, 1) := by decide +kernel
theorem dX0_flippedAlong_30 : decode cX0_flippedAlong 30 = .ok (.aload_n 0, 1) := by decide +kernel
theorem dX0_flippedAlong_31 : decode cX0_flippedAlong 31 = .ok (.getfield 41, 3) := by decide +kernel
theorem dX0_flippedAlong_34 : decode cX0_flippedAlong 34 = .ok (.iload 4, 2) := by decide +kernel
theorem dX0_flippedAlong_36 : decode cX0_flippedAlong 36 = .ok (.invokestatic 68, 3) := by decide +kernel
theorem dX0_flippedAlong_39 : decode cX0_flippedAlong 39 = .ok (.istore 4, 2) := by decide +kernel
theorem dX0_flippedAlong_41 : decode cX0_flippedAlong 41 = .ok (.iinc 5 1, 3) := by decide +kernel
theorem dX0_flippedAlong_44 : decode cX0_flippedAlong 44 = .ok (.goto (-36), 3) := by decide +kernel
theorem dX0_flippedAlong_47 : decode cX0_flippedAlong 47 = .ok (.iload_n 3, 1) := by decide +kernel
theorem dX0_flippedAlong_48 : decode cX0_flippedAlong 48 = .ok (.ireturn, 1) := by decide +kernel
theorem dX0_ordersOf_0 : decode cX0_ordersOf 0 = .ok (.iconst 1, 1) := by decide +kernel
theorem dX0_ordersOf_1 : decode cX0_ordersOf 1 = .ok (.istore_n 1, 1) := by decide +kernel
theorem dX0_ordersOf_2 : decode cX0_ordersOf 2 = .ok (.iconst 2, 1) := by decide +kernel
theorem dX0_ordersOf_3 : decode cX0_ordersOf 3 = .ok (.istore_n 2, 1) := by decide +kernel
theorem dX0_ordersOf_4 : decode cX0_ordersOf 4 = .ok (.iload_n 2, 1) := by decide +kernel
theorem dX0_ordersOf_5 : decode cX0_ordersOf 5 = .ok (.iload_n 0, 1) := by decide +kernel
theorem dX0_ordersOf_6 : decode cX0_ordersOf 6 = .ok (.if_icmp .gt 13, 3) := by decide +kernel
theorem dX0_ordersOf_9 : decode cX0_ordersOf 9 = .ok (.iload_n 1, 1) := by decide +kernel
theorem dX0_ordersOf_10 : decode cX0_ordersOf 10 = .ok (.iload_n 2, 1) := by decide +kernel
theorem dX0_ordersOf_11 : decode cX0_ordersOf 11 = .ok (.imul, 1) := by decide +kernel
theorem dX0_ordersOf_12 : decode cX0_ordersOf 12 = .ok (.istore_n 1, 1) := by decide +kernel
theorem dX0_ordersOf_13 : decode cX0_ordersOf 13 = .ok (.iinc 2 1, 3) := by decide +kernel
theorem dX0_ordersOf_16 : decode cX0_ordersOf 16 = .ok (.goto (-12), 3) := by decide +kernel
theorem dX0_ordersOf_19 : decode cX0_ordersOf 19 = .ok (.iload_n 1, 1) := by decide +kernel
theorem dX0_ordersOf_20 : decode cX0_ordersOf 20 = .ok (.ireturn, 1) := by decide +kernel
set_option maxRecDepth 20000 in
theorem ggX0_gainsOverOrders_X0_has : GoodIn wsX0_gainsOverOrders wsX0_has := goodIn_r _ [5] (by decide +kernel) (by decide +kernel)
set_option maxRecDepth 20000 in
theorem gX0_gainsOverOrders_X0_has : GoodIn wsX0_gainsOverOrders (va_wsS RX0 83 yX0_has wsX0_has) := goodIn_app (goodIn_of _ (by decide +kernel)) ggX0_gainsOverOrders_X0_has
set_option maxRecDepth 20000 in
theorem ggX0_gainsOverOrders_X0_gain : GoodIn wsX0_gainsOverOrders wsX0_gain := goodIn_r _ [9, 10, 11, 4, 12, 13, 14, 15, 16, 17, 18, 19, 20, 24, 25, 26, 27, 28, 29, 30, 31, 32, 33, 34, 35] (by decide +kernel) (by decide +kernel)
set_option maxRecDepth 20000 in
theorem gX0_gainsOverOrders_X0_gain : GoodIn wsX0_gainsOverOrders (wsV RX0 136 RX0 yX0_gain wsX0_gain) := goodIn_app (goodIn_of _ (by decide +kernel)) ggX0_gainsOverOrders_X0_gain
set_option maxRecDepth 20000 in
theorem ggX0_gainsOverOrders_X0_with : GoodIn wsX0_gainsOverOrders wsX0_with := goodIn_r _ [12] (by decide +kernel) (by decide +kernel)
set_option maxRecDepth 20000 in
theorem gX0_gainsOverOrders_X0_with : GoodIn wsX0_gainsOverOrders (va_wsS RX0 72 yX0_with wsX0_with) := goodIn_app (goodIn_of _ (by decide +kernel)) ggX0_gainsOverOrders_X0_with
set_option maxRecDepth 20000 in
theorem ggX0_gainsOverOrders_X0_gainsOverOrders : GoodIn wsX0_gainsOverOrders wsX0_gainsOverOrders := goodIn_r _ [0, 1, 2, 3, 4, 5, 6, 7, 8, 9, 10, 11, 12, 13, 14, 15, 16, 17, 18, 19, 20, 21, 22, 23, 24, 25, 26, 27, 28, 29, 30, 31, 32, 33, 34, 35] (by decide +kernel) (by decide +kernel)
set_option maxRecDepth 20000 in
theorem gX0_gainsOverOrders_X0_gainsOverOrders : GoodIn wsX0_gainsOverOrders (wsV RX0 177 RX0 yX0_gainsOverOrders wsX0_gainsOverOrders) := goodIn_app (goodIn_of _ (by decide +kernel)) ggX0_gainsOverOrders_X0_gainsOverOrders
theorem dX0_gainsOverOrders_0 : decode cX0_gainsOverOrders 0 = .ok (.iload 4, 2) := by decide +kernel
theorem dX0_gainsOverOrders_2 : decode cX0_gainsOverOrders 2 = .ok (.aload_n 0, 1) := by decide +kernel
theorem dX0_gainsOverOrders_3 : decode cX0_gainsOverOrders 3 = .ok (.getfield 9, 3) := by decide +kernel
theorem dX0_gainsOverOrders_6 : decode cX0_gainsOverOrders 6 = .ok (.if_icmp .lt 6, 3) := by decide +kernel
theorem dX0_gainsOverOrders_9 : decode cX0_gainsOverOrders 9 = .ok (.iload 5, 2) := by decide +kernel
theorem dX0_gainsOverOrders_11 : decode cX0_gainsOverOrders 11 = .ok (.ireturn, 1) := by decide +kernel
theorem dX0_gainsOverOrders_12 : decode cX0_gainsOverOrders 12 = .ok (.iconst 0, 1) := by decide +kernel
theorem dX0_gainsOverOrders_13 : decode cX0_gainsOverOrders 13 = .ok (.istore 6, 2) := by decide +kernel
theorem dX0_gainsOverOrders_15 : decode cX0_gainsOverOrders 15 = .ok (.iconst 0, 1) := by decide +kernel
theorem dX0_gainsOverOrders_16 : decode cX0_gainsOverOrders 16 = .ok (.istore 7, 2) := by decide +kernel
theorem dX0_gainsOverOrders_18 : decode cX0_gainsOverOrders 18 = .ok (.iload 7, 2) := by decide +kernel
theorem dX0_gainsOverOrders_20 : decode cX0_gainsOverOrders 20 = .ok (.aload_n 0, 1) := by decide +kernel
theorem dX0_gainsOverOrders_21 : decode cX0_gainsOverOrders 21 = .ok (.getfield 9, 3) := by decide +kernel
theorem dX0_gainsOverOrders_24 : decode cX0_gainsOverOrders 24 = .ok (.if_icmp .ge 61, 3) := by decide +kernel
theorem dX0_gainsOverOrders_27 : decode cX0_gainsOverOrders 27 = .ok (.iload_n 3, 1) := by decide +kernel
theorem dX0_gainsOverOrders_28 : decode cX0_gainsOverOrders 28 = .ok (.iload 7, 2) := by decide +kernel
theorem dX0_gainsOverOrders_30 : decode cX0_gainsOverOrders 30 = .ok (.invokestatic 83, 3) := by decide +kernel
theorem dX0_gainsOverOrders_33 : decode cX0_gainsOverOrders 33 = .ok (.ifCond .ne 46, 3) := by decide +kernel
theorem dX0_gainsOverOrders_36 : decode cX0_gainsOverOrders 36 = .ok (.iload 7, 2) := by decide +kernel
theorem dX0_gainsOverOrders_38 : decode cX0_gainsOverOrders 38 = .ok (.iload_n 2, 1) := by decide +kernel
theorem dX0_gainsOverOrders_39 : decode cX0_gainsOverOrders 39 = .ok (.if_icmp .ne 13, 3) := by decide +kernel
theorem dX0_gainsOverOrders_42 : decode cX0_gainsOverOrders 42 = .ok (.aload_n 0, 1) := by decide +kernel
theorem dX0_gainsOverOrders_43 : decode cX0_gainsOverOrders 43 = .ok (.iload_n 1, 1) := by decide +kernel
theorem dX0_gainsOverOrders_44 : decode cX0_gainsOverOrders 44 = .ok (.iload_n 3, 1) := by decide +kernel
theorem dX0_gainsOverOrders_45 : decode cX0_gainsOverOrders 45 = .ok (.iload_n 2, 1) := by decide +kernel
theorem dX0_gainsOverOrders_46 : decode cX0_gainsOverOrders 46 = .ok (.invokevirtual 136, 3) := by decide +kernel
theorem dX0_gainsOverOrders_49 : decode cX0_gainsOverOrders 49 = .ok (.goto 5, 3) := by decide +kernel
theorem dX0_gainsOverOrders_52 : decode cX0_gainsOverOrders 52 = .ok (.iload 5, 2) := by decide +kernel
theorem dX0_gainsOverOrders_54 : decode cX0_gainsOverOrders 54 = .ok (.istore 8, 2) := by decide +kernel
theorem dX0_gainsOverOrders_56 : decode cX0_gainsOverOrders 56 = .ok (.iload 6, 2) := by decide +kernel
theorem dX0_gainsOverOrders_58 : decode cX0_gainsOverOrders 58 = .ok (.aload_n 0, 1) := by decide +kernel
theorem dX0_gainsOverOrders_59 : decode cX0_gainsOverOrders 59 = .ok (.iload_n 1, 1) := by decide +kernel
theorem dX0_gainsOverOrders_60 : decode cX0_gainsOverOrders 60 = .ok (.iload_n 2, 1) := by decide +kernel
theorem dX0_gainsOverOrders_61 : decode cX0_gainsOverOrders 61 = .ok (.iload_n 3, 1) := by decide +kernel
theorem dX0_gainsOverOrders_62 : decode cX0_gainsOverOrders 62 = .ok (.iload 7, 2) := by decide +kernel
theorem dX0_gainsOverOrders_64 : decode cX0_gainsOverOrders 64 = .ok (.invokestatic 72, 3) := by decide +kernel
theorem dX0_gainsOverOrders_67 : decode cX0_gainsOverOrders 67 = .ok (.iload 4, 2) := by decide +kernel
theorem dX0_gainsOverOrders_69 : decode cX0_gainsOverOrders 69 = .ok (.iconst 1, 1) := by decide +kernel
theorem dX0_gainsOverOrders_70 : decode cX0_gainsOverOrders 70 = .ok (.iadd, 1) := by decide +kernel
theorem dX0_gainsOverOrders_71 : decode cX0_gainsOverOrders 71 = .ok (.iload 8, 2) := by decide +kernel
theorem dX0_gainsOverOrders_73 : decode cX0_gainsOverOrders 73 = .ok (.invokevirtual 177, 3) := by decide +kernel
theorem dX0_gainsOverOrders_76 : decode cX0_gainsOverOrders 76 = .ok (.iadd, 1) := by decide +kernel
theorem dX0_gainsOverOrders_77 : decode cX0_gainsOverOrders 77 = .ok (.istore 6, 2) := by decide +kernel
theorem dX0_gainsOverOrders_79 : decode cX0_gainsOverOrders 79 = .ok (.iinc 7 1, 3) := by decide +kernel
theorem dX0_gainsOverOrders_82 : decode cX0_gainsOverOrders 82 = .ok (.goto (-64), 3) := by decide +kernel
theorem dX0_gainsOverOrders_85 : decode cX0_gainsOverOrders 85 = .ok (.iload 6, 2) := by decide +kernel
theorem dX0_gainsOverOrders_87 : decode cX0_gainsOverOrders 87 = .ok (.ireturn, 1) := by decide +kernel
end
section
set_option maxRecDepth 20000 in
theorem ggX1_init_X1_forgets : GoodIn wsX1_init wsX1_forgets := goodIn_r _ [17, 18, 19, 6, 10, 7, 8, 9, 20, 21, 22, 23, 24, 25, 26, 27, 28, 29, 30] (by decide +kernel) (by decide +kernel)
set_option maxRecDepth 20000 in
theorem gX1_init_X1_forgets : GoodIn wsX1_init (wsV RX1 35 RX1 yX1_forgets wsX1_forgets) := goodIn_app (goodIn_of _ (by decide +kernel)) ggX1_init_X1_forgets
theorem dX1_init_0 : decode cX1_init 0 = .ok (.aload_n 0, 1) := by decide +kernel
theorem dX1_init_1 : decode cX1_init 1 = .ok (.invokespecial 1, 3) := by decide +kernel
theorem dX1_init_4 : decode cX1_init 4 = .ok (.aload_n 0, 1) := by decide +kernel
theorem dX1_init_5 : decode cX1_init 5 = .ok (.iconst 4, 1) := by decide +kernel
theorem dX1_init_6 : decode cX1_init 6 = .ok (.putfield 7, 3) := by decide +kernel
theorem dX1_init_9 : decode cX1_init 9 = .ok (.aload_n 0, 1) := by decide +kernel
theorem dX1_init_10 : decode cX1_init 10 = .ok (.bipush 6, 2) := by decide +kernel
theorem dX1_init_12 : decode cX1_init 12 = .ok (.newarray .int, 2) := by decide +kernel
theorem dX1_init_14 : decode cX1_init 14 = .ok (.putfield 13, 3) := by decide +kernel
theorem dX1_init_17 : decode cX1_init 17 = .ok (.aload_n 0, 1) := by decide +kernel
theorem dX1_init_18 : decode cX1_init 18 = .ok (.bipush 36, 2) := by decide +kernel
theorem dX1_init_20 : decode cX1_init 20 = .ok (.newarray .int, 2) := by decide +kernel
theorem dX1_init_22 : decode cX1_init 22 = .ok (.putfield 17, 3) := by decide +kernel
theorem dX1_init_25 : decode cX1_init 25 = .ok (.aload_n 0, 1) := by decide +kernel
theorem dX1_init_26 : decode cX1_init 26 = .ok (.bipush 12, 2) := by decide +kernel
theorem dX1_init_28 : decode cX1_init 28 = .ok (.newarray .int, 2) := by decide +kernel
theorem dX1_init_30 : decode cX1_init 30 = .ok (.putfield 20, 3) := by decide +kernel
theorem dX1_init_33 : decode cX1_init 33 = .ok (.aload_n 0, 1) := by decide +kernel
theorem dX1_init_34 : decode cX1_init 34 = .ok (.bipush 12, 2) := by decide +kernel
theorem dX1_init_36 : decode cX1_init 36 = .ok (.newarray .int, 2) := by decide +kernel
theorem dX1_init_38 : decode cX1_init 38 = .ok (.putfield 23, 3) := by decide +kernel
theorem dX1_init_41 : decode cX1_init 41 = .ok (.aload_n 0, 1) := by decide +kernel
theorem dX1_init_42 : decode cX1_init 42 = .ok (.bipush 6, 2) := by decide +kernel
theorem dX1_init_44 : decode cX1_init 44 = .ok (.newarray .int, 2) := by decide +kernel
theorem dX1_init_46 : decode cX1_init 46 = .ok (.putfield 26, 3) := by decide +kernel
theorem dX1_init_49 : decode cX1_init 49 = .ok (.aload_n 0, 1) := by decide +kernel
theorem dX1_init_50 : decode cX1_init 50 = .ok (.sipush 512, 3) := by decide +kernel
theorem dX1_init_53 : decode cX1_init 53 = .ok (.newarray .int, 2) := by decide +kernel
theorem dX1_init_55 : decode cX1_init 55 = .ok (.putfield 29, 3) := by decide +kernel
theorem dX1_init_58 : decode cX1_init 58 = .ok (.aload_n 0, 1) := by decide +kernel
theorem dX1_init_59 : decode cX1_init 59 = .ok (.bipush 6, 2) := by decide +kernel
theorem dX1_init_61 : decode cX1_init 61 = .ok (.newarray .int, 2) := by decide +kernel
theorem dX1_init_63 : decode cX1_init 63 = .ok (.putfield 32, 3) := by decide +kernel
theorem dX1_init_66 : decode cX1_init 66 = .ok (.aload_n 0, 1) := by decide +kernel
theorem dX1_init_67 : decode cX1_init 67 = .ok (.invokevirtual 35, 3) := by decide +kernel
theorem dX1_init_70 : decode cX1_init 70 = .ok (.return_, 1) := by decide +kernel
theorem dX1_forgets_0 : decode cX1_forgets 0 = .ok (.aload_n 0, 1) := by decide +kernel
theorem dX1_forgets_1 : decode cX1_forgets 1 = .ok (.iconst 0, 1) := by decide +kernel
theorem dX1_forgets_2 : decode cX1_forgets 2 = .ok (.putfield 38, 3) := by decide +kernel
theorem dX1_forgets_5 : decode cX1_forgets 5 = .ok (.aload_n 0, 1) := by decide +kernel
theorem dX1_forgets_6 : decode cX1_forgets 6 = .ok (.iconst 0, 1) := by decide +kernel
theorem dX1_forgets_7 : decode cX1_forgets 7 = .ok (.putfield 41, 3) := by decide +kernel
theorem dX1_forgets_10 : decode cX1_forgets 10 = .ok (.iconst 0, 1) := by decide +kernel
theorem dX1_forgets_11 : decode cX1_forgets 11 = .ok (.istore_n 1, 1) := by decide +kernel
theorem dX1_forgets_12 : decode cX1_forgets 12 = .ok (.iload_n 1, 1) := by decide +kernel
theorem dX1_forgets_13 : decode cX1_forgets 13 = .ok (.bipush 6, 2) := by decide +kernel
theorem dX1_forgets_15 : decode cX1_forgets 15 = .ok (.if_icmp .ge 23, 3) := by decide +kernel
theorem dX1_forgets_18 : decode cX1_forgets 18 = .ok (.aload_n 0, 1) := by decide +kernel
theorem dX1_forgets_19 : decode cX1_forgets 19 = .ok (.getfield 13, 3) := by decide +kernel
theorem dX1_forgets_22 : decode cX1_forgets 22 = .ok (.iload_n 1, 1) := by decide +kernel
theorem dX1_forgets_23 : decode cX1_forgets 23 = .ok (.iconst 0, 1) := by decide +kernel
theorem dX1_forgets_24 : decode cX1_forgets 24 = .ok (.iastore, 1) := by decide +kernel
theorem dX1_forgets_25 : decode cX1_forgets 25 = .ok (.aload_n 0, 1) := by decide +kernel
theorem dX1_forgets_26 : decode cX1_forgets 26 = .ok (.getfield 26, 3) := by decide +kernel
theorem dX1_forgets_29 : decode cX1_forgets 29 = .ok (.iload_n 1, 1) := by decide +kernel
theorem dX1_forgets_30 : decode cX1_forgets 30 = .ok (.iconst 0, 1) := by decide +kernel
theorem dX1_forgets_31 : decode cX1_forgets 31 = .ok (.iastore, 1) := by decide +kernel
theorem dX1_forgets_32 : decode cX1_forgets 32 = .ok (.iinc 1 1, 3) := by decide +kernel
theorem dX1_forgets_35 : decode cX1_forgets 35 = .ok (.goto (-23), 3) := by decide +kernel
theorem dX1_forgets_38 : decode cX1_forgets 38 = .ok (.iconst 0, 1) := by decide +kernel
theorem dX1_forgets_39 : decode cX1_forgets 39 = .ok (.istore_n 1, 1) := by decide +kernel
theorem dX1_forgets_40 : decode cX1_forgets 40 = .ok (.iload_n 1, 1) := by decide +kernel
theorem dX1_forgets_41 : decode cX1_forgets 41 = .ok (.bipush 36, 2) := by decide +kernel
theorem dX1_forgets_43 : decode cX1_forgets 43 = .ok (.if_icmp .ge 16, 3) := by decide +kernel
theorem dX1_forgets_46 : decode cX1_forgets 46 = .ok (.aload_n 0, 1) := by decide +kernel
theorem dX1_forgets_47 : decode cX1_forgets 47 = .ok (.getfield 17, 3) := by decide +kernel
theorem dX1_forgets_50 : decode cX1_forgets 50 = .ok (.iload_n 1, 1) := by decide +kernel
theorem dX1_forgets_51 : decode cX1_forgets 51 = .ok (.iconst 0, 1) := by decide +kernel
theorem dX1_forgets_52 : decode cX1_forgets 52 = .ok (.iastore, 1) := by decide +kernel
theorem dX1_forgets_53 : decode cX1_forgets 53 = .ok (.iinc 1 1, 3) := by decide +kernel
theorem dX1_forgets_56 : decode cX1_forgets 56 = .ok (.goto (-16), 3) := by decide +kernel
theorem dX1_forgets_59 : decode cX1_forgets 59 = .ok (.iconst 0, 1) := by decide +kernel
theorem dX1_forgets_60 : decode cX1_forgets 60 = .ok (.istore_n 1, 1) := by decide +kernel
theorem dX1_forgets_61 : decode cX1_forgets 61 = .ok (.iload_n 1, 1) := by decide +kernel
theorem dX1_forgets_62 : decode cX1_forgets 62 = .ok (.bipush 12, 2) := by decide +kernel
theorem dX1_forgets_64 : decode cX1_forgets 64 = .ok (.if_icmp .ge 23, 3) := by decide +kernel
theorem dX1_forgets_67 : decode cX1_forgets 67 = .ok (.aload_n 0, 1) := by decide +kernel
theorem dX1_forgets_68 : decode cX1_forgets 68 = .ok (.getfield 20, 3) := by decide +kernel
theorem dX1_forgets_71 : decode cX1_forgets 71 = .ok (.iload_n 1, 1) := by decide +kernel
theorem dX1_forgets_72 : decode cX1_forgets 72 = .ok (.iconst 0, 1) := by decide +kernel
theorem dX1_forgets_73 : decode cX1_forgets 73 = .ok (.iastore, 1) := by decide +kernel
theorem dX1_forgets_74 : decode cX1_forgets 74 = .ok (.aload_n 0, 1) := by decide +kernel
theorem dX1_forgets_75 : decode cX1_forgets 75 = .ok (.getfield 23, 3) := by decide +kernel
theorem dX1_forgets_78 : decode cX1_forgets 78 = .ok (.iload_n 1, 1) := by decide +kernel
theorem dX1_forgets_79 : decode cX1_forgets 79 = .ok (.iconst 1, 1) := by decide +kernel
theorem dX1_forgets_80 : decode cX1_forgets 80 = .ok (.iastore, 1) := by decide +kernel
theorem dX1_forgets_81 : decode cX1_forgets 81 = .ok (.iinc 1 1, 3) := by decide +kernel
theorem dX1_forgets_84 : decode cX1_forgets 84 = .ok (.goto (-23), 3) := by decide +kernel
theorem dX1_forgets_87 : decode cX1_forgets 87 = .ok (.return_, 1) := by decide +kernel
theorem dX1_thrown_0 : decode cX1_thrown 0 = .ok (.aload_n 0, 1) := by decide +kernel
theorem dX1_thrown_1 : decode cX1_thrown 1 = .ok (.getfield 44, 3) := by decide +kernel
theorem dX1_thrown_4 : decode cX1_thrown 4 = .ok (.ireturn, 1) := by decide +kernel
theorem dX1_isIn_0 : decode cX1_isIn 0 = .ok (.iload_n 0, 1) := by decide +kernel
theorem dX1_isIn_1 : decode cX1_isIn 1 = .ok (.iload_n 1, 1) := by decide +kernel
theorem dX1_isIn_2 : decode cX1_isIn 2 = .ok (.if_icmp .lt 12, 3) := by decide +kernel
theorem dX1_isIn_5 : decode cX1_isIn 5 = .ok (.iload_n 0, 1) := by decide +kernel
theorem dX1_isIn_6 : decode cX1_isIn 6 = .ok (.iload_n 2, 1) := by decide +kernel
theorem dX1_isIn_7 : decode cX1_isIn 7 = .ok (.if_icmp .gt 7, 3) := by decide +kernel
theorem dX1_isIn_10 : decode cX1_isIn 10 = .ok (.iconst 1, 1) := by decide +kernel
theorem dX1_isIn_11 : decode cX1_isIn 11 = .ok (.goto 4, 3) := by decide +kernel
theorem dX1_isIn_14 : decode cX1_isIn 14 = .ok (.iconst 0, 1) := by decide +kernel
theorem dX1_isIn_15 : decode cX1_isIn 15 = .ok (.ireturn, 1) := by decide +kernel
set_option maxRecDepth 20000 in
theorem ggX1_isElement_X1_isIn : GoodIn wsX1_isElement wsX1_isIn := goodIn_r _ [5] (by decide +kernel) (by decide +kernel)
set_option maxRecDepth 20000 in
theorem gX1_isElement_X1_isIn : GoodIn wsX1_isElement (va_wsS RX1 47 yX1_isIn wsX1_isIn) := goodIn_app (goodIn_of _ (by decide +kernel)) ggX1_isElement_X1_isIn
theorem dX1_isElement_0 : decode cX1_isElement 0 = .ok (.iload_n 1, 1) := by decide +kernel
theorem dX1_isElement_1 : decode cX1_isElement 1 = .ok (.iconst 0, 1) := by decide +kernel
theorem dX1_isElement_2 : decode cX1_isElement 2 = .ok (.aload_n 0, 1) := by decide +kernel
theorem dX1_isElement_3 : decode cX1_isElement 3 = .ok (.getfield 7, 3) := by decide +kernel
theorem dX1_isElement_6 : decode cX1_isElement 6 = .ok (.iconst 1, 1) := by decide +kernel
theorem dX1_isElement_7 : decode cX1_isElement 7 = .ok (.isub, 1) := by decide +kernel
theorem dX1_isElement_8 : decode cX1_isElement 8 = .ok (.invokestatic 47, 3) := by decide +kernel
theorem dX1_isElement_11 : decode cX1_isElement 11 = .ok (.ireturn, 1) := by decide +kernel
set_option maxRecDepth 20000 in
theorem ggX1_isFunction_X1_isIn : GoodIn wsX1_isFunction wsX1_isIn := goodIn_r _ [5] (by decide +kernel) (by decide +kernel)
set_option maxRecDepth 20000 in
theorem gX1_isFunction_X1_isIn : GoodIn wsX1_isFunction (va_wsS RX1 47 yX1_isIn wsX1_isIn) := goodIn_app (goodIn_of _ (by decide +kernel)) ggX1_isFunction_X1_isIn
theorem dX1_isFunction_0 : decode cX1_isFunction 0 = .ok (.iload_n 1, 1) := by decide +kernel
theorem dX1_isFunction_1 : decode cX1_isFunction 1 = .ok (.iconst 0, 1) := by decide +kernel
theorem dX1_isFunction_2 : decode cX1_isFunction 2 = .ok (.aload_n 0, 1) := by decide +kernel
theorem dX1_isFunction_3 : decode cX1_isFunction 3 = .ok (.getfield 38, 3) := by decide +kernel
theorem dX1_isFunction_6 : decode cX1_isFunction 6 = .ok (.iconst 1, 1) := by decide +kernel
theorem dX1_isFunction_7 : decode cX1_isFunction 7 = .ok (.isub, 1) := by decide +kernel
theorem dX1_isFunction_8 : decode cX1_isFunction 8 = .ok (.invokestatic 47, 3) := by decide +kernel
theorem dX1_isFunction_11 : decode cX1_isFunction 11 = .ok (.ireturn, 1) := by decide +kernel
set_option maxRecDepth 20000 in
theorem ggX1_isSet_X1_isIn : GoodIn wsX1_isSet wsX1_isIn := goodIn_r _ [5] (by decide +kernel) (by decide +kernel)
set_option maxRecDepth 20000 in
theorem gX1_isSet_X1_isIn : GoodIn wsX1_isSet (va_wsS RX1 47 yX1_isIn wsX1_isIn) := goodIn_app (goodIn_of _ (by decide +kernel)) ggX1_isSet_X1_isIn
theorem dX1_isSet_0 : decode cX1_isSet 0 = .ok (.iload_n 1, 1) := by decide +kernel
theorem dX1_isSet_1 : decode cX1_isSet 1 = .ok (.iconst 0, 1) := by decide +kernel
theorem dX1_isSet_2 : decode cX1_isSet 2 = .ok (.iconst 1, 1) := by decide +kernel
theorem dX1_isSet_3 : decode cX1_isSet 3 = .ok (.aload_n 0, 1) := by decide +kernel
theorem dX1_isSet_4 : decode cX1_isSet 4 = .ok (.getfield 7, 3) := by decide +kernel
theorem dX1_isSet_7 : decode cX1_isSet 7 = .ok (.ishl, 1) := by decide +kernel
theorem dX1_isSet_8 : decode cX1_isSet 8 = .ok (.iconst 1, 1) := by decide +kernel
theorem dX1_isSet_9 : decode cX1_isSet 9 = .ok (.isub, 1) := by decide +kernel
theorem dX1_isSet_10 : decode cX1_isSet 10 = .ok (.invokestatic 47, 3) := by decide +kernel
theorem dX1_isSet_13 : decode cX1_isSet 13 = .ok (.ireturn, 1) := by decide +kernel
theorem dX1_has_0 : decode cX1_has 0 = .ok (.iload_n 0, 1) := by decide +kernel
theorem dX1_has_1 : decode cX1_has 1 = .ok (.iload_n 1, 1) := by decide +kernel
theorem dX1_has_2 : decode cX1_has 2 = .ok (.ishr, 1) := by decide +kernel
theorem dX1_has_3 : decode cX1_has 3 = .ok (.iconst 1, 1) := by decide +kernel
theorem dX1_has_4 : decode cX1_has 4 = .ok (.iand, 1) := by decide +kernel
theorem dX1_has_5 : decode cX1_has 5 = .ok (.iconst 1, 1) := by decide +kernel
theorem dX1_has_6 : decode cX1_has 6 = .ok (.if_icmp .ne 7, 3) := by decide +kernel
theorem dX1_has_9 : decode cX1_has 9 = .ok (.iconst 1, 1) := by decide +kernel
theorem dX1_has_10 : decode cX1_has 10 = .ok (.goto 4, 3) := by decide +kernel
theorem dX1_has_13 : decode cX1_has 13 = .ok (.iconst 0, 1) := by decide +kernel
theorem dX1_has_14 : decode cX1_has 14 = .ok (.ireturn, 1) := by decide +kernel
theorem dX1_many_0 : decode cX1_many 0 = .ok (.iconst 0, 1) := by decide +kernel
theorem dX1_many_1 : decode cX1_many 1 = .ok (.istore_n 1, 1) := by decide +kernel
theorem dX1_many_2 : decode cX1_many 2 = .ok (.iconst 0, 1) := by decide +kernel
theorem dX1_many_3 : decode cX1_many 3 = .ok (.istore_n 2, 1) := by decide +kernel
theorem dX1_many_4 : decode cX1_many 4 = .ok (.iload_n 2, 1) := by decide +kernel
theorem dX1_many_5 : decode cX1_many 5 = .ok (.bipush 10, 2) := by decide +kernel
theorem dX1_many_7 : decode cX1_many 7 = .ok (.if_icmp .ge 17, 3) := by decide +kernel
theorem dX1_many_10 : decode cX1_many 10 = .ok (.iload_n 1, 1) := by decide +kernel
theorem dX1_many_11 : decode cX1_many 11 = .ok (.iload_n 0, 1) := by decide +kernel
theorem dX1_many_12 : decode cX1_many 12 = .ok (.iload_n 2, 1) := by decide +kernel
theorem dX1_many_13 : decode cX1_many 13 = .ok (.ishr, 1) := by decide +kernel
theorem dX1_many_14 : decode cX1_many 14 = .ok (.iconst 1, 1) := by decide +kernel
theorem dX1_many_15 : decode cX1_many 15 = .ok (.iand, 1) := by decide +kernel
theorem dX1_many_16 : decode cX1_many 16 = .ok (.iadd, 1) := by decide +kernel
theorem dX1_many_17 : decode cX1_many 17 = .ok (.istore_n 1, 1) := by decide +kernel
theorem dX1_many_18 : decode cX1_many 18 = .ok (.iinc 2 1, 3) := by decide +kernel
theorem dX1_many_21 : decode cX1_many 21 = .ok (.goto (-17), 3) := by decide +kernel
theorem dX1_many_24 : decode cX1_many 24 = .ok (.iload_n 1, 1) := by decide +kernel
theorem dX1_many_25 : decode cX1_many 25 = .ok (.ireturn, 1) := by decide +kernel
set_option maxRecDepth 20000 in
theorem ggX1_elements_X1_isIn : GoodIn wsX1_elements wsX1_isIn := goodIn_r _ [6] (by decide +kernel) (by decide +kernel)
set_option maxRecDepth 20000 in
theorem gX1_elements_X1_isIn : GoodIn wsX1_elements (va_wsS RX1 47 yX1_isIn wsX1_isIn) := goodIn_app (goodIn_of _ (by decide +kernel)) ggX1_elements_X1_isIn
set_option maxRecDepth 20000 in
theorem ggX1_elements_X1_forgets : GoodIn wsX1_elements wsX1_forgets := goodIn_r _ [10, 11, 12, 13, 14, 15, 16, 17, 18, 19, 20, 21, 22, 23, 24, 25, 26, 27, 28] (by decide +kernel) (by decide +kernel)
set_option maxRecDepth 20000 in
theorem gX1_elements_X1_forgets : GoodIn wsX1_elements (wsV RX1 35 RX1 yX1_forgets wsX1_forgets) := goodIn_app (goodIn_of _ (by decide +kernel)) ggX1_elements_X1_forgets
theorem dX1_elements_0 : decode cX1_elements 0 = .ok (.aload_n 0, 1) := by decide +kernel
theorem dX1_elements_1 : decode cX1_elements 1 = .ok (.iload_n 1, 1) := by decide +kernel
theorem dX1_elements_2 : decode cX1_elements 2 = .ok (.iconst 1, 1) := by decide +kernel
theorem dX1_elements_3 : decode cX1_elements 3 = .ok (.bipush 6, 2) := by decide +kernel
theorem dX1_elements_5 : decode cX1_elements 5 = .ok (.invokestatic 47, 3) := by decide +kernel
theorem dX1_elements_8 : decode cX1_elements 8 = .ok (.ifCond .eq 7, 3) := by decide +kernel
theorem dX1_elements_11 : decode cX1_elements 11 = .ok (.iconst 0, 1) := by decide +kernel
theorem dX1_elements_12 : decode cX1_elements 12 = .ok (.goto 4, 3) := by decide +kernel
theorem dX1_elements_15 : decode cX1_elements 15 = .ok (.iconst 1, 1) := by decide +kernel
theorem dX1_elements_16 : decode cX1_elements 16 = .ok (.putfield 44, 3) := by decide +kernel
theorem dX1_elements_19 : decode cX1_elements 19 = .ok (.aload_n 0, 1) := by decide +kernel
theorem dX1_elements_20 : decode cX1_elements 20 = .ok (.getfield 44, 3) := by decide +kernel
theorem dX1_elements_23 : decode cX1_elements 23 = .ok (.ifCond .le 5, 3) := by decide +kernel
theorem dX1_elements_26 : decode cX1_elements 26 = .ok (.iconst 0, 1) := by decide +kernel
theorem dX1_elements_27 : decode cX1_elements 27 = .ok (.ireturn, 1) := by decide +kernel
theorem dX1_elements_28 : decode cX1_elements 28 = .ok (.aload_n 0, 1) := by decide +kernel
theorem dX1_elements_29 : decode cX1_elements 29 = .ok (.getfield 7, 3) := by decide +kernel
theorem dX1_elements_32 : decode cX1_elements 32 = .ok (.istore_n 2, 1) := by decide +kernel
theorem dX1_elements_33 : decode cX1_elements 33 = .ok (.aload_n 0, 1) := by decide +kernel
theorem dX1_elements_34 : decode cX1_elements 34 = .ok (.iload_n 1, 1) := by decide +kernel
theorem dX1_elements_35 : decode cX1_elements 35 = .ok (.putfield 7, 3) := by decide +kernel
theorem dX1_elements_38 : decode cX1_elements 38 = .ok (.aload_n 0, 1) := by decide +kernel
theorem dX1_elements_39 : decode cX1_elements 39 = .ok (.invokevirtual 35, 3) := by decide +kernel
theorem dX1_elements_42 : decode cX1_elements 42 = .ok (.iload_n 2, 1) := by decide +kernel
theorem dX1_elements_43 : decode cX1_elements 43 = .ok (.ireturn, 1) := by decide +kernel
set_option maxRecDepth 20000 in
theorem ggX1_cover_X1_isElement : GoodIn wsX1_cover wsX1_isElement := goodIn_r _ [7, 8, 9, 10, 6, 11, 15, 16, 17, 18, 19, 20, 21, 22, 23, 24, 25] (by decide +kernel) (by decide +kernel)
set_option maxRecDepth 20000 in
theorem gX1_cover_X1_isElement : GoodIn wsX1_cover (wsV RX1 51 RX1 yX1_isElement wsX1_isElement) := goodIn_app (goodIn_of _ (by decide +kernel)) ggX1_cover_X1_isElement
set_option maxRecDepth 20000 in
theorem ggX1_cover_X1_isIn : GoodIn wsX1_cover wsX1_isIn := goodIn_r _ [11] (by decide +kernel) (by decide +kernel)
set_option maxRecDepth 20000 in
theorem gX1_cover_X1_isIn : GoodIn wsX1_cover (va_wsS RX1 47 yX1_isIn wsX1_isIn) := goodIn_app (goodIn_of _ (by decide +kernel)) ggX1_cover_X1_isIn
set_option maxRecDepth 20000 in
theorem ggX1_cover_X1_has : GoodIn wsX1_cover wsX1_has := goodIn_r _ [14] (by decide +kernel) (by decide +kernel)
set_option maxRecDepth 20000 in
theorem gX1_cover_X1_has : GoodIn wsX1_cover (va_wsS RX1 55 yX1_has wsX1_has) := goodIn_app (goodIn_of _ (by decide +kernel)) ggX1_cover_X1_has
theorem dX1_cover_0 : decode cX1_cover 0 = .ok (.aload_n 0, 1) := by decide +kernel
theorem dX1_cover_1 : decode cX1_cover 1 = .ok (.aload_n 0, 1) := by decide +kernel
theorem dX1_cover_2 : decode cX1_cover 2 = .ok (.iload_n 1, 1) := by decide +kernel
theorem dX1_cover_3 : decode cX1_cover 3 = .ok (.invokevirtual 51, 3) := by decide +kernel
theorem dX1_cover_6 : decode cX1_cover 6 = .ok (.ifCond .eq 17, 3) := by decide +kernel
theorem dX1_cover_9 : decode cX1_cover 9 = .ok (.iload_n 2, 1) := by decide +kernel
theorem dX1_cover_10 : decode cX1_cover 10 = .ok (.iconst 0, 1) := by decide +kernel
theorem dX1_cover_11 : decode cX1_cover 11 = .ok (.bipush 9, 2) := by decide +kernel
theorem dX1_cover_13 : decode cX1_cover 13 = .ok (.invokestatic 47, 3) := by decide +kernel
theorem dX1_cover_16 : decode cX1_cover 16 = .ok (.ifCond .eq 7, 3) := by decide +kernel
theorem dX1_cover_19 : decode cX1_cover 19 = .ok (.iconst 0, 1) := by decide +kernel
theorem dX1_cover_20 : decode cX1_cover 20 = .ok (.goto 4, 3) := by decide +kernel
theorem dX1_cover_23 : decode cX1_cover 23 = .ok (.iconst 1, 1) := by decide +kernel
theorem dX1_cover_24 : decode cX1_cover 24 = .ok (.putfield 44, 3) := by decide +kernel
theorem dX1_cover_27 : decode cX1_cover 27 = .ok (.aload_n 0, 1) := by decide +kernel
theorem dX1_cover_28 : decode cX1_cover 28 = .ok (.getfield 44, 3) := by decide +kernel
theorem dX1_cover_31 : decode cX1_cover 31 = .ok (.ifCond .le 5, 3) := by decide +kernel
theorem dX1_cover_34 : decode cX1_cover 34 = .ok (.iconst 0, 1) := by decide +kernel
theorem dX1_cover_35 : decode cX1_cover 35 = .ok (.ireturn, 1) := by decide +kernel
theorem dX1_cover_36 : decode cX1_cover 36 = .ok (.aload_n 0, 1) := by decide +kernel
theorem dX1_cover_37 : decode cX1_cover 37 = .ok (.getfield 13, 3) := by decide +kernel
theorem dX1_cover_40 : decode cX1_cover 40 = .ok (.iload_n 1, 1) := by decide +kernel
theorem dX1_cover_41 : decode cX1_cover 41 = .ok (.iaload, 1) := by decide +kernel
theorem dX1_cover_42 : decode cX1_cover 42 = .ok (.iload_n 2, 1) := by decide +kernel
theorem dX1_cover_43 : decode cX1_cover 43 = .ok (.invokestatic 55, 3) := by decide +kernel
theorem dX1_cover_46 : decode cX1_cover 46 = .ok (.istore 4, 2) := by decide +kernel
theorem dX1_cover_48 : decode cX1_cover 48 = .ok (.aload_n 0, 1) := by decide +kernel
theorem dX1_cover_49 : decode cX1_cover 49 = .ok (.getfield 13, 3) := by decide +kernel
theorem dX1_cover_52 : decode cX1_cover 52 = .ok (.iload_n 1, 1) := by decide +kernel
theorem dX1_cover_53 : decode cX1_cover 53 = .ok (.iload_n 3, 1) := by decide +kernel
theorem dX1_cover_54 : decode cX1_cover 54 = .ok (.ifCond .eq 16, 3) := by decide +kernel
theorem dX1_cover_57 : decode cX1_cover 57 = .ok (.aload_n 0, 1) := by decide +kernel
theorem dX1_cover_58 : decode cX1_cover 58 = .ok (.getfield 13, 3) := by decide +kernel
theorem dX1_cover_61 : decode cX1_cover 61 = .ok (.iload_n 1, 1) := by decide +kernel
theorem dX1_cover_62 : decode cX1_cover 62 = .ok (.iaload, 1) := by decide +kernel
theorem dX1_cover_63 : decode cX1_cover 63 = .ok (.iconst 1, 1) := by decide +kernel
theorem dX1_cover_64 : decode cX1_cover 64 = .ok (.iload_n 2, 1) := by decide +kernel
theorem dX1_cover_65 : decode cX1_cover 65 = .ok (.ishl, 1) := by decide +kernel
theorem dX1_cover_66 : decode cX1_cover 66 = .ok (.ior, 1) := by decide +kernel
theorem dX1_cover_67 : decode cX1_cover 67 = .ok (.goto 15, 3) := by decide +kernel
theorem dX1_cover_70 : decode cX1_cover 70 = .ok (.aload_n 0, 1) := by decide +kernel
theorem dX1_cover_71 : decode cX1_cover 71 = .ok (.getfield 13, 3) := by decide +kernel
theorem dX1_cover_74 : decode cX1_cover 74 = .ok (.iload_n 1, 1) := by decide +kernel
theorem dX1_cover_75 : decode cX1_cover 75 = .ok (.iaload, 1) := by decide +kernel
theorem dX1_cover_76 : decode cX1_cover 76 = .ok (.iconst 1, 1) := by decide +kernel
theorem dX1_cover_77 : decode cX1_cover 77 = .ok (.iload_n 2, 1) := by decide +kernel
theorem dX1_cover_78 : decode cX1_cover 78 = .ok (.ishl, 1) := by decide +kernel
theorem dX1_cover_79 : decode cX1_cover 79 = .ok (.iconst (-1), 1) := by decide +kernel
theorem dX1_cover_80 : decode cX1_cover 80 = .ok (.ixor, 1) := by decide +kernel
theorem dX1_cover_81 : decode cX1_cover 81 = .ok (.iand, 1) := by decide +kernel
theorem dX1_cover_82 : decode cX1_cover 82 = .ok (.iastore, 1) := by decide +kernel
theorem dX1_cover_83 : decode cX1_cover 83 = .ok (.iload 4, 2) := by decide +kernel
theorem dX1_cover_85 : decode cX1_cover 85 = .ok (.ireturn, 1) := by decide +kernel
set_option maxRecDepth 20000 in
theorem ggX1_edge_X1_isElement : GoodIn wsX1_edge wsX1_isElement := goodIn_r _ [7, 8, 9, 10, 6, 11, 12, 13, 14, 15, 16, 17, 18, 19, 20, 21, 22] (by decide +kernel) (by decide +kernel)
set_option maxRecDepth 20000 in
theorem gX1_edge_X1_isElement : GoodIn wsX1_edge (wsV RX1 51 RX1 yX1_isElement wsX1_isElement) := goodIn_app (goodIn_of _ (by decide +kernel)) ggX1_edge_X1_isElement
set_option maxRecDepth 20000 in
theorem ggX1_edge_X1_isIn : GoodIn wsX1_edge wsX1_isIn := goodIn_r _ [11] (by decide +kernel) (by decide +kernel)
set_option maxRecDepth 20000 in
theorem gX1_edge_X1_isIn : GoodIn wsX1_edge (va_wsS RX1 47 yX1_isIn wsX1_isIn) := goodIn_app (goodIn_of _ (by decide +kernel)) ggX1_edge_X1_isIn
theorem dX1_edge_0 : decode cX1_edge 0 = .ok (.aload_n 0, 1) := by decide +kernel
theorem dX1_edge_1 : decode cX1_edge 1 = .ok (.aload_n 0, 1) := by decide +kernel
theorem dX1_edge_2 : decode cX1_edge 2 = .ok (.iload_n 1, 1) := by decide +kernel
theorem dX1_edge_3 : decode cX1_edge 3 = .ok (.invokevirtual 51, 3) := by decide +kernel
theorem dX1_edge_6 : decode cX1_edge 6 = .ok (.ifCond .eq 11, 3) := by decide +kernel
theorem dX1_edge_9 : decode cX1_edge 9 = .ok (.aload_n 0, 1) := by decide +kernel
theorem dX1_edge_10 : decode cX1_edge 10 = .ok (.iload_n 2, 1) := by decide +kernel
theorem dX1_edge_11 : decode cX1_edge 11 = .ok (.invokevirtual 51, 3) := by decide +kernel
theorem dX1_edge_14 : decode cX1_edge 14 = .ok (.ifCond .ne 7, 3) := by decide +kernel
theorem dX1_edge_17 : decode cX1_edge 17 = .ok (.iconst 1, 1) := by decide +kernel
theorem dX1_edge_18 : decode cX1_edge 18 = .ok (.goto 23, 3) := by decide +kernel
theorem dX1_edge_21 : decode cX1_edge 21 = .ok (.iload_n 1, 1) := by decide +kernel
theorem dX1_edge_22 : decode cX1_edge 22 = .ok (.iload_n 2, 1) := by decide +kernel
theorem dX1_edge_23 : decode cX1_edge 23 = .ok (.if_icmp .eq 13, 3) := by decide +kernel
theorem dX1_edge_26 : decode cX1_edge 26 = .ok (.iload_n 3, 1) := by decide +kernel
theorem dX1_edge_27 : decode cX1_edge 27 = .ok (.iconst 0, 1) := by decide +kernel
theorem dX1_edge_28 : decode cX1_edge 28 = .ok (.bipush 20, 2) := by decide +kernel
theorem dX1_edge_30 : decode cX1_edge 30 = .ok (.invokestatic 47, 3) := by decide +kernel
theorem dX1_edge_33 : decode cX1_edge 33 = .ok (.ifCond .ne 7, 3) := by decide +kernel
theorem dX1_edge_36 : decode cX1_edge 36 = .ok (.iconst 2, 1) := by decide +kernel
theorem dX1_edge_37 : decode cX1_edge 37 = .ok (.goto 4, 3) := by decide +kernel
theorem dX1_edge_40 : decode cX1_edge 40 = .ok (.iconst 0, 1) := by decide +kernel
theorem dX1_edge_41 : decode cX1_edge 41 = .ok (.putfield 44, 3) := by decide +kernel
theorem dX1_edge_44 : decode cX1_edge 44 = .ok (.aload_n 0, 1) := by decide +kernel
theorem dX1_edge_45 : decode cX1_edge 45 = .ok (.getfield 44, 3) := by decide +kernel
theorem dX1_edge_48 : decode cX1_edge 48 = .ok (.ifCond .le 5, 3) := by decide +kernel
theorem dX1_edge_51 : decode cX1_edge 51 = .ok (.iconst 0, 1) := by decide +kernel
theorem dX1_edge_52 : decode cX1_edge 52 = .ok (.ireturn, 1) := by decide +kernel
theorem dX1_edge_53 : decode cX1_edge 53 = .ok (.aload_n 0, 1) := by decide +kernel
theorem dX1_edge_54 : decode cX1_edge 54 = .ok (.getfield 17, 3) := by decide +kernel
theorem dX1_edge_57 : decode cX1_edge 57 = .ok (.bipush 6, 2) := by decide +kernel
theorem dX1_edge_59 : decode cX1_edge 59 = .ok (.iload_n 1, 1) := by decide +kernel
theorem dX1_edge_60 : decode cX1_edge 60 = .ok (.imul, 1) := by decide +kernel
theorem dX1_edge_61 : decode cX1_edge 61 = .ok (.iload_n 2, 1) := by decide +kernel
theorem dX1_edge_62 : decode cX1_edge 62 = .ok (.iadd, 1) := by decide +kernel
theorem dX1_edge_63 : decode cX1_edge 63 = .ok (.iaload, 1) := by decide +kernel
theorem dX1_edge_64 : decode cX1_edge 64 = .ok (.istore 4, 2) := by decide +kernel
theorem dX1_edge_66 : decode cX1_edge 66 = .ok (.aload_n 0, 1) := by decide +kernel
theorem dX1_edge_67 : decode cX1_edge 67 = .ok (.getfield 17, 3) := by decide +kernel
theorem dX1_edge_70 : decode cX1_edge 70 = .ok (.bipush 6, 2) := by decide +kernel
theorem dX1_edge_72 : decode cX1_edge 72 = .ok (.iload_n 1, 1) := by decide +kernel
theorem dX1_edge_73 : decode cX1_edge 73 = .ok (.imul, 1) := by decide +kernel
theorem dX1_edge_74 : decode cX1_edge 74 = .ok (.iload_n 2, 1) := by decide +kernel
theorem dX1_edge_75 : decode cX1_edge 75 = .ok (.iadd, 1) := by decide +kernel
theorem dX1_edge_76 : decode cX1_edge 76 = .ok (.iload_n 3, 1) := by decide +kernel
theorem dX1_edge_77 : decode cX1_edge 77 = .ok (.iastore, 1) := by decide +kernel
theorem dX1_edge_78 : decode cX1_edge 78 = .ok (.aload_n 0, 1) := by decide +kernel
theorem dX1_edge_79 : decode cX1_edge 79 = .ok (.getfield 17, 3) := by decide +kernel
theorem dX1_edge_82 : decode cX1_edge 82 = .ok (.bipush 6, 2) := by decide +kernel
theorem dX1_edge_84 : decode cX1_edge 84 = .ok (.iload_n 2, 1) := by decide +kernel
theorem dX1_edge_85 : decode cX1_edge 85 = .ok (.imul, 1) := by decide +kernel
theorem dX1_edge_86 : decode cX1_edge 86 = .ok (.iload_n 1, 1) := by decide +kernel
theorem dX1_edge_87 : decode cX1_edge 87 = .ok (.iadd, 1) := by decide +kernel
theorem dX1_edge_88 : decode cX1_edge 88 = .ok (.iload_n 3, 1) := by decide +kernel
theorem dX1_edge_89 : decode cX1_edge 89 = .ok (.iastore, 1) := by decide +kernel
theorem dX1_edge_90 : decode cX1_edge 90 = .ok (.iload 4, 2) := by decide +kernel
theorem dX1_edge_92 : decode cX1_edge 92 = .ok (.ireturn, 1) := by decide +kernel
set_option maxRecDepth 20000 in
theorem ggX1_colour_X1_isIn : GoodIn wsX1_colour wsX1_isIn := goodIn_r _ [6] (by decide +kernel) (by decide +kernel)
set_option maxRecDepth 20000 in
theorem gX1_colour_X1_isIn : GoodIn wsX1_colour (va_wsS RX1 47 yX1_isIn wsX1_isIn) := goodIn_app (goodIn_of _ (by decide +kernel)) ggX1_colour_X1_isIn
set_option maxRecDepth 20000 in
theorem ggX1_colour_X1_isElement : GoodIn wsX1_colour wsX1_isElement := goodIn_r _ [10, 11, 3, 4, 5, 6, 12, 13, 14, 15, 16, 17, 18, 19, 20, 21, 22] (by decide +kernel) (by decide +kernel)
set_option maxRecDepth 20000 in
theorem gX1_colour_X1_isElement : GoodIn wsX1_colour (wsV RX1 51 RX1 yX1_isElement wsX1_isElement) := goodIn_app (goodIn_of _ (by decide +kernel)) ggX1_colour_X1_isElement
theorem dX1_colour_0 : decode cX1_colour 0 = .ok (.aload_n 0, 1) := by decide +kernel
theorem dX1_colour_1 : decode cX1_colour 1 = .ok (.iload_n 1, 1) := by decide +kernel
theorem dX1_colour_2 : decode cX1_colour 2 = .ok (.iconst 0, 1) := by decide +kernel
theorem dX1_colour_3 : decode cX1_colour 3 = .ok (.iconst 1, 1) := by decide +kernel
theorem dX1_colour_4 : decode cX1_colour 4 = .ok (.invokestatic 47, 3) := by decide +kernel
theorem dX1_colour_7 : decode cX1_colour 7 = .ok (.ifCond .eq 24, 3) := by decide +kernel
theorem dX1_colour_10 : decode cX1_colour 10 = .ok (.aload_n 0, 1) := by decide +kernel
theorem dX1_colour_11 : decode cX1_colour 11 = .ok (.iload_n 2, 1) := by decide +kernel
theorem dX1_colour_12 : decode cX1_colour 12 = .ok (.invokevirtual 51, 3) := by decide +kernel
theorem dX1_colour_15 : decode cX1_colour 15 = .ok (.ifCond .eq 16, 3) := by decide +kernel
theorem dX1_colour_18 : decode cX1_colour 18 = .ok (.iload_n 3, 1) := by decide +kernel
theorem dX1_colour_19 : decode cX1_colour 19 = .ok (.iconst 0, 1) := by decide +kernel
theorem dX1_colour_20 : decode cX1_colour 20 = .ok (.iconst 5, 1) := by decide +kernel
theorem dX1_colour_21 : decode cX1_colour 21 = .ok (.invokestatic 47, 3) := by decide +kernel
theorem dX1_colour_24 : decode cX1_colour 24 = .ok (.ifCond .eq 7, 3) := by decide +kernel
theorem dX1_colour_27 : decode cX1_colour 27 = .ok (.iconst 0, 1) := by decide +kernel
theorem dX1_colour_28 : decode cX1_colour 28 = .ok (.goto 4, 3) := by decide +kernel
theorem dX1_colour_31 : decode cX1_colour 31 = .ok (.iconst 1, 1) := by decide +kernel
theorem dX1_colour_32 : decode cX1_colour 32 = .ok (.putfield 44, 3) := by decide +kernel
theorem dX1_colour_35 : decode cX1_colour 35 = .ok (.aload_n 0, 1) := by decide +kernel
theorem dX1_colour_36 : decode cX1_colour 36 = .ok (.getfield 44, 3) := by decide +kernel
theorem dX1_colour_39 : decode cX1_colour 39 = .ok (.ifCond .le 5, 3) := by decide +kernel
theorem dX1_colour_42 : decode cX1_colour 42 = .ok (.iconst 0, 1) := by decide +kernel
theorem dX1_colour_43 : decode cX1_colour 43 = .ok (.ireturn, 1) := by decide +kernel
theorem dX1_colour_44 : decode cX1_colour 44 = .ok (.aload_n 0, 1) := by decide +kernel
theorem dX1_colour_45 : decode cX1_colour 45 = .ok (.getfield 20, 3) := by decide +kernel
theorem dX1_colour_48 : decode cX1_colour 48 = .ok (.bipush 6, 2) := by decide +kernel
theorem dX1_colour_50 : decode cX1_colour 50 = .ok (.iload_n 1, 1) := by decide +kernel
theorem dX1_colour_51 : decode cX1_colour 51 = .ok (.imul, 1) := by decide +kernel
theorem dX1_colour_52 : decode cX1_colour 52 = .ok (.iload_n 2, 1) := by decide +kernel
theorem dX1_colour_53 : decode cX1_colour 53 = .ok (.iadd, 1) := by decide +kernel
theorem dX1_colour_54 : decode cX1_colour 54 = .ok (.iaload, 1) := by decide +kernel
theorem dX1_colour_55 : decode cX1_colour 55 = .ok (.istore 4, 2) := by decide +kernel
theorem dX1_colour_57 : decode cX1_colour 57 = .ok (.aload_n 0, 1) := by decide +kernel
theorem dX1_colour_58 : decode cX1_colour 58 = .ok (.getfield 20, 3) := by decide +kernel
theorem dX1_colour_61 : decode cX1_colour 61 = .ok (.bipush 6, 2) := by decide +kernel
theorem dX1_colour_63 : decode cX1_colour 63 = .ok (.iload_n 1, 1) := by decide +kernel
theorem dX1_colour_64 : decode cX1_colour 64 = .ok (.imul, 1) := by decide +kernel
theorem dX1_colour_65 : decode cX1_colour 65 = .ok (.iload_n 2, 1) := by decide +kernel
theorem dX1_colour_66 : decode cX1_colour 66 = .ok (.iadd, 1) := by decide +kernel
theorem dX1_colour_67 : decode cX1_colour 67 = .ok (.iload_n 3, 1) := by decide +kernel
theorem dX1_colour_68 : decode cX1_colour 68 = .ok (.iastore, 1) := by decide +kernel
theorem dX1_colour_69 : decode cX1_colour 69 = .ok (.iload 4, 2) := by decide +kernel
theorem dX1_colour_71 : decode cX1_colour 71 = .ok (.ireturn, 1) := by decide +kernel
set_option maxRecDepth 20000 in
theorem ggX1_room_X1_isIn : GoodIn wsX1_room wsX1_isIn := goodIn_r _ [6] (by decide +kernel) (by decide +kernel)
set_option maxRecDepth 20000 in
theorem gX1_room_X1_isIn : GoodIn wsX1_room (va_wsS RX1 47 yX1_isIn wsX1_isIn) := goodIn_app (goodIn_of _ (by decide +kernel)) ggX1_room_X1_isIn
theorem dX1_room_0 : decode cX1_room 0 = .ok (.aload_n 0, 1) := by decide +kernel
theorem dX1_room_1 : decode cX1_room 1 = .ok (.iload_n 1, 1) := by decide +kernel
theorem dX1_room_2 : decode cX1_room 2 = .ok (.iconst 0, 1) := by decide +kernel
theorem dX1_room_3 : decode cX1_room 3 = .ok (.iconst 1, 1) := by decide +kernel
theorem dX1_room_4 : decode cX1_room 4 = .ok (.invokestatic 47, 3) := by decide +kernel
theorem dX1_room_7 : decode cX1_room 7 = .ok (.ifCond .eq 12, 3) := by decide +kernel
theorem dX1_room_10 : decode cX1_room 10 = .ok (.iload_n 2, 1) := by decide +kernel
theorem dX1_room_11 : decode cX1_room 11 = .ok (.iconst 0, 1) := by decide +kernel
theorem dX1_room_12 : decode cX1_room 12 = .ok (.iconst 5, 1) := by decide +kernel
theorem dX1_room_13 : decode cX1_room 13 = .ok (.invokestatic 47, 3) := by decide +kernel
theorem dX1_room_16 : decode cX1_room 16 = .ok (.ifCond .ne 7, 3) := by decide +kernel
theorem dX1_room_19 : decode cX1_room 19 = .ok (.iconst 1, 1) := by decide +kernel
theorem dX1_room_20 : decode cX1_room 20 = .ok (.goto 18, 3) := by decide +kernel
theorem dX1_room_23 : decode cX1_room 23 = .ok (.iload_n 3, 1) := by decide +kernel
theorem dX1_room_24 : decode cX1_room 24 = .ok (.iconst 0, 1) := by decide +kernel
theorem dX1_room_25 : decode cX1_room 25 = .ok (.bipush 6, 2) := by decide +kernel
theorem dX1_room_27 : decode cX1_room 27 = .ok (.invokestatic 47, 3) := by decide +kernel
theorem dX1_room_30 : decode cX1_room 30 = .ok (.ifCond .ne 7, 3) := by decide +kernel
theorem dX1_room_33 : decode cX1_room 33 = .ok (.iconst 2, 1) := by decide +kernel
theorem dX1_room_34 : decode cX1_room 34 = .ok (.goto 4, 3) := by decide +kernel
theorem dX1_room_37 : decode cX1_room 37 = .ok (.iconst 0, 1) := by decide +kernel
theorem dX1_room_38 : decode cX1_room 38 = .ok (.putfield 44, 3) := by decide +kernel
theorem dX1_room_41 : decode cX1_room 41 = .ok (.aload_n 0, 1) := by decide +kernel
theorem dX1_room_42 : decode cX1_room 42 = .ok (.getfield 44, 3) := by decide +kernel
theorem dX1_room_45 : decode cX1_room 45 = .ok (.ifCond .le 5, 3) := by decide +kernel
theorem dX1_room_48 : decode cX1_room 48 = .ok (.iconst 0, 1) := by decide +kernel
theorem dX1_room_49 : decode cX1_room 49 = .ok (.ireturn, 1) := by decide +kernel
theorem dX1_room_50 : decode cX1_room 50 = .ok (.aload_n 0, 1) := by decide +kernel
theorem dX1_room_51 : decode cX1_room 51 = .ok (.getfield 23, 3) := by decide +kernel
theorem dX1_room_54 : decode cX1_room 54 = .ok (.bipush 6, 2) := by decide +kernel
theorem dX1_room_56 : decode cX1_room 56 = .ok (.iload_n 1, 1) := by decide +kernel
theorem dX1_room_57 : decode cX1_room 57 = .ok (.imul, 1) := by decide +kernel
theorem dX1_room_58 : decode cX1_room 58 = .ok (.iload_n 2, 1) := by decide +kernel
theorem dX1_room_59 : decode cX1_room 59 = .ok (.iadd, 1) := by decide +kernel
theorem dX1_room_60 : decode cX1_room 60 = .ok (.iaload, 1) := by decide +kernel
theorem dX1_room_61 : decode cX1_room 61 = .ok (.istore 4, 2) := by decide +kernel
theorem dX1_room_63 : decode cX1_room 63 = .ok (.aload_n 0, 1) := by decide +kernel
theorem dX1_room_64 : decode cX1_room 64 = .ok (.getfield 23, 3) := by decide +kernel
theorem dX1_room_67 : decode cX1_room 67 = .ok (.bipush 6, 2) := by decide +kernel
theorem dX1_room_69 : decode cX1_room 69 = .ok (.iload_n 1, 1) := by decide +kernel
theorem dX1_room_70 : decode cX1_room 70 = .ok (.imul, 1) := by decide +kernel
theorem dX1_room_71 : decode cX1_room 71 = .ok (.iload_n 2, 1) := by decide +kernel
theorem dX1_room_72 : decode cX1_room 72 = .ok (.iadd, 1) := by decide +kernel
theorem dX1_room_73 : decode cX1_room 73 = .ok (.iload_n 3, 1) := by decide +kernel
theorem dX1_room_74 : decode cX1_room 74 = .ok (.iastore, 1) := by decide +kernel
theorem dX1_room_75 : decode cX1_room 75 = .ok (.iload 4, 2) := by decide +kernel
theorem dX1_room_77 : decode cX1_room 77 = .ok (.ireturn, 1) := by decide +kernel
set_option maxRecDepth 20000 in
theorem ggX1_weigh_X1_isElement : GoodIn wsX1_weigh wsX1_isElement := goodIn_r _ [7, 8, 9, 10, 6, 11, 12, 13, 14, 15, 16, 17, 18, 19, 20, 21, 22] (by decide +kernel) (by decide +kernel)
set_option maxRecDepth 20000 in
theorem gX1_weigh_X1_isElement : GoodIn wsX1_weigh (wsV RX1 51 RX1 yX1_isElement wsX1_isElement) := goodIn_app (goodIn_of _ (by decide +kernel)) ggX1_weigh_X1_isElement
set_option maxRecDepth 20000 in
theorem ggX1_weigh_X1_isIn : GoodIn wsX1_weigh wsX1_isIn := goodIn_r _ [11] (by decide +kernel) (by decide +kernel)
set_option maxRecDepth 20000 in
theorem gX1_weigh_X1_isIn : GoodIn wsX1_weigh (va_wsS RX1 47 yX1_isIn wsX1_isIn) := goodIn_app (goodIn_of _ (by decide +kernel)) ggX1_weigh_X1_isIn
theorem dX1_weigh_0 : decode cX1_weigh 0 = .ok (.aload_n 0, 1) := by decide +kernel
theorem dX1_weigh_1 : decode cX1_weigh 1 = .ok (.aload_n 0, 1) := by decide +kernel
theorem dX1_weigh_2 : decode cX1_weigh 2 = .ok (.iload_n 1, 1) := by decide +kernel
theorem dX1_weigh_3 : decode cX1_weigh 3 = .ok (.invokevirtual 51, 3) := by decide +kernel
theorem dX1_weigh_6 : decode cX1_weigh 6 = .ok (.ifCond .ne 7, 3) := by decide +kernel
theorem dX1_weigh_9 : decode cX1_weigh 9 = .ok (.iconst 1, 1) := by decide +kernel
theorem dX1_weigh_10 : decode cX1_weigh 10 = .ok (.goto 19, 3) := by decide +kernel
theorem dX1_weigh_13 : decode cX1_weigh 13 = .ok (.iload_n 2, 1) := by decide +kernel
theorem dX1_weigh_14 : decode cX1_weigh 14 = .ok (.bipush (-20), 2) := by decide +kernel
theorem dX1_weigh_16 : decode cX1_weigh 16 = .ok (.bipush 20, 2) := by decide +kernel
theorem dX1_weigh_18 : decode cX1_weigh 18 = .ok (.invokestatic 47, 3) := by decide +kernel
theorem dX1_weigh_21 : decode cX1_weigh 21 = .ok (.ifCond .ne 7, 3) := by decide +kernel
theorem dX1_weigh_24 : decode cX1_weigh 24 = .ok (.iconst 2, 1) := by decide +kernel
theorem dX1_weigh_25 : decode cX1_weigh 25 = .ok (.goto 4, 3) := by decide +kernel
theorem dX1_weigh_28 : decode cX1_weigh 28 = .ok (.iconst 0, 1) := by decide +kernel
theorem dX1_weigh_29 : decode cX1_weigh 29 = .ok (.putfield 44, 3) := by decide +kernel
theorem dX1_weigh_32 : decode cX1_weigh 32 = .ok (.aload_n 0, 1) := by decide +kernel
theorem dX1_weigh_33 : decode cX1_weigh 33 = .ok (.getfield 44, 3) := by decide +kernel
theorem dX1_weigh_36 : decode cX1_weigh 36 = .ok (.ifCond .le 5, 3) := by decide +kernel
theorem dX1_weigh_39 : decode cX1_weigh 39 = .ok (.iconst 0, 1) := by decide +kernel
theorem dX1_weigh_40 : decode cX1_weigh 40 = .ok (.ireturn, 1) := by decide +kernel
theorem dX1_weigh_41 : decode cX1_weigh 41 = .ok (.aload_n 0, 1) := by decide +kernel
theorem dX1_weigh_42 : decode cX1_weigh 42 = .ok (.getfield 26, 3) := by decide +kernel
theorem dX1_weigh_45 : decode cX1_weigh 45 = .ok (.iload_n 1, 1) := by decide +kernel
theorem dX1_weigh_46 : decode cX1_weigh 46 = .ok (.iaload, 1) := by decide +kernel
theorem dX1_weigh_47 : decode cX1_weigh 47 = .ok (.istore_n 3, 1) := by decide +kernel
theorem dX1_weigh_48 : decode cX1_weigh 48 = .ok (.aload_n 0, 1) := by decide +kernel
theorem dX1_weigh_49 : decode cX1_weigh 49 = .ok (.getfield 26, 3) := by decide +kernel
theorem dX1_weigh_52 : decode cX1_weigh 52 = .ok (.iload_n 1, 1) := by decide +kernel
theorem dX1_weigh_53 : decode cX1_weigh 53 = .ok (.iload_n 2, 1) := by decide +kernel
theorem dX1_weigh_54 : decode cX1_weigh 54 = .ok (.iastore, 1) := by decide +kernel
theorem dX1_weigh_55 : decode cX1_weigh 55 = .ok (.iload_n 3, 1) := by decide +kernel
theorem dX1_weigh_56 : decode cX1_weigh 56 = .ok (.ireturn, 1) := by decide +kernel
set_option maxRecDepth 20000 in
theorem ggX1_covered_X1_has : GoodIn wsX1_covered wsX1_has := goodIn_r _ [6] (by decide +kernel) (by decide +kernel)
set_option maxRecDepth 20000 in
theorem gX1_covered_X1_has : GoodIn wsX1_covered (va_wsS RX1 55 yX1_has wsX1_has) := goodIn_app (goodIn_of _ (by decide +kernel)) ggX1_covered_X1_has
set_option maxRecDepth 20000 in
theorem ggX1_covered_X1_many : GoodIn wsX1_covered wsX1_many := goodIn_r _ [9] (by decide +kernel) (by decide +kernel)
set_option maxRecDepth 20000 in
theorem gX1_covered_X1_many : GoodIn wsX1_covered (va_wsS RX1 59 yX1_many wsX1_many) := goodIn_app (goodIn_of _ (by decide +kernel)) ggX1_covered_X1_many
theorem dX1_covered_0 : decode cX1_covered 0 = .ok (.iconst 0, 1) := by decide +kernel
theorem dX1_covered_1 : decode cX1_covered 1 = .ok (.istore_n 2, 1) := by decide +kernel
theorem dX1_covered_2 : decode cX1_covered 2 = .ok (.iconst 0, 1) := by decide +kernel
theorem dX1_covered_3 : decode cX1_covered 3 = .ok (.istore_n 3, 1) := by decide +kernel
theorem dX1_covered_4 : decode cX1_covered 4 = .ok (.iload_n 3, 1) := by decide +kernel
theorem dX1_covered_5 : decode cX1_covered 5 = .ok (.aload_n 0, 1) := by decide +kernel
theorem dX1_covered_6 : decode cX1_covered 6 = .ok (.getfield 7, 3) := by decide +kernel
theorem dX1_covered_9 : decode cX1_covered 9 = .ok (.if_icmp .ge 30, 3) := by decide +kernel
theorem dX1_covered_12 : decode cX1_covered 12 = .ok (.iload_n 2, 1) := by decide +kernel
theorem dX1_covered_13 : decode cX1_covered 13 = .ok (.iload_n 1, 1) := by decide +kernel
theorem dX1_covered_14 : decode cX1_covered 14 = .ok (.iload_n 3, 1) := by decide +kernel
theorem dX1_covered_15 : decode cX1_covered 15 = .ok (.invokestatic 55, 3) := by decide +kernel
theorem dX1_covered_18 : decode cX1_covered 18 = .ok (.ifCond .eq 12, 3) := by decide +kernel
theorem dX1_covered_21 : decode cX1_covered 21 = .ok (.aload_n 0, 1) := by decide +kernel
theorem dX1_covered_22 : decode cX1_covered 22 = .ok (.getfield 13, 3) := by decide +kernel
theorem dX1_covered_25 : decode cX1_covered 25 = .ok (.iload_n 3, 1) := by decide +kernel
theorem dX1_covered_26 : decode cX1_covered 26 = .ok (.iaload, 1) := by decide +kernel
theorem dX1_covered_27 : decode cX1_covered 27 = .ok (.goto 4, 3) := by decide +kernel
theorem dX1_covered_30 : decode cX1_covered 30 = .ok (.iconst 0, 1) := by decide +kernel
theorem dX1_covered_31 : decode cX1_covered 31 = .ok (.ior, 1) := by decide +kernel
theorem dX1_covered_32 : decode cX1_covered 32 = .ok (.istore_n 2, 1) := by decide +kernel
theorem dX1_covered_33 : decode cX1_covered 33 = .ok (.iinc 3 1, 3) := by decide +kernel
theorem dX1_covered_36 : decode cX1_covered 36 = .ok (.goto (-32), 3) := by decide +kernel
theorem dX1_covered_39 : decode cX1_covered 39 = .ok (.iload_n 2, 1) := by decide +kernel
theorem dX1_covered_40 : decode cX1_covered 40 = .ok (.invokestatic 59, 3) := by decide +kernel
theorem dX1_covered_43 : decode cX1_covered 43 = .ok (.ireturn, 1) := by decide +kernel
set_option maxRecDepth 20000 in
theorem ggX1_cutBy_X1_has : GoodIn wsX1_cutBy wsX1_has := goodIn_r _ [6] (by decide +kernel) (by decide +kernel)
set_option maxRecDepth 20000 in
theorem gX1_cutBy_X1_has : GoodIn wsX1_cutBy (va_wsS RX1 55 yX1_has wsX1_has) := goodIn_app (goodIn_of _ (by decide +kernel)) ggX1_cutBy_X1_has
theorem dX1_cutBy_0 : decode cX1_cutBy 0 = .ok (.iconst 0, 1) := by decide +kernel
theorem dX1_cutBy_1 : decode cX1_cutBy 1 = .ok (.istore_n 2, 1) := by decide +kernel
theorem dX1_cutBy_2 : decode cX1_cutBy 2 = .ok (.iconst 0, 1) := by decide +kernel
theorem dX1_cutBy_3 : decode cX1_cutBy 3 = .ok (.istore_n 3, 1) := by decide +kernel
theorem dX1_cutBy_4 : decode cX1_cutBy 4 = .ok (.iload_n 3, 1) := by decide +kernel
theorem dX1_cutBy_5 : decode cX1_cutBy 5 = .ok (.aload_n 0, 1) := by decide +kernel
theorem dX1_cutBy_6 : decode cX1_cutBy 6 = .ok (.getfield 7, 3) := by decide +kernel
theorem dX1_cutBy_9 : decode cX1_cutBy 9 = .ok (.if_icmp .ge 63, 3) := by decide +kernel
theorem dX1_cutBy_12 : decode cX1_cutBy 12 = .ok (.iconst 0, 1) := by decide +kernel
theorem dX1_cutBy_13 : decode cX1_cutBy 13 = .ok (.istore 4, 2) := by decide +kernel
theorem dX1_cutBy_15 : decode cX1_cutBy 15 = .ok (.iload 4, 2) := by decide +kernel
theorem dX1_cutBy_17 : decode cX1_cutBy 17 = .ok (.aload_n 0, 1) := by decide +kernel
theorem dX1_cutBy_18 : decode cX1_cutBy 18 = .ok (.getfield 7, 3) := by decide +kernel
theorem dX1_cutBy_21 : decode cX1_cutBy 21 = .ok (.if_icmp .ge 45, 3) := by decide +kernel
theorem dX1_cutBy_24 : decode cX1_cutBy 24 = .ok (.iload_n 2, 1) := by decide +kernel
theorem dX1_cutBy_25 : decode cX1_cutBy 25 = .ok (.iload_n 1, 1) := by decide +kernel
theorem dX1_cutBy_26 : decode cX1_cutBy 26 = .ok (.iload_n 3, 1) := by decide +kernel
theorem dX1_cutBy_27 : decode cX1_cutBy 27 = .ok (.invokestatic 55, 3) := by decide +kernel
theorem dX1_cutBy_30 : decode cX1_cutBy 30 = .ok (.ifCond .eq 27, 3) := by decide +kernel
theorem dX1_cutBy_33 : decode cX1_cutBy 33 = .ok (.iload_n 1, 1) := by decide +kernel
theorem dX1_cutBy_34 : decode cX1_cutBy 34 = .ok (.iload 4, 2) := by decide +kernel
theorem dX1_cutBy_36 : decode cX1_cutBy 36 = .ok (.invokestatic 55, 3) := by decide +kernel
theorem dX1_cutBy_39 : decode cX1_cutBy 39 = .ok (.ifCond .ne 18, 3) := by decide +kernel
theorem dX1_cutBy_42 : decode cX1_cutBy 42 = .ok (.aload_n 0, 1) := by decide +kernel
theorem dX1_cutBy_43 : decode cX1_cutBy 43 = .ok (.getfield 17, 3) := by decide +kernel
theorem dX1_cutBy_46 : decode cX1_cutBy 46 = .ok (.bipush 6, 2) := by decide +kernel
theorem dX1_cutBy_48 : decode cX1_cutBy 48 = .ok (.iload_n 3, 1) := by decide +kernel
theorem dX1_cutBy_49 : decode cX1_cutBy 49 = .ok (.imul, 1) := by decide +kernel
theorem dX1_cutBy_50 : decode cX1_cutBy 50 = .ok (.iload 4, 2) := by decide +kernel
theorem dX1_cutBy_52 : decode cX1_cutBy 52 = .ok (.iadd, 1) := by decide +kernel
theorem dX1_cutBy_53 : decode cX1_cutBy 53 = .ok (.iaload, 1) := by decide +kernel
theorem dX1_cutBy_54 : decode cX1_cutBy 54 = .ok (.goto 4, 3) := by decide +kernel
theorem dX1_cutBy_57 : decode cX1_cutBy 57 = .ok (.iconst 0, 1) := by decide +kernel
theorem dX1_cutBy_58 : decode cX1_cutBy 58 = .ok (.iadd, 1) := by decide +kernel
theorem dX1_cutBy_59 : decode cX1_cutBy 59 = .ok (.istore_n 2, 1) := by decide +kernel
theorem dX1_cutBy_60 : decode cX1_cutBy 60 = .ok (.iinc 4 1, 3) := by decide +kernel
theorem dX1_cutBy_63 : decode cX1_cutBy 63 = .ok (.goto (-48), 3) := by decide +kernel
theorem dX1_cutBy_66 : decode cX1_cutBy 66 = .ok (.iinc 3 1, 3) := by decide +kernel
theorem dX1_cutBy_69 : decode cX1_cutBy 69 = .ok (.goto (-65), 3) := by decide +kernel
theorem dX1_cutBy_72 : decode cX1_cutBy 72 = .ok (.iload_n 2, 1) := by decide +kernel
theorem dX1_cutBy_73 : decode cX1_cutBy 73 = .ok (.ireturn, 1) := by decide +kernel
set_option maxRecDepth 20000 in
theorem ggX1_ofColour_X1_has : GoodIn wsX1_ofColour wsX1_has := goodIn_r _ [6] (by decide +kernel) (by decide +kernel)
set_option maxRecDepth 20000 in
theorem gX1_ofColour_X1_has : GoodIn wsX1_ofColour (va_wsS RX1 55 yX1_has wsX1_has) := goodIn_app (goodIn_of _ (by decide +kernel)) ggX1_ofColour_X1_has
theorem dX1_ofColour_0 : decode cX1_ofColour 0 = .ok (.iconst 0, 1) := by decide +kernel
theorem dX1_ofColour_1 : decode cX1_ofColour 1 = .ok (.istore 4, 2) := by decide +kernel
theorem dX1_ofColour_3 : decode cX1_ofColour 3 = .ok (.iconst 0, 1) := by decide +kernel
theorem dX1_ofColour_4 : decode cX1_ofColour 4 = .ok (.istore 5, 2) := by decide +kernel
theorem dX1_ofColour_6 : decode cX1_ofColour 6 = .ok (.iload 5, 2) := by decide +kernel
theorem dX1_ofColour_8 : decode cX1_ofColour 8 = .ok (.aload_n 0, 1) := by decide +kernel
theorem dX1_ofColour_9 : decode cX1_ofColour 9 = .ok (.getfield 7, 3) := by decide +kernel
theorem dX1_ofColour_12 : decode cX1_ofColour 12 = .ok (.if_icmp .ge 44, 3) := by decide +kernel
theorem dX1_ofColour_15 : decode cX1_ofColour 15 = .ok (.iload 4, 2) := by decide +kernel
theorem dX1_ofColour_17 : decode cX1_ofColour 17 = .ok (.iload_n 3, 1) := by decide +kernel
theorem dX1_ofColour_18 : decode cX1_ofColour 18 = .ok (.iload 5, 2) := by decide +kernel
theorem dX1_ofColour_20 : decode cX1_ofColour 20 = .ok (.invokestatic 55, 3) := by decide +kernel
theorem dX1_ofColour_23 : decode cX1_ofColour 23 = .ok (.ifCond .eq 23, 3) := by decide +kernel
theorem dX1_ofColour_26 : decode cX1_ofColour 26 = .ok (.aload_n 0, 1) := by decide +kernel
theorem dX1_ofColour_27 : decode cX1_ofColour 27 = .ok (.getfield 20, 3) := by decide +kernel
theorem dX1_ofColour_30 : decode cX1_ofColour 30 = .ok (.bipush 6, 2) := by decide +kernel
theorem dX1_ofColour_32 : decode cX1_ofColour 32 = .ok (.iload_n 1, 1) := by decide +kernel
theorem dX1_ofColour_33 : decode cX1_ofColour 33 = .ok (.imul, 1) := by decide +kernel
theorem dX1_ofColour_34 : decode cX1_ofColour 34 = .ok (.iload 5, 2) := by decide +kernel
theorem dX1_ofColour_36 : decode cX1_ofColour 36 = .ok (.iadd, 1) := by decide +kernel
theorem dX1_ofColour_37 : decode cX1_ofColour 37 = .ok (.iaload, 1) := by decide +kernel
theorem dX1_ofColour_38 : decode cX1_ofColour 38 = .ok (.iload_n 2, 1) := by decide +kernel
theorem dX1_ofColour_39 : decode cX1_ofColour 39 = .ok (.if_icmp .ne 7, 3) := by decide +kernel
theorem dX1_ofColour_42 : decode cX1_ofColour 42 = .ok (.iconst 1, 1) := by decide +kernel
theorem dX1_ofColour_43 : decode cX1_ofColour 43 = .ok (.goto 4, 3) := by decide +kernel
theorem dX1_ofColour_46 : decode cX1_ofColour 46 = .ok (.iconst 0, 1) := by decide +kernel
theorem dX1_ofColour_47 : decode cX1_ofColour 47 = .ok (.iadd, 1) := by decide +kernel
theorem dX1_ofColour_48 : decode cX1_ofColour 48 = .ok (.istore 4, 2) := by decide +kernel
theorem dX1_ofColour_50 : decode cX1_ofColour 50 = .ok (.iinc 5 1, 3) := by decide +kernel
theorem dX1_ofColour_53 : decode cX1_ofColour 53 = .ok (.goto (-47), 3) := by decide +kernel
theorem dX1_ofColour_56 : decode cX1_ofColour 56 = .ok (.iload 4, 2) := by decide +kernel
theorem dX1_ofColour_58 : decode cX1_ofColour 58 = .ok (.ireturn, 1) := by decide +kernel
set_option maxRecDepth 20000 in
theorem ggX1_rank_X1_ofColour : GoodIn wsX1_rank wsX1_ofColour := goodIn_r _ [6, 7, 8, 9, 10, 5, 11, 12, 13, 14, 15, 16, 17, 18, 19, 20, 21, 22] (by decide +kernel) (by decide +kernel)
set_option maxRecDepth 20000 in
theorem gX1_rank_X1_ofColour : GoodIn wsX1_rank (wsV RX1 63 RX1 yX1_ofColour wsX1_ofColour) := goodIn_app (goodIn_of _ (by decide +kernel)) ggX1_rank_X1_ofColour
theorem dX1_rank_0 : decode cX1_rank 0 = .ok (.iconst 0, 1) := by decide +kernel
theorem dX1_rank_1 : decode cX1_rank 1 = .ok (.istore_n 3, 1) := by decide +kernel
theorem dX1_rank_2 : decode cX1_rank 2 = .ok (.iconst 0, 1) := by decide +kernel
theorem dX1_rank_3 : decode cX1_rank 3 = .ok (.istore 4, 2) := by decide +kernel
theorem dX1_rank_5 : decode cX1_rank 5 = .ok (.iload 4, 2) := by decide +kernel
theorem dX1_rank_7 : decode cX1_rank 7 = .ok (.bipush 6, 2) := by decide +kernel
theorem dX1_rank_9 : decode cX1_rank 9 = .ok (.if_icmp .ge 56, 3) := by decide +kernel
theorem dX1_rank_12 : decode cX1_rank 12 = .ok (.aload_n 0, 1) := by decide +kernel
theorem dX1_rank_13 : decode cX1_rank 13 = .ok (.iload_n 1, 1) := by decide +kernel
theorem dX1_rank_14 : decode cX1_rank 14 = .ok (.iload 4, 2) := by decide +kernel
theorem dX1_rank_16 : decode cX1_rank 16 = .ok (.iload_n 2, 1) := by decide +kernel
theorem dX1_rank_17 : decode cX1_rank 17 = .ok (.invokevirtual 63, 3) := by decide +kernel
theorem dX1_rank_20 : decode cX1_rank 20 = .ok (.istore 5, 2) := by decide +kernel
theorem dX1_rank_22 : decode cX1_rank 22 = .ok (.iload_n 3, 1) := by decide +kernel
theorem dX1_rank_23 : decode cX1_rank 23 = .ok (.iload 5, 2) := by decide +kernel
theorem dX1_rank_25 : decode cX1_rank 25 = .ok (.aload_n 0, 1) := by decide +kernel
theorem dX1_rank_26 : decode cX1_rank 26 = .ok (.getfield 23, 3) := by decide +kernel
theorem dX1_rank_29 : decode cX1_rank 29 = .ok (.bipush 6, 2) := by decide +kernel
theorem dX1_rank_31 : decode cX1_rank 31 = .ok (.iload_n 1, 1) := by decide +kernel
theorem dX1_rank_32 : decode cX1_rank 32 = .ok (.imul, 1) := by decide +kernel
theorem dX1_rank_33 : decode cX1_rank 33 = .ok (.iload 4, 2) := by decide +kernel
theorem dX1_rank_35 : decode cX1_rank 35 = .ok (.iadd, 1) := by decide +kernel
theorem dX1_rank_36 : decode cX1_rank 36 = .ok (.iaload, 1) := by decide +kernel
theorem dX1_rank_37 : decode cX1_rank 37 = .ok (.if_icmp .ge 8, 3) := by decide +kernel
theorem dX1_rank_40 : decode cX1_rank 40 = .ok (.iload 5, 2) := by decide +kernel
theorem dX1_rank_42 : decode cX1_rank 42 = .ok (.goto 15, 3) := by decide +kernel
theorem dX1_rank_45 : decode cX1_rank 45 = .ok (.aload_n 0, 1) := by decide +kernel
theorem dX1_rank_46 : decode cX1_rank 46 = .ok (.getfield 23, 3) := by decide +kernel
theorem dX1_rank_49 : decode cX1_rank 49 = .ok (.bipush 6, 2) := by decide +kernel
theorem dX1_rank_51 : decode cX1_rank 51 = .ok (.iload_n 1, 1) := by decide +kernel
theorem dX1_rank_52 : decode cX1_rank 52 = .ok (.imul, 1) := by decide +kernel
theorem dX1_rank_53 : decode cX1_rank 53 = .ok (.iload 4, 2) := by decide +kernel
theorem dX1_rank_55 : decode cX1_rank 55 = .ok (.iadd, 1) := by decide +kernel
theorem dX1_rank_56 : decode cX1_rank 56 = .ok (.iaload, 1) := by decide +kernel
theorem dX1_rank_57 : decode cX1_rank 57 = .ok (.iadd, 1) := by decide +kernel
theorem dX1_rank_58 : decode cX1_rank 58 = .ok (.istore_n 3, 1) := by decide +kernel
theorem dX1_rank_59 : decode cX1_rank 59 = .ok (.iinc 4 1, 3) := by decide +kernel
theorem dX1_rank_62 : decode cX1_rank 62 = .ok (.goto (-57), 3) := by decide +kernel
theorem dX1_rank_65 : decode cX1_rank 65 = .ok (.iload_n 3, 1) := by decide +kernel
theorem dX1_rank_66 : decode cX1_rank 66 = .ok (.ireturn, 1) := by decide +kernel
set_option maxRecDepth 20000 in
theorem ggX1_weight_X1_has : GoodIn wsX1_weight wsX1_has := goodIn_r _ [6] (by decide +kernel) (by decide +kernel)
set_option maxRecDepth 20000 in
theorem gX1_weight_X1_has : GoodIn wsX1_weight (va_wsS RX1 55 yX1_has wsX1_has) := goodIn_app (goodIn_of _ (by decide +kernel)) ggX1_weight_X1_has
theorem dX1_weight_0 : decode cX1_weight 0 = .ok (.iconst 0, 1) := by decide +kernel
theorem dX1_weight_1 : decode cX1_weight 1 = .ok (.istore_n 2, 1) := by decide +kernel
theorem dX1_weight_2 : decode cX1_weight 2 = .ok (.iconst 0, 1) := by decide +kernel
theorem dX1_weight_3 : decode cX1_weight 3 = .ok (.istore_n 3, 1) := by decide +kernel
theorem dX1_weight_4 : decode cX1_weight 4 = .ok (.iload_n 3, 1) := by decide +kernel
theorem dX1_weight_5 : decode cX1_weight 5 = .ok (.aload_n 0, 1) := by decide +kernel
theorem dX1_weight_6 : decode cX1_weight 6 = .ok (.getfield 7, 3) := by decide +kernel
theorem dX1_weight_9 : decode cX1_weight 9 = .ok (.if_icmp .ge 30, 3) := by decide +kernel
theorem dX1_weight_12 : decode cX1_weight 12 = .ok (.iload_n 2, 1) := by decide +kernel
theorem dX1_weight_13 : decode cX1_weight 13 = .ok (.iload_n 1, 1) := by decide +kernel
theorem dX1_weight_14 : decode cX1_weight 14 = .ok (.iload_n 3, 1) := by decide +kernel
theorem dX1_weight_15 : decode cX1_weight 15 = .ok (.invokestatic 55, 3) := by decide +kernel
theorem dX1_weight_18 : decode cX1_weight 18 = .ok (.ifCond .eq 12, 3) := by decide +kernel
theorem dX1_weight_21 : decode cX1_weight 21 = .ok (.aload_n 0, 1) := by decide +kernel
theorem dX1_weight_22 : decode cX1_weight 22 = .ok (.getfield 26, 3) := by decide +kernel
theorem dX1_weight_25 : decode cX1_weight 25 = .ok (.iload_n 3, 1) := by decide +kernel
theorem dX1_weight_26 : decode cX1_weight 26 = .ok (.iaload, 1) := by decide +kernel
theorem dX1_weight_27 : decode cX1_weight 27 = .ok (.goto 4, 3) := by decide +kernel
theorem dX1_weight_30 : decode cX1_weight 30 = .ok (.iconst 0, 1) := by decide +kernel
theorem dX1_weight_31 : decode cX1_weight 31 = .ok (.iadd, 1) := by decide +kernel
theorem dX1_weight_32 : decode cX1_weight 32 = .ok (.istore_n 2, 1) := by decide +kernel
theorem dX1_weight_33 : decode cX1_weight 33 = .ok (.iinc 3 1, 3) := by decide +kernel
theorem dX1_weight_36 : decode cX1_weight 36 = .ok (.goto (-32), 3) := by decide +kernel
theorem dX1_weight_39 : decode cX1_weight 39 = .ok (.iload_n 2, 1) := by decide +kernel
theorem dX1_weight_40 : decode cX1_weight 40 = .ok (.ireturn, 1) := by decide +kernel
set_option maxRecDepth 20000 in
theorem ggX1_make_X1_isIn : GoodIn wsX1_make wsX1_isIn := goodIn_r _ [7] (by decide +kernel) (by decide +kernel)
set_option maxRecDepth 20000 in
theorem gX1_make_X1_isIn : GoodIn wsX1_make (va_wsS RX1 47 yX1_isIn wsX1_isIn) := goodIn_app (goodIn_of _ (by decide +kernel)) ggX1_make_X1_isIn
set_option maxRecDepth 20000 in
theorem ggX1_make_X1_isSet : GoodIn wsX1_make wsX1_isSet := goodIn_r _ [11, 12, 4, 5, 6, 7, 44, 45, 46, 47, 48, 49, 50, 51, 52, 53, 54] (by decide +kernel) (by decide +kernel)
set_option maxRecDepth 20000 in
theorem gX1_make_X1_isSet : GoodIn wsX1_make (wsV RX1 67 RX1 yX1_isSet wsX1_isSet) := goodIn_app (goodIn_of _ (by decide +kernel)) ggX1_make_X1_isSet
set_option maxRecDepth 20000 in
theorem ggX1_make_X1_covered : GoodIn wsX1_make wsX1_covered := goodIn_r _ [16, 12, 17, 18, 19, 6, 20, 21, 22, 23, 44, 45, 46, 47, 48, 49, 50, 51, 52, 53, 54] (by decide +kernel) (by decide +kernel)
set_option maxRecDepth 20000 in
theorem gX1_make_X1_covered : GoodIn wsX1_make (wsV RX1 70 RX1 yX1_covered wsX1_covered) := goodIn_app (goodIn_of _ (by decide +kernel)) ggX1_make_X1_covered
set_option maxRecDepth 20000 in
theorem ggX1_make_X1_cutBy : GoodIn wsX1_make wsX1_cutBy := goodIn_r _ [27, 12, 28, 18, 19, 6, 20, 44, 45, 46, 47, 48, 49, 50, 51, 52, 53, 54] (by decide +kernel) (by decide +kernel)
set_option maxRecDepth 20000 in
theorem gX1_make_X1_cutBy : GoodIn wsX1_make (wsV RX1 73 RX1 yX1_cutBy wsX1_cutBy) := goodIn_app (goodIn_of _ (by decide +kernel)) ggX1_make_X1_cutBy
set_option maxRecDepth 20000 in
theorem ggX1_make_X1_weight : GoodIn wsX1_make wsX1_weight := goodIn_r _ [32, 12, 33, 18, 19, 6, 20, 44, 45, 46, 47, 48, 49, 50, 51, 52, 53, 54] (by decide +kernel) (by decide +kernel)
set_option maxRecDepth 20000 in
theorem gX1_make_X1_weight : GoodIn wsX1_make (wsV RX1 76 RX1 yX1_weight wsX1_weight) := goodIn_app (goodIn_of _ (by decide +kernel)) ggX1_make_X1_weight
set_option maxRecDepth 20000 in
theorem ggX1_make_X1_rank : GoodIn wsX1_make wsX1_rank := goodIn_r _ [37, 38, 39, 40, 41, 6, 42, 12, 43, 18, 19, 20, 44, 45, 46, 47, 48, 49, 50, 51, 52, 53, 54] (by decide +kernel) (by decide +kernel)
set_option maxRecDepth 20000 in
theorem gX1_make_X1_rank : GoodIn wsX1_make (wsV RX1 79 RX1 yX1_rank wsX1_rank) := goodIn_app (goodIn_of _ (by decide +kernel)) ggX1_make_X1_rank
theorem dX1_make_0 : decode cX1_make 0 = .ok (.aload_n 0, 1) := by decide +kernel
theorem dX1_make_1 : decode cX1_make 1 = .ok (.iload_n 1, 1) := by decide +kernel
theorem dX1_make_2 : decode cX1_make 2 = .ok (.iconst 0, 1) := by decide +kernel
theorem dX1_make_3 : decode cX1_make 3 = .ok (.iconst 4, 1) := by decide +kernel
theorem dX1_make_4 : decode cX1_make 4 = .ok (.invokestatic 47, 3) := by decide +kernel
theorem dX1_make_7 : decode cX1_make 7 = .ok (.ifCond .ne 7, 3) := by decide +kernel
theorem dX1_make_10 : decode cX1_make 10 = .ok (.iconst 1, 1) := by decide +kernel
theorem dX1_make_11 : decode cX1_make 11 = .ok (.goto 17, 3) := by decide +kernel
theorem dX1_make_14 : decode cX1_make 14 = .ok (.aload_n 0, 1) := by decide +kernel
theorem dX1_make_15 : decode cX1_make 15 = .ok (.getfield 38, 3) := by decide +kernel
theorem dX1_make_18 : decode cX1_make 18 = .ok (.bipush 8, 2) := by decide +kernel
theorem dX1_make_20 : decode cX1_make 20 = .ok (.if_icmp .ne 7, 3) := by decide +kernel
theorem dX1_make_23 : decode cX1_make 23 = .ok (.iconst 2, 1) := by decide +kernel
theorem dX1_make_24 : decode cX1_make 24 = .ok (.goto 4, 3) := by decide +kernel
theorem dX1_make_27 : decode cX1_make 27 = .ok (.iconst 0, 1) := by decide +kernel
theorem dX1_make_28 : decode cX1_make 28 = .ok (.putfield 44, 3) := by decide +kernel
theorem dX1_make_31 : decode cX1_make 31 = .ok (.aload_n 0, 1) := by decide +kernel
theorem dX1_make_32 : decode cX1_make 32 = .ok (.getfield 44, 3) := by decide +kernel
theorem dX1_make_35 : decode cX1_make 35 = .ok (.ifCond .le 5, 3) := by decide +kernel
theorem dX1_make_38 : decode cX1_make 38 = .ok (.iconst 0, 1) := by decide +kernel
theorem dX1_make_39 : decode cX1_make 39 = .ok (.ireturn, 1) := by decide +kernel
theorem dX1_make_40 : decode cX1_make 40 = .ok (.iconst 0, 1) := by decide +kernel
theorem dX1_make_41 : decode cX1_make 41 = .ok (.istore_n 2, 1) := by decide +kernel
theorem dX1_make_42 : decode cX1_make 42 = .ok (.aload_n 0, 1) := by decide +kernel
theorem dX1_make_43 : decode cX1_make 43 = .ok (.iload_n 2, 1) := by decide +kernel
theorem dX1_make_44 : decode cX1_make 44 = .ok (.invokevirtual 67, 3) := by decide +kernel
theorem dX1_make_47 : decode cX1_make 47 = .ok (.ifCond .eq 69, 3) := by decide +kernel
theorem dX1_make_50 : decode cX1_make 50 = .ok (.aload_n 0, 1) := by decide +kernel
theorem dX1_make_51 : decode cX1_make 51 = .ok (.getfield 29, 3) := by decide +kernel
theorem dX1_make_54 : decode cX1_make 54 = .ok (.bipush 64, 2) := by decide +kernel
theorem dX1_make_56 : decode cX1_make 56 = .ok (.aload_n 0, 1) := by decide +kernel
theorem dX1_make_57 : decode cX1_make 57 = .ok (.getfield 38, 3) := by decide +kernel
theorem dX1_make_60 : decode cX1_make 60 = .ok (.imul, 1) := by decide +kernel
theorem dX1_make_61 : decode cX1_make 61 = .ok (.iload_n 2, 1) := by decide +kernel
theorem dX1_make_62 : decode cX1_make 62 = .ok (.iadd, 1) := by decide +kernel
theorem dX1_make_63 : decode cX1_make 63 = .ok (.iload_n 1, 1) := by decide +kernel
theorem dX1_make_64 : decode cX1_make 64 = .ok (.ifCond .ne 11, 3) := by decide +kernel
theorem dX1_make_67 : decode cX1_make 67 = .ok (.aload_n 0, 1) := by decide +kernel
theorem dX1_make_68 : decode cX1_make 68 = .ok (.iload_n 2, 1) := by decide +kernel
theorem dX1_make_69 : decode cX1_make 69 = .ok (.invokevirtual 70, 3) := by decide +kernel
theorem dX1_make_72 : decode cX1_make 72 = .ok (.goto 37, 3) := by decide +kernel
theorem dX1_make_75 : decode cX1_make 75 = .ok (.iload_n 1, 1) := by decide +kernel
theorem dX1_make_76 : decode cX1_make 76 = .ok (.iconst 1, 1) := by decide +kernel
theorem dX1_make_77 : decode cX1_make 77 = .ok (.if_icmp .ne 11, 3) := by decide +kernel
theorem dX1_make_80 : decode cX1_make 80 = .ok (.aload_n 0, 1) := by decide +kernel
theorem dX1_make_81 : decode cX1_make 81 = .ok (.iload_n 2, 1) := by decide +kernel
theorem dX1_make_82 : decode cX1_make 82 = .ok (.invokevirtual 73, 3) := by decide +kernel
theorem dX1_make_85 : decode cX1_make 85 = .ok (.goto 24, 3) := by decide +kernel
theorem dX1_make_88 : decode cX1_make 88 = .ok (.iload_n 1, 1) := by decide +kernel
theorem dX1_make_89 : decode cX1_make 89 = .ok (.iconst 4, 1) := by decide +kernel
theorem dX1_make_90 : decode cX1_make 90 = .ok (.if_icmp .ne 11, 3) := by decide +kernel
theorem dX1_make_93 : decode cX1_make 93 = .ok (.aload_n 0, 1) := by decide +kernel
theorem dX1_make_94 : decode cX1_make 94 = .ok (.iload_n 2, 1) := by decide +kernel
theorem dX1_make_95 : decode cX1_make 95 = .ok (.invokevirtual 76, 3) := by decide +kernel
theorem dX1_make_98 : decode cX1_make 98 = .ok (.goto 11, 3) := by decide +kernel
theorem dX1_make_101 : decode cX1_make 101 = .ok (.aload_n 0, 1) := by decide +kernel
theorem dX1_make_102 : decode cX1_make 102 = .ok (.iload_n 1, 1) := by decide +kernel
theorem dX1_make_103 : decode cX1_make 103 = .ok (.iconst 2, 1) := by decide +kernel
theorem dX1_make_104 : decode cX1_make 104 = .ok (.isub, 1) := by decide +kernel
theorem dX1_make_105 : decode cX1_make 105 = .ok (.iload_n 2, 1) := by decide +kernel
theorem dX1_make_106 : decode cX1_make 106 = .ok (.invokevirtual 79, 3) := by decide +kernel
theorem dX1_make_109 : decode cX1_make 109 = .ok (.iastore, 1) := by decide +kernel
theorem dX1_make_110 : decode cX1_make 110 = .ok (.iinc 2 1, 3) := by decide +kernel
theorem dX1_make_113 : decode cX1_make 113 = .ok (.goto (-71), 3) := by decide +kernel
theorem dX1_make_116 : decode cX1_make 116 = .ok (.aload_n 0, 1) := by decide +kernel
theorem dX1_make_117 : decode cX1_make 117 = .ok (.dup, 1) := by decide +kernel
theorem dX1_make_118 : decode cX1_make 118 = .ok (.getfield 38, 3) := by decide +kernel
theorem dX1_make_121 : decode cX1_make 121 = .ok (.iconst 1, 1) := by decide +kernel
theorem dX1_make_122 : decode cX1_make 122 = .ok (.iadd, 1) := by decide +kernel
theorem dX1_make_123 : decode cX1_make 123 = .ok (.putfield 38, 3) := by decide +kernel
theorem dX1_make_126 : decode cX1_make 126 = .ok (.aload_n 0, 1) := by decide +kernel
theorem dX1_make_127 : decode cX1_make 127 = .ok (.getfield 38, 3) := by decide +kernel
theorem dX1_make_130 : decode cX1_make 130 = .ok (.iconst 1, 1) := by decide +kernel
theorem dX1_make_131 : decode cX1_make 131 = .ok (.isub, 1) := by decide +kernel
theorem dX1_make_132 : decode cX1_make 132 = .ok (.ireturn, 1) := by decide +kernel
set_option maxRecDepth 20000 in
theorem ggX1_sum_X1_isFunction : GoodIn wsX1_sum wsX1_isFunction := goodIn_r _ [8, 1, 9, 10, 7, 11, 17, 18, 19, 20, 21, 22, 23, 24, 25, 26, 27] (by decide +kernel) (by decide +kernel)
set_option maxRecDepth 20000 in
theorem gX1_sum_X1_isFunction : GoodIn wsX1_sum (wsV RX1 83 RX1 yX1_isFunction wsX1_isFunction) := goodIn_app (goodIn_of _ (by decide +kernel)) ggX1_sum_X1_isFunction
set_option maxRecDepth 20000 in
theorem ggX1_sum_X1_isSet : GoodIn wsX1_sum wsX1_isSet := goodIn_r _ [15, 16, 9, 10, 7, 11, 17, 18, 19, 20, 21, 22, 23, 24, 25, 26, 27] (by decide +kernel) (by decide +kernel)
set_option maxRecDepth 20000 in
theorem gX1_sum_X1_isSet : GoodIn wsX1_sum (wsV RX1 67 RX1 yX1_isSet wsX1_isSet) := goodIn_app (goodIn_of _ (by decide +kernel)) ggX1_sum_X1_isSet
theorem dX1_sum_0 : decode cX1_sum 0 = .ok (.aload_n 0, 1) := by decide +kernel
theorem dX1_sum_1 : decode cX1_sum 1 = .ok (.aload_n 0, 1) := by decide +kernel
theorem dX1_sum_2 : decode cX1_sum 2 = .ok (.iload_n 1, 1) := by decide +kernel
theorem dX1_sum_3 : decode cX1_sum 3 = .ok (.invokevirtual 83, 3) := by decide +kernel
theorem dX1_sum_6 : decode cX1_sum 6 = .ok (.ifCond .eq 11, 3) := by decide +kernel
theorem dX1_sum_9 : decode cX1_sum 9 = .ok (.aload_n 0, 1) := by decide +kernel
theorem dX1_sum_10 : decode cX1_sum 10 = .ok (.iload_n 2, 1) := by decide +kernel
theorem dX1_sum_11 : decode cX1_sum 11 = .ok (.invokevirtual 83, 3) := by decide +kernel
theorem dX1_sum_14 : decode cX1_sum 14 = .ok (.ifCond .ne 7, 3) := by decide +kernel
theorem dX1_sum_17 : decode cX1_sum 17 = .ok (.iconst 1, 1) := by decide +kernel
theorem dX1_sum_18 : decode cX1_sum 18 = .ok (.goto 17, 3) := by decide +kernel
theorem dX1_sum_21 : decode cX1_sum 21 = .ok (.aload_n 0, 1) := by decide +kernel
theorem dX1_sum_22 : decode cX1_sum 22 = .ok (.getfield 38, 3) := by decide +kernel
theorem dX1_sum_25 : decode cX1_sum 25 = .ok (.bipush 8, 2) := by decide +kernel
theorem dX1_sum_27 : decode cX1_sum 27 = .ok (.if_icmp .ne 7, 3) := by decide +kernel
theorem dX1_sum_30 : decode cX1_sum 30 = .ok (.iconst 2, 1) := by decide +kernel
theorem dX1_sum_31 : decode cX1_sum 31 = .ok (.goto 4, 3) := by decide +kernel
theorem dX1_sum_34 : decode cX1_sum 34 = .ok (.iconst 0, 1) := by decide +kernel
theorem dX1_sum_35 : decode cX1_sum 35 = .ok (.putfield 44, 3) := by decide +kernel
theorem dX1_sum_38 : decode cX1_sum 38 = .ok (.aload_n 0, 1) := by decide +kernel
theorem dX1_sum_39 : decode cX1_sum 39 = .ok (.getfield 44, 3) := by decide +kernel
theorem dX1_sum_42 : decode cX1_sum 42 = .ok (.ifCond .le 5, 3) := by decide +kernel
theorem dX1_sum_45 : decode cX1_sum 45 = .ok (.iconst 0, 1) := by decide +kernel
theorem dX1_sum_46 : decode cX1_sum 46 = .ok (.ireturn, 1) := by decide +kernel
theorem dX1_sum_47 : decode cX1_sum 47 = .ok (.iconst 0, 1) := by decide +kernel
theorem dX1_sum_48 : decode cX1_sum 48 = .ok (.istore_n 3, 1) := by decide +kernel
theorem dX1_sum_49 : decode cX1_sum 49 = .ok (.aload_n 0, 1) := by decide +kernel
theorem dX1_sum_50 : decode cX1_sum 50 = .ok (.iload_n 3, 1) := by decide +kernel
theorem dX1_sum_51 : decode cX1_sum 51 = .ok (.invokevirtual 67, 3) := by decide +kernel
theorem dX1_sum_54 : decode cX1_sum 54 = .ok (.ifCond .eq 46, 3) := by decide +kernel
theorem dX1_sum_57 : decode cX1_sum 57 = .ok (.aload_n 0, 1) := by decide +kernel
theorem dX1_sum_58 : decode cX1_sum 58 = .ok (.getfield 29, 3) := by decide +kernel
theorem dX1_sum_61 : decode cX1_sum 61 = .ok (.bipush 64, 2) := by decide +kernel
theorem dX1_sum_63 : decode cX1_sum 63 = .ok (.aload_n 0, 1) := by decide +kernel
theorem dX1_sum_64 : decode cX1_sum 64 = .ok (.getfield 38, 3) := by decide +kernel
theorem dX1_sum_67 : decode cX1_sum 67 = .ok (.imul, 1) := by decide +kernel
theorem dX1_sum_68 : decode cX1_sum 68 = .ok (.iload_n 3, 1) := by decide +kernel
theorem dX1_sum_69 : decode cX1_sum 69 = .ok (.iadd, 1) := by decide +kernel
theorem dX1_sum_70 : decode cX1_sum 70 = .ok (.aload_n 0, 1) := by decide +kernel
theorem dX1_sum_71 : decode cX1_sum 71 = .ok (.getfield 29, 3) := by decide +kernel
theorem dX1_sum_74 : decode cX1_sum 74 = .ok (.bipush 64, 2) := by decide +kernel
theorem dX1_sum_76 : decode cX1_sum 76 = .ok (.iload_n 1, 1) := by decide +kernel
theorem dX1_sum_77 : decode cX1_sum 77 = .ok (.imul, 1) := by decide +kernel
theorem dX1_sum_78 : decode cX1_sum 78 = .ok (.iload_n 3, 1) := by decide +kernel
theorem dX1_sum_79 : decode cX1_sum 79 = .ok (.iadd, 1) := by decide +kernel
theorem dX1_sum_80 : decode cX1_sum 80 = .ok (.iaload, 1) := by decide +kernel
theorem dX1_sum_81 : decode cX1_sum 81 = .ok (.aload_n 0, 1) := by decide +kernel
theorem dX1_sum_82 : decode cX1_sum 82 = .ok (.getfield 29, 3) := by decide +kernel
theorem dX1_sum_85 : decode cX1_sum 85 = .ok (.bipush 64, 2) := by decide +kernel
theorem dX1_sum_87 : decode cX1_sum 87 = .ok (.iload_n 2, 1) := by decide +kernel
theorem dX1_sum_88 : decode cX1_sum 88 = .ok (.imul, 1) := by decide +kernel
theorem dX1_sum_89 : decode cX1_sum 89 = .ok (.iload_n 3, 1) := by decide +kernel
theorem dX1_sum_90 : decode cX1_sum 90 = .ok (.iadd, 1) := by decide +kernel
theorem dX1_sum_91 : decode cX1_sum 91 = .ok (.iaload, 1) := by decide +kernel
theorem dX1_sum_92 : decode cX1_sum 92 = .ok (.iadd, 1) := by decide +kernel
theorem dX1_sum_93 : decode cX1_sum 93 = .ok (.iastore, 1) := by decide +kernel
theorem dX1_sum_94 : decode cX1_sum 94 = .ok (.iinc 3 1, 3) := by decide +kernel
theorem dX1_sum_97 : decode cX1_sum 97 = .ok (.goto (-48), 3) := by decide +kernel
theorem dX1_sum_100 : decode cX1_sum 100 = .ok (.aload_n 0, 1) := by decide +kernel
theorem dX1_sum_101 : decode cX1_sum 101 = .ok (.dup, 1) := by decide +kernel
theorem dX1_sum_102 : decode cX1_sum 102 = .ok (.getfield 38, 3) := by decide +kernel
theorem dX1_sum_105 : decode cX1_sum 105 = .ok (.iconst 1, 1) := by decide +kernel
theorem dX1_sum_106 : decode cX1_sum 106 = .ok (.iadd, 1) := by decide +kernel
theorem dX1_sum_107 : decode cX1_sum 107 = .ok (.putfield 38, 3) := by decide +kernel
theorem dX1_sum_110 : decode cX1_sum 110 = .ok (.aload_n 0, 1) := by decide +kernel
theorem dX1_sum_111 : decode cX1_sum 111 = .ok (.getfield 38, 3) := by decide +kernel
theorem dX1_sum_114 : decode cX1_sum 114 = .ok (.iconst 1, 1) := by decide +kernel
theorem dX1_sum_115 : decode cX1_sum 115 = .ok (.isub, 1) := by decide +kernel
theorem dX1_sum_116 : decode cX1_sum 116 = .ok (.ireturn, 1) := by decide +kernel
set_option maxRecDepth 20000 in
theorem ggX1_contract_X1_isFunction : GoodIn wsX1_contract wsX1_isFunction := goodIn_r _ [8, 1, 9, 10, 7, 11, 17, 18, 19, 20, 21, 22, 23, 24, 25, 26, 27] (by decide +kernel) (by decide +kernel)
set_option maxRecDepth 20000 in
theorem gX1_contract_X1_isFunction : GoodIn wsX1_contract (wsV RX1 83 RX1 yX1_isFunction wsX1_isFunction) := goodIn_app (goodIn_of _ (by decide +kernel)) ggX1_contract_X1_isFunction
set_option maxRecDepth 20000 in
theorem ggX1_contract_X1_isSet : GoodIn wsX1_contract wsX1_isSet := goodIn_r _ [15, 16, 9, 10, 7, 11, 17, 18, 19, 20, 21, 22, 23, 24, 25, 26, 27] (by decide +kernel) (by decide +kernel)
set_option maxRecDepth 20000 in
theorem gX1_contract_X1_isSet : GoodIn wsX1_contract (wsV RX1 67 RX1 yX1_isSet wsX1_isSet) := goodIn_app (goodIn_of _ (by decide +kernel)) ggX1_contract_X1_isSet
theorem dX1_contract_0 : decode cX1_contract 0 = .ok (.aload_n 0, 1) := by decide +kernel
theorem dX1_contract_1 : decode cX1_contract 1 = .ok (.aload_n 0, 1) := by decide +kernel
theorem dX1_contract_2 : decode cX1_contract 2 = .ok (.iload_n 1, 1) := by decide +kernel
theorem dX1_contract_3 : decode cX1_contract 3 = .ok (.invokevirtual 83, 3) := by decide +kernel
theorem dX1_contract_6 : decode cX1_contract 6 = .ok (.ifCond .ne 7, 3) := by decide +kernel
theorem dX1_contract_9 : decode cX1_contract 9 = .ok (.iconst 1, 1) := by decide +kernel
theorem dX1_contract_10 : decode cX1_contract 10 = .ok (.goto 29, 3) := by decide +kernel
theorem dX1_contract_13 : decode cX1_contract 13 = .ok (.aload_n 0, 1) := by decide +kernel
theorem dX1_contract_14 : decode cX1_contract 14 = .ok (.iload_n 2, 1) := by decide +kernel
theorem dX1_contract_15 : decode cX1_contract 15 = .ok (.invokevirtual 67, 3) := by decide +kernel
theorem dX1_contract_18 : decode cX1_contract 18 = .ok (.ifCond .ne 7, 3) := by decide +kernel
theorem dX1_contract_21 : decode cX1_contract 21 = .ok (.iconst 2, 1) := by decide +kernel
theorem dX1_contract_22 : decode cX1_contract 22 = .ok (.goto 17, 3) := by decide +kernel
theorem dX1_contract_25 : decode cX1_contract 25 = .ok (.aload_n 0, 1) := by decide +kernel
theorem dX1_contract_26 : decode cX1_contract 26 = .ok (.getfield 38, 3) := by decide +kernel
theorem dX1_contract_29 : decode cX1_contract 29 = .ok (.bipush 8, 2) := by decide +kernel
theorem dX1_contract_31 : decode cX1_contract 31 = .ok (.if_icmp .ne 7, 3) := by decide +kernel
theorem dX1_contract_34 : decode cX1_contract 34 = .ok (.iconst 3, 1) := by decide +kernel
theorem dX1_contract_35 : decode cX1_contract 35 = .ok (.goto 4, 3) := by decide +kernel
theorem dX1_contract_38 : decode cX1_contract 38 = .ok (.iconst 0, 1) := by decide +kernel
theorem dX1_contract_39 : decode cX1_contract 39 = .ok (.putfield 44, 3) := by decide +kernel
theorem dX1_contract_42 : decode cX1_contract 42 = .ok (.aload_n 0, 1) := by decide +kernel
theorem dX1_contract_43 : decode cX1_contract 43 = .ok (.getfield 44, 3) := by decide +kernel
theorem dX1_contract_46 : decode cX1_contract 46 = .ok (.ifCond .le 5, 3) := by decide +kernel
theorem dX1_contract_49 : decode cX1_contract 49 = .ok (.iconst 0, 1) := by decide +kernel
theorem dX1_contract_50 : decode cX1_contract 50 = .ok (.ireturn, 1) := by decide +kernel
theorem dX1_contract_51 : decode cX1_contract 51 = .ok (.iconst 0, 1) := by decide +kernel
theorem dX1_contract_52 : decode cX1_contract 52 = .ok (.istore_n 3, 1) := by decide +kernel
theorem dX1_contract_53 : decode cX1_contract 53 = .ok (.aload_n 0, 1) := by decide +kernel
theorem dX1_contract_54 : decode cX1_contract 54 = .ok (.iload_n 3, 1) := by decide +kernel
theorem dX1_contract_55 : decode cX1_contract 55 = .ok (.invokevirtual 67, 3) := by decide +kernel
theorem dX1_contract_58 : decode cX1_contract 58 = .ok (.ifCond .eq 48, 3) := by decide +kernel
theorem dX1_contract_61 : decode cX1_contract 61 = .ok (.aload_n 0, 1) := by decide +kernel
theorem dX1_contract_62 : decode cX1_contract 62 = .ok (.getfield 29, 3) := by decide +kernel
theorem dX1_contract_65 : decode cX1_contract 65 = .ok (.bipush 64, 2) := by decide +kernel
theorem dX1_contract_67 : decode cX1_contract 67 = .ok (.aload_n 0, 1) := by decide +kernel
theorem dX1_contract_68 : decode cX1_contract 68 = .ok (.getfield 38, 3) := by decide +kernel
theorem dX1_contract_71 : decode cX1_contract 71 = .ok (.imul, 1) := by decide +kernel
theorem dX1_contract_72 : decode cX1_contract 72 = .ok (.iload_n 3, 1) := by decide +kernel
theorem dX1_contract_73 : decode cX1_contract 73 = .ok (.iadd, 1) := by decide +kernel
theorem dX1_contract_74 : decode cX1_contract 74 = .ok (.aload_n 0, 1) := by decide +kernel
theorem dX1_contract_75 : decode cX1_contract 75 = .ok (.getfield 29, 3) := by decide +kernel
theorem dX1_contract_78 : decode cX1_contract 78 = .ok (.bipush 64, 2) := by decide +kernel
theorem dX1_contract_80 : decode cX1_contract 80 = .ok (.iload_n 1, 1) := by decide +kernel
theorem dX1_contract_81 : decode cX1_contract 81 = .ok (.imul, 1) := by decide +kernel
theorem dX1_contract_82 : decode cX1_contract 82 = .ok (.iload_n 3, 1) := by decide +kernel
theorem dX1_contract_83 : decode cX1_contract 83 = .ok (.iload_n 2, 1) := by decide +kernel
theorem dX1_contract_84 : decode cX1_contract 84 = .ok (.ior, 1) := by decide +kernel
theorem dX1_contract_85 : decode cX1_contract 85 = .ok (.iadd, 1) := by decide +kernel
theorem dX1_contract_86 : decode cX1_contract 86 = .ok (.iaload, 1) := by decide +kernel
theorem dX1_contract_87 : decode cX1_contract 87 = .ok (.aload_n 0, 1) := by decide +kernel
theorem dX1_contract_88 : decode cX1_contract 88 = .ok (.getfield 29, 3) := by decide +kernel
theorem dX1_contract_91 : decode cX1_contract 91 = .ok (.bipush 64, 2) := by decide +kernel
theorem dX1_contract_93 : decode cX1_contract 93 = .ok (.iload_n 1, 1) := by decide +kernel
theorem dX1_contract_94 : decode cX1_contract 94 = .ok (.imul, 1) := by decide +kernel
theorem dX1_contract_95 : decode cX1_contract 95 = .ok (.iload_n 2, 1) := by decide +kernel
theorem dX1_contract_96 : decode cX1_contract 96 = .ok (.iadd, 1) := by decide +kernel
theorem dX1_contract_97 : decode cX1_contract 97 = .ok (.iaload, 1) := by decide +kernel
theorem dX1_contract_98 : decode cX1_contract 98 = .ok (.isub, 1) := by decide +kernel
theorem dX1_contract_99 : decode cX1_contract 99 = .ok (.iastore, 1) := by decide +kernel
theorem dX1_contract_100 : decode cX1_contract 100 = .ok (.iinc 3 1, 3) := by decide +kernel
theorem dX1_contract_103 : decode cX1_contract 103 = .ok (.goto (-50), 3) := by decide +kernel
theorem dX1_contract_106 : decode cX1_contract 106 = .ok (.aload_n 0, 1) := by decide +kernel
theorem dX1_contract_107 : decode cX1_contract 107 = .ok (.dup, 1) := by decide +kernel
theorem dX1_contract_108 : decode cX1_contract 108 = .ok (.getfield 38, 3) := by decide +kernel
theorem dX1_contract_111 : decode cX1_contract 111 = .ok (.iconst 1, 1) := by decide +kernel
theorem dX1_contract_112 : decode cX1_contract 112 = .ok (.iadd, 1) := by decide +kernel
theorem dX1_contract_113 : decode cX1_contract 113 = .ok (.putfield 38, 3) := by decide +kernel
theorem dX1_contract_116 : decode cX1_contract 116 = .ok (.aload_n 0, 1) := by decide +kernel
theorem dX1_contract_117 : decode cX1_contract 117 = .ok (.getfield 38, 3) := by decide +kernel
theorem dX1_contract_120 : decode cX1_contract 120 = .ok (.iconst 1, 1) := by decide +kernel
theorem dX1_contract_121 : decode cX1_contract 121 = .ok (.isub, 1) := by decide +kernel
theorem dX1_contract_122 : decode cX1_contract 122 = .ok (.ireturn, 1) := by decide +kernel
set_option maxRecDepth 20000 in
theorem ggX1_cap_X1_isFunction : GoodIn wsX1_cap wsX1_isFunction := goodIn_r _ [8, 1, 9, 10, 7, 11, 17, 18, 19, 20, 21, 22, 23, 24, 25, 26, 27] (by decide +kernel) (by decide +kernel)
set_option maxRecDepth 20000 in
theorem gX1_cap_X1_isFunction : GoodIn wsX1_cap (wsV RX1 83 RX1 yX1_isFunction wsX1_isFunction) := goodIn_app (goodIn_of _ (by decide +kernel)) ggX1_cap_X1_isFunction
set_option maxRecDepth 20000 in
theorem ggX1_cap_X1_isIn : GoodIn wsX1_cap wsX1_isIn := goodIn_r _ [11] (by decide +kernel) (by decide +kernel)
set_option maxRecDepth 20000 in
theorem gX1_cap_X1_isIn : GoodIn wsX1_cap (va_wsS RX1 47 yX1_isIn wsX1_isIn) := goodIn_app (goodIn_of _ (by decide +kernel)) ggX1_cap_X1_isIn
set_option maxRecDepth 20000 in
theorem ggX1_cap_X1_isSet : GoodIn wsX1_cap wsX1_isSet := goodIn_r _ [15, 16, 9, 10, 7, 11, 17, 18, 19, 20, 21, 22, 23, 24, 25, 26, 27] (by decide +kernel) (by decide +kernel)
set_option maxRecDepth 20000 in
theorem gX1_cap_X1_isSet : GoodIn wsX1_cap (wsV RX1 67 RX1 yX1_isSet wsX1_isSet) := goodIn_app (goodIn_of _ (by decide +kernel)) ggX1_cap_X1_isSet
theorem dX1_cap_0 : decode cX1_cap 0 = .ok (.aload_n 0, 1) := by decide +kernel
theorem dX1_cap_1 : decode cX1_cap 1 = .ok (.aload_n 0, 1) := by decide +kernel
theorem dX1_cap_2 : decode cX1_cap 2 = .ok (.iload_n 1, 1) := by decide +kernel
theorem dX1_cap_3 : decode cX1_cap 3 = .ok (.invokevirtual 83, 3) := by decide +kernel
theorem dX1_cap_6 : decode cX1_cap 6 = .ok (.ifCond .ne 7, 3) := by decide +kernel
theorem dX1_cap_9 : decode cX1_cap 9 = .ok (.iconst 1, 1) := by decide +kernel
theorem dX1_cap_10 : decode cX1_cap 10 = .ok (.goto 31, 3) := by decide +kernel
theorem dX1_cap_13 : decode cX1_cap 13 = .ok (.iload_n 2, 1) := by decide +kernel
theorem dX1_cap_14 : decode cX1_cap 14 = .ok (.iconst 0, 1) := by decide +kernel
theorem dX1_cap_15 : decode cX1_cap 15 = .ok (.bipush 100, 2) := by decide +kernel
theorem dX1_cap_17 : decode cX1_cap 17 = .ok (.invokestatic 47, 3) := by decide +kernel
theorem dX1_cap_20 : decode cX1_cap 20 = .ok (.ifCond .ne 7, 3) := by decide +kernel
theorem dX1_cap_23 : decode cX1_cap 23 = .ok (.iconst 2, 1) := by decide +kernel
theorem dX1_cap_24 : decode cX1_cap 24 = .ok (.goto 17, 3) := by decide +kernel
theorem dX1_cap_27 : decode cX1_cap 27 = .ok (.aload_n 0, 1) := by decide +kernel
theorem dX1_cap_28 : decode cX1_cap 28 = .ok (.getfield 38, 3) := by decide +kernel
theorem dX1_cap_31 : decode cX1_cap 31 = .ok (.bipush 8, 2) := by decide +kernel
theorem dX1_cap_33 : decode cX1_cap 33 = .ok (.if_icmp .ne 7, 3) := by decide +kernel
theorem dX1_cap_36 : decode cX1_cap 36 = .ok (.iconst 3, 1) := by decide +kernel
theorem dX1_cap_37 : decode cX1_cap 37 = .ok (.goto 4, 3) := by decide +kernel
theorem dX1_cap_40 : decode cX1_cap 40 = .ok (.iconst 0, 1) := by decide +kernel
theorem dX1_cap_41 : decode cX1_cap 41 = .ok (.putfield 44, 3) := by decide +kernel
theorem dX1_cap_44 : decode cX1_cap 44 = .ok (.aload_n 0, 1) := by decide +kernel
theorem dX1_cap_45 : decode cX1_cap 45 = .ok (.getfield 44, 3) := by decide +kernel
theorem dX1_cap_48 : decode cX1_cap 48 = .ok (.ifCond .le 5, 3) := by decide +kernel
theorem dX1_cap_51 : decode cX1_cap 51 = .ok (.iconst 0, 1) := by decide +kernel
theorem dX1_cap_52 : decode cX1_cap 52 = .ok (.ireturn, 1) := by decide +kernel
theorem dX1_cap_53 : decode cX1_cap 53 = .ok (.iconst 0, 1) := by decide +kernel
theorem dX1_cap_54 : decode cX1_cap 54 = .ok (.istore_n 3, 1) := by decide +kernel
theorem dX1_cap_55 : decode cX1_cap 55 = .ok (.aload_n 0, 1) := by decide +kernel
theorem dX1_cap_56 : decode cX1_cap 56 = .ok (.iload_n 3, 1) := by decide +kernel
theorem dX1_cap_57 : decode cX1_cap 57 = .ok (.invokevirtual 67, 3) := by decide +kernel
theorem dX1_cap_60 : decode cX1_cap 60 = .ok (.ifCond .eq 48, 3) := by decide +kernel
theorem dX1_cap_63 : decode cX1_cap 63 = .ok (.aload_n 0, 1) := by decide +kernel
theorem dX1_cap_64 : decode cX1_cap 64 = .ok (.getfield 29, 3) := by decide +kernel
theorem dX1_cap_67 : decode cX1_cap 67 = .ok (.bipush 64, 2) := by decide +kernel
theorem dX1_cap_69 : decode cX1_cap 69 = .ok (.iload_n 1, 1) := by decide +kernel
theorem dX1_cap_70 : decode cX1_cap 70 = .ok (.imul, 1) := by decide +kernel
theorem dX1_cap_71 : decode cX1_cap 71 = .ok (.iload_n 3, 1) := by decide +kernel
theorem dX1_cap_72 : decode cX1_cap 72 = .ok (.iadd, 1) := by decide +kernel
theorem dX1_cap_73 : decode cX1_cap 73 = .ok (.iaload, 1) := by decide +kernel
theorem dX1_cap_74 : decode cX1_cap 74 = .ok (.istore 4, 2) := by decide +kernel
theorem dX1_cap_76 : decode cX1_cap 76 = .ok (.aload_n 0, 1) := by decide +kernel
theorem dX1_cap_77 : decode cX1_cap 77 = .ok (.getfield 29, 3) := by decide +kernel
theorem dX1_cap_80 : decode cX1_cap 80 = .ok (.bipush 64, 2) := by decide +kernel
theorem dX1_cap_82 : decode cX1_cap 82 = .ok (.aload_n 0, 1) := by decide +kernel
theorem dX1_cap_83 : decode cX1_cap 83 = .ok (.getfield 38, 3) := by decide +kernel
theorem dX1_cap_86 : decode cX1_cap 86 = .ok (.imul, 1) := by decide +kernel
theorem dX1_cap_87 : decode cX1_cap 87 = .ok (.iload_n 3, 1) := by decide +kernel
theorem dX1_cap_88 : decode cX1_cap 88 = .ok (.iadd, 1) := by decide +kernel
theorem dX1_cap_89 : decode cX1_cap 89 = .ok (.iload 4, 2) := by decide +kernel
theorem dX1_cap_91 : decode cX1_cap 91 = .ok (.iload_n 2, 1) := by decide +kernel
theorem dX1_cap_92 : decode cX1_cap 92 = .ok (.if_icmp .ge 8, 3) := by decide +kernel
theorem dX1_cap_95 : decode cX1_cap 95 = .ok (.iload 4, 2) := by decide +kernel
theorem dX1_cap_97 : decode cX1_cap 97 = .ok (.goto 4, 3) := by decide +kernel
theorem dX1_cap_100 : decode cX1_cap 100 = .ok (.iload_n 2, 1) := by decide +kernel
theorem dX1_cap_101 : decode cX1_cap 101 = .ok (.iastore, 1) := by decide +kernel
theorem dX1_cap_102 : decode cX1_cap 102 = .ok (.iinc 3 1, 3) := by decide +kernel
theorem dX1_cap_105 : decode cX1_cap 105 = .ok (.goto (-50), 3) := by decide +kernel
theorem dX1_cap_108 : decode cX1_cap 108 = .ok (.aload_n 0, 1) := by decide +kernel
theorem dX1_cap_109 : decode cX1_cap 109 = .ok (.dup, 1) := by decide +kernel
theorem dX1_cap_110 : decode cX1_cap 110 = .ok (.getfield 38, 3) := by decide +kernel
theorem dX1_cap_113 : decode cX1_cap 113 = .ok (.iconst 1, 1) := by decide +kernel
theorem dX1_cap_114 : decode cX1_cap 114 = .ok (.iadd, 1) := by decide +kernel
theorem dX1_cap_115 : decode cX1_cap 115 = .ok (.putfield 38, 3) := by decide +kernel
theorem dX1_cap_118 : decode cX1_cap 118 = .ok (.aload_n 0, 1) := by decide +kernel
theorem dX1_cap_119 : decode cX1_cap 119 = .ok (.getfield 38, 3) := by decide +kernel
theorem dX1_cap_122 : decode cX1_cap 122 = .ok (.iconst 1, 1) := by decide +kernel
theorem dX1_cap_123 : decode cX1_cap 123 = .ok (.isub, 1) := by decide +kernel
theorem dX1_cap_124 : decode cX1_cap 124 = .ok (.ireturn, 1) := by decide +kernel
set_option maxRecDepth 20000 in
theorem ggX1_value_X1_isFunction : GoodIn wsX1_value wsX1_isFunction := goodIn_r _ [7, 8, 9, 10, 6, 11, 17, 18, 19, 20, 21, 22, 23, 24, 25, 26, 27] (by decide +kernel) (by decide +kernel)
set_option maxRecDepth 20000 in
theorem gX1_value_X1_isFunction : GoodIn wsX1_value (wsV RX1 83 RX1 yX1_isFunction wsX1_isFunction) := goodIn_app (goodIn_of _ (by decide +kernel)) ggX1_value_X1_isFunction
set_option maxRecDepth 20000 in
theorem ggX1_value_X1_isSet : GoodIn wsX1_value wsX1_isSet := goodIn_r _ [15, 16, 9, 10, 6, 11, 17, 18, 19, 20, 21, 22, 23, 24, 25, 26, 27] (by decide +kernel) (by decide +kernel)
set_option maxRecDepth 20000 in
theorem gX1_value_X1_isSet : GoodIn wsX1_value (wsV RX1 67 RX1 yX1_isSet wsX1_isSet) := goodIn_app (goodIn_of _ (by decide +kernel)) ggX1_value_X1_isSet
theorem dX1_value_0 : decode cX1_value 0 = .ok (.aload_n 0, 1) := by decide +kernel
theorem dX1_value_1 : decode cX1_value 1 = .ok (.aload_n 0, 1) := by decide +kernel
theorem dX1_value_2 : decode cX1_value 2 = .ok (.iload_n 1, 1) := by decide +kernel
theorem dX1_value_3 : decode cX1_value 3 = .ok (.invokevirtual 83, 3) := by decide +kernel
theorem dX1_value_6 : decode cX1_value 6 = .ok (.ifCond .ne 7, 3) := by decide +kernel
theorem dX1_value_9 : decode cX1_value 9 = .ok (.iconst 1, 1) := by decide +kernel
theorem dX1_value_10 : decode cX1_value 10 = .ok (.goto 16, 3) := by decide +kernel
theorem dX1_value_13 : decode cX1_value 13 = .ok (.aload_n 0, 1) := by decide +kernel
theorem dX1_value_14 : decode cX1_value 14 = .ok (.iload_n 2, 1) := by decide +kernel
theorem dX1_value_15 : decode cX1_value 15 = .ok (.invokevirtual 67, 3) := by decide +kernel
theorem dX1_value_18 : decode cX1_value 18 = .ok (.ifCond .ne 7, 3) := by decide +kernel
theorem dX1_value_21 : decode cX1_value 21 = .ok (.iconst 2, 1) := by decide +kernel
theorem dX1_value_22 : decode cX1_value 22 = .ok (.goto 4, 3) := by decide +kernel
theorem dX1_value_25 : decode cX1_value 25 = .ok (.iconst 0, 1) := by decide +kernel
theorem dX1_value_26 : decode cX1_value 26 = .ok (.putfield 44, 3) := by decide +kernel
theorem dX1_value_29 : decode cX1_value 29 = .ok (.aload_n 0, 1) := by decide +kernel
theorem dX1_value_30 : decode cX1_value 30 = .ok (.getfield 44, 3) := by decide +kernel
theorem dX1_value_33 : decode cX1_value 33 = .ok (.ifCond .le 7, 3) := by decide +kernel
theorem dX1_value_36 : decode cX1_value 36 = .ok (.iconst 0, 1) := by decide +kernel
theorem dX1_value_37 : decode cX1_value 37 = .ok (.goto 14, 3) := by decide +kernel
theorem dX1_value_40 : decode cX1_value 40 = .ok (.aload_n 0, 1) := by decide +kernel
theorem dX1_value_41 : decode cX1_value 41 = .ok (.getfield 29, 3) := by decide +kernel
theorem dX1_value_44 : decode cX1_value 44 = .ok (.bipush 64, 2) := by decide +kernel
theorem dX1_value_46 : decode cX1_value 46 = .ok (.iload_n 1, 1) := by decide +kernel
theorem dX1_value_47 : decode cX1_value 47 = .ok (.imul, 1) := by decide +kernel
theorem dX1_value_48 : decode cX1_value 48 = .ok (.iload_n 2, 1) := by decide +kernel
theorem dX1_value_49 : decode cX1_value 49 = .ok (.iadd, 1) := by decide +kernel
theorem dX1_value_50 : decode cX1_value 50 = .ok (.iaload, 1) := by decide +kernel
theorem dX1_value_51 : decode cX1_value 51 = .ok (.ireturn, 1) := by decide +kernel
set_option maxRecDepth 20000 in
theorem ggX1_hasLaw_X1_isSet : GoodIn wsX1_hasLaw wsX1_isSet := goodIn_r _ [7, 1, 8, 9, 6, 10, 14, 15, 16, 17, 18, 19, 20, 21, 22, 23, 24] (by decide +kernel) (by decide +kernel)
set_option maxRecDepth 20000 in
theorem gX1_hasLaw_X1_isSet : GoodIn wsX1_hasLaw (wsV RX1 67 RX1 yX1_isSet wsX1_isSet) := goodIn_app (goodIn_of _ (by decide +kernel)) ggX1_hasLaw_X1_isSet
set_option maxRecDepth 20000 in
theorem ggX1_hasLaw_X1_has : GoodIn wsX1_hasLaw wsX1_has := goodIn_r _ [13] (by decide +kernel) (by decide +kernel)
set_option maxRecDepth 20000 in
theorem gX1_hasLaw_X1_has : GoodIn wsX1_hasLaw (va_wsS RX1 55 yX1_has wsX1_has) := goodIn_app (goodIn_of _ (by decide +kernel)) ggX1_hasLaw_X1_has
theorem dX1_hasLaw_0 : decode cX1_hasLaw 0 = .ok (.iconst 1, 1) := by decide +kernel
theorem dX1_hasLaw_1 : decode cX1_hasLaw 1 = .ok (.istore_n 2, 1) := by decide +kernel
theorem dX1_hasLaw_2 : decode cX1_hasLaw 2 = .ok (.iconst 0, 1) := by decide +kernel
theorem dX1_hasLaw_3 : decode cX1_hasLaw 3 = .ok (.istore_n 3, 1) := by decide +kernel
theorem dX1_hasLaw_4 : decode cX1_hasLaw 4 = .ok (.aload_n 0, 1) := by decide +kernel
theorem dX1_hasLaw_5 : decode cX1_hasLaw 5 = .ok (.iload_n 3, 1) := by decide +kernel
theorem dX1_hasLaw_6 : decode cX1_hasLaw 6 = .ok (.invokevirtual 67, 3) := by decide +kernel
theorem dX1_hasLaw_9 : decode cX1_hasLaw 9 = .ok (.ifCond .eq 148, 3) := by decide +kernel
theorem dX1_hasLaw_12 : decode cX1_hasLaw 12 = .ok (.iconst 0, 1) := by decide +kernel
theorem dX1_hasLaw_13 : decode cX1_hasLaw 13 = .ok (.istore 4, 2) := by decide +kernel
theorem dX1_hasLaw_15 : decode cX1_hasLaw 15 = .ok (.iload 4, 2) := by decide +kernel
theorem dX1_hasLaw_17 : decode cX1_hasLaw 17 = .ok (.aload_n 0, 1) := by decide +kernel
theorem dX1_hasLaw_18 : decode cX1_hasLaw 18 = .ok (.getfield 7, 3) := by decide +kernel
theorem dX1_hasLaw_21 : decode cX1_hasLaw 21 = .ok (.if_icmp .ge 130, 3) := by decide +kernel
theorem dX1_hasLaw_24 : decode cX1_hasLaw 24 = .ok (.iconst 0, 1) := by decide +kernel
theorem dX1_hasLaw_25 : decode cX1_hasLaw 25 = .ok (.istore 5, 2) := by decide +kernel
theorem dX1_hasLaw_27 : decode cX1_hasLaw 27 = .ok (.iload 5, 2) := by decide +kernel
theorem dX1_hasLaw_29 : decode cX1_hasLaw 29 = .ok (.iload 4, 2) := by decide +kernel
theorem dX1_hasLaw_31 : decode cX1_hasLaw 31 = .ok (.if_icmp .ge 114, 3) := by decide +kernel
theorem dX1_hasLaw_34 : decode cX1_hasLaw 34 = .ok (.bipush 64, 2) := by decide +kernel
theorem dX1_hasLaw_36 : decode cX1_hasLaw 36 = .ok (.iload_n 1, 1) := by decide +kernel
theorem dX1_hasLaw_37 : decode cX1_hasLaw 37 = .ok (.imul, 1) := by decide +kernel
theorem dX1_hasLaw_38 : decode cX1_hasLaw 38 = .ok (.istore 6, 2) := by decide +kernel
theorem dX1_hasLaw_40 : decode cX1_hasLaw 40 = .ok (.iload_n 3, 1) := by decide +kernel
theorem dX1_hasLaw_41 : decode cX1_hasLaw 41 = .ok (.iload 4, 2) := by decide +kernel
theorem dX1_hasLaw_43 : decode cX1_hasLaw 43 = .ok (.invokestatic 55, 3) := by decide +kernel
theorem dX1_hasLaw_46 : decode cX1_hasLaw 46 = .ok (.ifCond .ne 16, 3) := by decide +kernel
theorem dX1_hasLaw_49 : decode cX1_hasLaw 49 = .ok (.iload_n 3, 1) := by decide +kernel
theorem dX1_hasLaw_50 : decode cX1_hasLaw 50 = .ok (.iload 5, 2) := by decide +kernel
theorem dX1_hasLaw_52 : decode cX1_hasLaw 52 = .ok (.invokestatic 55, 3) := by decide +kernel
theorem dX1_hasLaw_55 : decode cX1_hasLaw 55 = .ok (.ifCond .ne 7, 3) := by decide +kernel
theorem dX1_hasLaw_58 : decode cX1_hasLaw 58 = .ok (.iconst 1, 1) := by decide +kernel
theorem dX1_hasLaw_59 : decode cX1_hasLaw 59 = .ok (.goto 4, 3) := by decide +kernel
theorem dX1_hasLaw_62 : decode cX1_hasLaw 62 = .ok (.iconst 0, 1) := by decide +kernel
theorem dX1_hasLaw_63 : decode cX1_hasLaw 63 = .ok (.istore 7, 2) := by decide +kernel
theorem dX1_hasLaw_65 : decode cX1_hasLaw 65 = .ok (.iload_n 2, 1) := by decide +kernel
theorem dX1_hasLaw_66 : decode cX1_hasLaw 66 = .ok (.iload 7, 2) := by decide +kernel
theorem dX1_hasLaw_68 : decode cX1_hasLaw 68 = .ok (.ifCond .eq 64, 3) := by decide +kernel
theorem dX1_hasLaw_71 : decode cX1_hasLaw 71 = .ok (.aload_n 0, 1) := by decide +kernel
theorem dX1_hasLaw_72 : decode cX1_hasLaw 72 = .ok (.getfield 29, 3) := by decide +kernel
theorem dX1_hasLaw_75 : decode cX1_hasLaw 75 = .ok (.iload 6, 2) := by decide +kernel
theorem dX1_hasLaw_77 : decode cX1_hasLaw 77 = .ok (.iload_n 3, 1) := by decide +kernel
theorem dX1_hasLaw_78 : decode cX1_hasLaw 78 = .ok (.iconst 1, 1) := by decide +kernel
theorem dX1_hasLaw_79 : decode cX1_hasLaw 79 = .ok (.iload 4, 2) := by decide +kernel
theorem dX1_hasLaw_81 : decode cX1_hasLaw 81 = .ok (.ishl, 1) := by decide +kernel
theorem dX1_hasLaw_82 : decode cX1_hasLaw 82 = .ok (.ior, 1) := by decide +kernel
theorem dX1_hasLaw_83 : decode cX1_hasLaw 83 = .ok (.iadd, 1) := by decide +kernel
theorem dX1_hasLaw_84 : decode cX1_hasLaw 84 = .ok (.iaload, 1) := by decide +kernel
theorem dX1_hasLaw_85 : decode cX1_hasLaw 85 = .ok (.aload_n 0, 1) := by decide +kernel
theorem dX1_hasLaw_86 : decode cX1_hasLaw 86 = .ok (.getfield 29, 3) := by decide +kernel
theorem dX1_hasLaw_89 : decode cX1_hasLaw 89 = .ok (.iload 6, 2) := by decide +kernel
theorem dX1_hasLaw_91 : decode cX1_hasLaw 91 = .ok (.iload_n 3, 1) := by decide +kernel
theorem dX1_hasLaw_92 : decode cX1_hasLaw 92 = .ok (.iconst 1, 1) := by decide +kernel
theorem dX1_hasLaw_93 : decode cX1_hasLaw 93 = .ok (.iload 5, 2) := by decide +kernel
theorem dX1_hasLaw_95 : decode cX1_hasLaw 95 = .ok (.ishl, 1) := by decide +kernel
theorem dX1_hasLaw_96 : decode cX1_hasLaw 96 = .ok (.ior, 1) := by decide +kernel
theorem dX1_hasLaw_97 : decode cX1_hasLaw 97 = .ok (.iadd, 1) := by decide +kernel
theorem dX1_hasLaw_98 : decode cX1_hasLaw 98 = .ok (.iaload, 1) := by decide +kernel
theorem dX1_hasLaw_99 : decode cX1_hasLaw 99 = .ok (.iadd, 1) := by decide +kernel
theorem dX1_hasLaw_100 : decode cX1_hasLaw 100 = .ok (.aload_n 0, 1) := by decide +kernel
theorem dX1_hasLaw_101 : decode cX1_hasLaw 101 = .ok (.getfield 29, 3) := by decide +kernel
theorem dX1_hasLaw_104 : decode cX1_hasLaw 104 = .ok (.iload 6, 2) := by decide +kernel
theorem dX1_hasLaw_106 : decode cX1_hasLaw 106 = .ok (.iload_n 3, 1) := by decide +kernel
theorem dX1_hasLaw_107 : decode cX1_hasLaw 107 = .ok (.iadd, 1) := by decide +kernel
theorem dX1_hasLaw_108 : decode cX1_hasLaw 108 = .ok (.iaload, 1) := by decide +kernel
theorem dX1_hasLaw_109 : decode cX1_hasLaw 109 = .ok (.aload_n 0, 1) := by decide +kernel
theorem dX1_hasLaw_110 : decode cX1_hasLaw 110 = .ok (.getfield 29, 3) := by decide +kernel
theorem dX1_hasLaw_113 : decode cX1_hasLaw 113 = .ok (.iload 6, 2) := by decide +kernel
theorem dX1_hasLaw_115 : decode cX1_hasLaw 115 = .ok (.iload_n 3, 1) := by decide +kernel
theorem dX1_hasLaw_116 : decode cX1_hasLaw 116 = .ok (.iconst 1, 1) := by decide +kernel
theorem dX1_hasLaw_117 : decode cX1_hasLaw 117 = .ok (.iload 4, 2) := by decide +kernel
theorem dX1_hasLaw_119 : decode cX1_hasLaw 119 = .ok (.ishl, 1) := by decide +kernel
theorem dX1_hasLaw_120 : decode cX1_hasLaw 120 = .ok (.ior, 1) := by decide +kernel
theorem dX1_hasLaw_121 : decode cX1_hasLaw 121 = .ok (.iconst 1, 1) := by decide +kernel
theorem dX1_hasLaw_122 : decode cX1_hasLaw 122 = .ok (.iload 5, 2) := by decide +kernel
theorem dX1_hasLaw_124 : decode cX1_hasLaw 124 = .ok (.ishl, 1) := by decide +kernel
theorem dX1_hasLaw_125 : decode cX1_hasLaw 125 = .ok (.ior, 1) := by decide +kernel
theorem dX1_hasLaw_126 : decode cX1_hasLaw 126 = .ok (.iadd, 1) := by decide +kernel
theorem dX1_hasLaw_127 : decode cX1_hasLaw 127 = .ok (.iaload, 1) := by decide +kernel
theorem dX1_hasLaw_128 : decode cX1_hasLaw 128 = .ok (.iadd, 1) := by decide +kernel
theorem dX1_hasLaw_129 : decode cX1_hasLaw 129 = .ok (.if_icmp .lt 7, 3) := by decide +kernel
theorem dX1_hasLaw_132 : decode cX1_hasLaw 132 = .ok (.iconst 1, 1) := by decide +kernel
theorem dX1_hasLaw_133 : decode cX1_hasLaw 133 = .ok (.goto 4, 3) := by decide +kernel
theorem dX1_hasLaw_136 : decode cX1_hasLaw 136 = .ok (.iconst 0, 1) := by decide +kernel
theorem dX1_hasLaw_137 : decode cX1_hasLaw 137 = .ok (.iand, 1) := by decide +kernel
theorem dX1_hasLaw_138 : decode cX1_hasLaw 138 = .ok (.istore_n 2, 1) := by decide +kernel
theorem dX1_hasLaw_139 : decode cX1_hasLaw 139 = .ok (.iinc 5 1, 3) := by decide +kernel
theorem dX1_hasLaw_142 : decode cX1_hasLaw 142 = .ok (.goto (-115), 3) := by decide +kernel
theorem dX1_hasLaw_145 : decode cX1_hasLaw 145 = .ok (.iinc 4 1, 3) := by decide +kernel
theorem dX1_hasLaw_148 : decode cX1_hasLaw 148 = .ok (.goto (-133), 3) := by decide +kernel
theorem dX1_hasLaw_151 : decode cX1_hasLaw 151 = .ok (.iinc 3 1, 3) := by decide +kernel
theorem dX1_hasLaw_154 : decode cX1_hasLaw 154 = .ok (.goto (-150), 3) := by decide +kernel
theorem dX1_hasLaw_157 : decode cX1_hasLaw 157 = .ok (.iload_n 2, 1) := by decide +kernel
theorem dX1_hasLaw_158 : decode cX1_hasLaw 158 = .ok (.ireturn, 1) := by decide +kernel
set_option maxRecDepth 20000 in
theorem ggX1_isLawful_X1_isFunction : GoodIn wsX1_isLawful wsX1_isFunction := goodIn_r _ [6, 7, 8, 9, 5, 10, 24, 25, 26, 27, 28, 29, 30, 31, 32, 33, 34] (by decide +kernel) (by decide +kernel)
set_option maxRecDepth 20000 in
theorem gX1_isLawful_X1_isFunction : GoodIn wsX1_isLawful (wsV RX1 83 RX1 yX1_isFunction wsX1_isFunction) := goodIn_app (goodIn_of _ (by decide +kernel)) ggX1_isLawful_X1_isFunction
set_option maxRecDepth 20000 in
theorem ggX1_isLawful_X1_hasLaw : GoodIn wsX1_isLawful wsX1_hasLaw := goodIn_r _ [14, 15, 16, 17, 18, 19, 5, 20, 8, 9, 10, 21, 22, 23, 24, 25, 26, 27, 28, 29, 30, 31, 32, 33, 34] (by decide +kernel) (by decide +kernel)
set_option maxRecDepth 20000 in
theorem gX1_isLawful_X1_hasLaw : GoodIn wsX1_isLawful (wsV RX1 86 RX1 yX1_hasLaw wsX1_hasLaw) := goodIn_app (goodIn_of _ (by decide +kernel)) ggX1_isLawful_X1_hasLaw
theorem dX1_isLawful_0 : decode cX1_isLawful 0 = .ok (.aload_n 0, 1) := by decide +kernel
theorem dX1_isLawful_1 : decode cX1_isLawful 1 = .ok (.aload_n 0, 1) := by decide +kernel
theorem dX1_isLawful_2 : decode cX1_isLawful 2 = .ok (.iload_n 1, 1) := by decide +kernel
theorem dX1_isLawful_3 : decode cX1_isLawful 3 = .ok (.invokevirtual 83, 3) := by decide +kernel
theorem dX1_isLawful_6 : decode cX1_isLawful 6 = .ok (.ifCond .eq 7, 3) := by decide +kernel
theorem dX1_isLawful_9 : decode cX1_isLawful 9 = .ok (.iconst 0, 1) := by decide +kernel
theorem dX1_isLawful_10 : decode cX1_isLawful 10 = .ok (.goto 4, 3) := by decide +kernel
theorem dX1_isLawful_13 : decode cX1_isLawful 13 = .ok (.iconst 1, 1) := by decide +kernel
theorem dX1_isLawful_14 : decode cX1_isLawful 14 = .ok (.putfield 44, 3) := by decide +kernel
theorem dX1_isLawful_17 : decode cX1_isLawful 17 = .ok (.aload_n 0, 1) := by decide +kernel
theorem dX1_isLawful_18 : decode cX1_isLawful 18 = .ok (.getfield 44, 3) := by decide +kernel
theorem dX1_isLawful_21 : decode cX1_isLawful 21 = .ok (.ifCond .ne 15, 3) := by decide +kernel
theorem dX1_isLawful_24 : decode cX1_isLawful 24 = .ok (.aload_n 0, 1) := by decide +kernel
theorem dX1_isLawful_25 : decode cX1_isLawful 25 = .ok (.iload_n 1, 1) := by decide +kernel
theorem dX1_isLawful_26 : decode cX1_isLawful 26 = .ok (.invokevirtual 86, 3) := by decide +kernel
theorem dX1_isLawful_29 : decode cX1_isLawful 29 = .ok (.ifCond .eq 7, 3) := by decide +kernel
theorem dX1_isLawful_32 : decode cX1_isLawful 32 = .ok (.iconst 1, 1) := by decide +kernel
theorem dX1_isLawful_33 : decode cX1_isLawful 33 = .ok (.goto 4, 3) := by decide +kernel
theorem dX1_isLawful_36 : decode cX1_isLawful 36 = .ok (.iconst 0, 1) := by decide +kernel
theorem dX1_isLawful_37 : decode cX1_isLawful 37 = .ok (.ireturn, 1) := by decide +kernel
set_option maxRecDepth 20000 in
theorem ggX1_rises_X1_isFunction : GoodIn wsX1_rises wsX1_isFunction := goodIn_r _ [8, 9, 10, 11, 7, 12, 17, 18, 19, 20, 21, 22, 23, 24, 25, 26, 27] (by decide +kernel) (by decide +kernel)
set_option maxRecDepth 20000 in
theorem gX1_rises_X1_isFunction : GoodIn wsX1_rises (wsV RX1 83 RX1 yX1_isFunction wsX1_isFunction) := goodIn_app (goodIn_of _ (by decide +kernel)) ggX1_rises_X1_isFunction
set_option maxRecDepth 20000 in
theorem ggX1_rises_X1_isSet : GoodIn wsX1_rises wsX1_isSet := goodIn_r _ [16, 2, 10, 11, 7, 12, 17, 18, 19, 20, 21, 22, 23, 24, 25, 26, 27] (by decide +kernel) (by decide +kernel)
set_option maxRecDepth 20000 in
theorem gX1_rises_X1_isSet : GoodIn wsX1_rises (wsV RX1 67 RX1 yX1_isSet wsX1_isSet) := goodIn_app (goodIn_of _ (by decide +kernel)) ggX1_rises_X1_isSet
theorem dX1_rises_0 : decode cX1_rises 0 = .ok (.aload_n 0, 1) := by decide +kernel
theorem dX1_rises_1 : decode cX1_rises 1 = .ok (.aload_n 0, 1) := by decide +kernel
theorem dX1_rises_2 : decode cX1_rises 2 = .ok (.iload_n 1, 1) := by decide +kernel
theorem dX1_rises_3 : decode cX1_rises 3 = .ok (.invokevirtual 83, 3) := by decide +kernel
theorem dX1_rises_6 : decode cX1_rises 6 = .ok (.ifCond .eq 7, 3) := by decide +kernel
theorem dX1_rises_9 : decode cX1_rises 9 = .ok (.iconst 0, 1) := by decide +kernel
theorem dX1_rises_10 : decode cX1_rises 10 = .ok (.goto 4, 3) := by decide +kernel
theorem dX1_rises_13 : decode cX1_rises 13 = .ok (.iconst 1, 1) := by decide +kernel
theorem dX1_rises_14 : decode cX1_rises 14 = .ok (.putfield 44, 3) := by decide +kernel
theorem dX1_rises_17 : decode cX1_rises 17 = .ok (.aload_n 0, 1) := by decide +kernel
theorem dX1_rises_18 : decode cX1_rises 18 = .ok (.getfield 44, 3) := by decide +kernel
theorem dX1_rises_21 : decode cX1_rises 21 = .ok (.ifCond .ne 7, 3) := by decide +kernel
theorem dX1_rises_24 : decode cX1_rises 24 = .ok (.iconst 1, 1) := by decide +kernel
theorem dX1_rises_25 : decode cX1_rises 25 = .ok (.goto 4, 3) := by decide +kernel
theorem dX1_rises_28 : decode cX1_rises 28 = .ok (.iconst 0, 1) := by decide +kernel
theorem dX1_rises_29 : decode cX1_rises 29 = .ok (.istore_n 2, 1) := by decide +kernel
theorem dX1_rises_30 : decode cX1_rises 30 = .ok (.iconst 0, 1) := by decide +kernel
theorem dX1_rises_31 : decode cX1_rises 31 = .ok (.istore_n 3, 1) := by decide +kernel
theorem dX1_rises_32 : decode cX1_rises 32 = .ok (.aload_n 0, 1) := by decide +kernel
theorem dX1_rises_33 : decode cX1_rises 33 = .ok (.iload_n 3, 1) := by decide +kernel
theorem dX1_rises_34 : decode cX1_rises 34 = .ok (.invokevirtual 67, 3) := by decide +kernel
theorem dX1_rises_37 : decode cX1_rises 37 = .ok (.ifCond .eq 69, 3) := by decide +kernel
theorem dX1_rises_40 : decode cX1_rises 40 = .ok (.iload_n 2, 1) := by decide +kernel
theorem dX1_rises_41 : decode cX1_rises 41 = .ok (.ifCond .eq 65, 3) := by decide +kernel
theorem dX1_rises_44 : decode cX1_rises 44 = .ok (.iconst 0, 1) := by decide +kernel
theorem dX1_rises_45 : decode cX1_rises 45 = .ok (.istore 4, 2) := by decide +kernel
theorem dX1_rises_47 : decode cX1_rises 47 = .ok (.iload 4, 2) := by decide +kernel
theorem dX1_rises_49 : decode cX1_rises 49 = .ok (.aload_n 0, 1) := by decide +kernel
theorem dX1_rises_50 : decode cX1_rises 50 = .ok (.getfield 7, 3) := by decide +kernel
theorem dX1_rises_53 : decode cX1_rises 53 = .ok (.if_icmp .ge 47, 3) := by decide +kernel
theorem dX1_rises_56 : decode cX1_rises 56 = .ok (.iload_n 2, 1) := by decide +kernel
theorem dX1_rises_57 : decode cX1_rises 57 = .ok (.aload_n 0, 1) := by decide +kernel
theorem dX1_rises_58 : decode cX1_rises 58 = .ok (.getfield 29, 3) := by decide +kernel
theorem dX1_rises_61 : decode cX1_rises 61 = .ok (.bipush 64, 2) := by decide +kernel
theorem dX1_rises_63 : decode cX1_rises 63 = .ok (.iload_n 1, 1) := by decide +kernel
theorem dX1_rises_64 : decode cX1_rises 64 = .ok (.imul, 1) := by decide +kernel
theorem dX1_rises_65 : decode cX1_rises 65 = .ok (.iload_n 3, 1) := by decide +kernel
theorem dX1_rises_66 : decode cX1_rises 66 = .ok (.iadd, 1) := by decide +kernel
theorem dX1_rises_67 : decode cX1_rises 67 = .ok (.iaload, 1) := by decide +kernel
theorem dX1_rises_68 : decode cX1_rises 68 = .ok (.aload_n 0, 1) := by decide +kernel
theorem dX1_rises_69 : decode cX1_rises 69 = .ok (.getfield 29, 3) := by decide +kernel
theorem dX1_rises_72 : decode cX1_rises 72 = .ok (.bipush 64, 2) := by decide +kernel
theorem dX1_rises_74 : decode cX1_rises 74 = .ok (.iload_n 1, 1) := by decide +kernel
theorem dX1_rises_75 : decode cX1_rises 75 = .ok (.imul, 1) := by decide +kernel
theorem dX1_rises_76 : decode cX1_rises 76 = .ok (.iload_n 3, 1) := by decide +kernel
theorem dX1_rises_77 : decode cX1_rises 77 = .ok (.iconst 1, 1) := by decide +kernel
theorem dX1_rises_78 : decode cX1_rises 78 = .ok (.iload 4, 2) := by decide +kernel
theorem dX1_rises_80 : decode cX1_rises 80 = .ok (.ishl, 1) := by decide +kernel
theorem dX1_rises_81 : decode cX1_rises 81 = .ok (.ior, 1) := by decide +kernel
theorem dX1_rises_82 : decode cX1_rises 82 = .ok (.iadd, 1) := by decide +kernel
theorem dX1_rises_83 : decode cX1_rises 83 = .ok (.iaload, 1) := by decide +kernel
theorem dX1_rises_84 : decode cX1_rises 84 = .ok (.if_icmp .gt 7, 3) := by decide +kernel
theorem dX1_rises_87 : decode cX1_rises 87 = .ok (.iconst 1, 1) := by decide +kernel
theorem dX1_rises_88 : decode cX1_rises 88 = .ok (.goto 4, 3) := by decide +kernel
theorem dX1_rises_91 : decode cX1_rises 91 = .ok (.iconst 0, 1) := by decide +kernel
theorem dX1_rises_92 : decode cX1_rises 92 = .ok (.iand, 1) := by decide +kernel
theorem dX1_rises_93 : decode cX1_rises 93 = .ok (.istore_n 2, 1) := by decide +kernel
theorem dX1_rises_94 : decode cX1_rises 94 = .ok (.iinc 4 1, 3) := by decide +kernel
theorem dX1_rises_97 : decode cX1_rises 97 = .ok (.goto (-50), 3) := by decide +kernel
theorem dX1_rises_100 : decode cX1_rises 100 = .ok (.iinc 3 1, 3) := by decide +kernel
theorem dX1_rises_103 : decode cX1_rises 103 = .ok (.goto (-71), 3) := by decide +kernel
theorem dX1_rises_106 : decode cX1_rises 106 = .ok (.iload_n 2, 1) := by decide +kernel
theorem dX1_rises_107 : decode cX1_rises 107 = .ok (.ireturn, 1) := by decide +kernel
set_option maxRecDepth 20000 in
theorem ggX1_leastOf_X1_isSet : GoodIn wsX1_leastOf wsX1_isSet := goodIn_r _ [6, 7, 8, 9, 5, 10, 11, 12, 13, 14, 15, 16, 17, 18, 19, 20, 21] (by decide +kernel) (by decide +kernel)
set_option maxRecDepth 20000 in
theorem gX1_leastOf_X1_isSet : GoodIn wsX1_leastOf (wsV RX1 67 RX1 yX1_isSet wsX1_isSet) := goodIn_app (goodIn_of _ (by decide +kernel)) ggX1_leastOf_X1_isSet
theorem dX1_leastOf_0 : decode cX1_leastOf 0 = .ok (.iconst 0, 1) := by decide +kernel
theorem dX1_leastOf_1 : decode cX1_leastOf 1 = .ok (.istore_n 2, 1) := by decide +kernel
theorem dX1_leastOf_2 : decode cX1_leastOf 2 = .ok (.iconst 0, 1) := by decide +kernel
theorem dX1_leastOf_3 : decode cX1_leastOf 3 = .ok (.istore_n 3, 1) := by decide +kernel
theorem dX1_leastOf_4 : decode cX1_leastOf 4 = .ok (.aload_n 0, 1) := by decide +kernel
theorem dX1_leastOf_5 : decode cX1_leastOf 5 = .ok (.iload_n 3, 1) := by decide +kernel
theorem dX1_leastOf_6 : decode cX1_leastOf 6 = .ok (.invokevirtual 67, 3) := by decide +kernel
theorem dX1_leastOf_9 : decode cX1_leastOf 9 = .ok (.ifCond .eq 40, 3) := by decide +kernel
theorem dX1_leastOf_12 : decode cX1_leastOf 12 = .ok (.aload_n 0, 1) := by decide +kernel
theorem dX1_leastOf_13 : decode cX1_leastOf 13 = .ok (.getfield 29, 3) := by decide +kernel
theorem dX1_leastOf_16 : decode cX1_leastOf 16 = .ok (.bipush 64, 2) := by decide +kernel
theorem dX1_leastOf_18 : decode cX1_leastOf 18 = .ok (.iload_n 1, 1) := by decide +kernel
theorem dX1_leastOf_19 : decode cX1_leastOf 19 = .ok (.imul, 1) := by decide +kernel
theorem dX1_leastOf_20 : decode cX1_leastOf 20 = .ok (.iload_n 3, 1) := by decide +kernel
theorem dX1_leastOf_21 : decode cX1_leastOf 21 = .ok (.iadd, 1) := by decide +kernel
theorem dX1_leastOf_22 : decode cX1_leastOf 22 = .ok (.iaload, 1) := by decide +kernel
theorem dX1_leastOf_23 : decode cX1_leastOf 23 = .ok (.iload_n 2, 1) := by decide +kernel
theorem dX1_leastOf_24 : decode cX1_leastOf 24 = .ok (.if_icmp .ge 17, 3) := by decide +kernel
theorem dX1_leastOf_27 : decode cX1_leastOf 27 = .ok (.aload_n 0, 1) := by decide +kernel
theorem dX1_leastOf_28 : decode cX1_leastOf 28 = .ok (.getfield 29, 3) := by decide +kernel
theorem dX1_leastOf_31 : decode cX1_leastOf 31 = .ok (.bipush 64, 2) := by decide +kernel
theorem dX1_leastOf_33 : decode cX1_leastOf 33 = .ok (.iload_n 1, 1) := by decide +kernel
theorem dX1_leastOf_34 : decode cX1_leastOf 34 = .ok (.imul, 1) := by decide +kernel
theorem dX1_leastOf_35 : decode cX1_leastOf 35 = .ok (.iload_n 3, 1) := by decide +kernel
theorem dX1_leastOf_36 : decode cX1_leastOf 36 = .ok (.iadd, 1) := by decide +kernel
theorem dX1_leastOf_37 : decode cX1_leastOf 37 = .ok (.iaload, 1) := by decide +kernel
theorem dX1_leastOf_38 : decode cX1_leastOf 38 = .ok (.goto 4, 3) := by decide +kernel
theorem dX1_leastOf_41 : decode cX1_leastOf 41 = .ok (.iload_n 2, 1) := by decide +kernel
theorem dX1_leastOf_42 : decode cX1_leastOf 42 = .ok (.istore_n 2, 1) := by decide +kernel
theorem dX1_leastOf_43 : decode cX1_leastOf 43 = .ok (.iinc 3 1, 3) := by decide +kernel
theorem dX1_leastOf_46 : decode cX1_leastOf 46 = .ok (.goto (-42), 3) := by decide +kernel
theorem dX1_leastOf_49 : decode cX1_leastOf 49 = .ok (.iload_n 2, 1) := by decide +kernel
theorem dX1_leastOf_50 : decode cX1_leastOf 50 = .ok (.ireturn, 1) := by decide +kernel
set_option maxRecDepth 20000 in
theorem ggX1_least_X1_isFunction : GoodIn wsX1_least wsX1_isFunction := goodIn_r _ [6, 7, 8, 9, 5, 10, 28, 29, 30, 31, 32, 33, 34, 35, 36, 37, 38] (by decide +kernel) (by decide +kernel)
set_option maxRecDepth 20000 in
theorem gX1_least_X1_isFunction : GoodIn wsX1_least (wsV RX1 83 RX1 yX1_isFunction wsX1_isFunction) := goodIn_app (goodIn_of _ (by decide +kernel)) ggX1_least_X1_isFunction
set_option maxRecDepth 20000 in
theorem ggX1_least_X1_hasLaw : GoodIn wsX1_least wsX1_hasLaw := goodIn_r _ [14, 15, 16, 17, 18, 19, 5, 20, 8, 9, 10, 21, 22, 23, 28, 29, 30, 31, 32, 33, 34, 35, 36, 37, 38] (by decide +kernel) (by decide +kernel)
set_option maxRecDepth 20000 in
theorem gX1_least_X1_hasLaw : GoodIn wsX1_least (wsV RX1 86 RX1 yX1_hasLaw wsX1_hasLaw) := goodIn_app (goodIn_of _ (by decide +kernel)) ggX1_least_X1_hasLaw
set_option maxRecDepth 20000 in
theorem ggX1_least_X1_leastOf : GoodIn wsX1_least wsX1_leastOf := goodIn_r _ [27, 16, 17, 18, 19, 5, 20, 15, 8, 9, 10, 28, 29, 30, 31, 32, 33, 34, 35, 36, 37, 38] (by decide +kernel) (by decide +kernel)
set_option maxRecDepth 20000 in
theorem gX1_least_X1_leastOf : GoodIn wsX1_least (wsV RX1 89 RX1 yX1_leastOf wsX1_leastOf) := goodIn_app (goodIn_of _ (by decide +kernel)) ggX1_least_X1_leastOf
theorem dX1_least_0 : decode cX1_least 0 = .ok (.aload_n 0, 1) := by decide +kernel
theorem dX1_least_1 : decode cX1_least 1 = .ok (.aload_n 0, 1) := by decide +kernel
theorem dX1_least_2 : decode cX1_least 2 = .ok (.iload_n 1, 1) := by decide +kernel
theorem dX1_least_3 : decode cX1_least 3 = .ok (.invokevirtual 83, 3) := by decide +kernel
theorem dX1_least_6 : decode cX1_least 6 = .ok (.ifCond .ne 7, 3) := by decide +kernel
theorem dX1_least_9 : decode cX1_least 9 = .ok (.iconst 1, 1) := by decide +kernel
theorem dX1_least_10 : decode cX1_least 10 = .ok (.goto 16, 3) := by decide +kernel
theorem dX1_least_13 : decode cX1_least 13 = .ok (.aload_n 0, 1) := by decide +kernel
theorem dX1_least_14 : decode cX1_least 14 = .ok (.iload_n 1, 1) := by decide +kernel
theorem dX1_least_15 : decode cX1_least 15 = .ok (.invokevirtual 86, 3) := by decide +kernel
theorem dX1_least_18 : decode cX1_least 18 = .ok (.ifCond .ne 7, 3) := by decide +kernel
theorem dX1_least_21 : decode cX1_least 21 = .ok (.iconst 2, 1) := by decide +kernel
theorem dX1_least_22 : decode cX1_least 22 = .ok (.goto 4, 3) := by decide +kernel
theorem dX1_least_25 : decode cX1_least 25 = .ok (.iconst 0, 1) := by decide +kernel
theorem dX1_least_26 : decode cX1_least 26 = .ok (.putfield 44, 3) := by decide +kernel
theorem dX1_least_29 : decode cX1_least 29 = .ok (.aload_n 0, 1) := by decide +kernel
theorem dX1_least_30 : decode cX1_least 30 = .ok (.getfield 44, 3) := by decide +kernel
theorem dX1_least_33 : decode cX1_least 33 = .ok (.ifCond .le 7, 3) := by decide +kernel
theorem dX1_least_36 : decode cX1_least 36 = .ok (.iconst 0, 1) := by decide +kernel
theorem dX1_least_37 : decode cX1_least 37 = .ok (.goto 8, 3) := by decide +kernel
theorem dX1_least_40 : decode cX1_least 40 = .ok (.aload_n 0, 1) := by decide +kernel
theorem dX1_least_41 : decode cX1_least 41 = .ok (.iload_n 1, 1) := by decide +kernel
theorem dX1_least_42 : decode cX1_least 42 = .ok (.invokevirtual 89, 3) := by decide +kernel
theorem dX1_least_45 : decode cX1_least 45 = .ok (.ireturn, 1) := by decide +kernel
set_option maxRecDepth 20000 in
theorem ggX1_leastSets_X1_isFunction : GoodIn wsX1_leastSets wsX1_isFunction := goodIn_r _ [8, 9, 10, 11, 7, 12, 28, 29, 30, 31, 32, 33, 34, 35, 36, 37, 38] (by decide +kernel) (by decide +kernel)
set_option maxRecDepth 20000 in
theorem gX1_leastSets_X1_isFunction : GoodIn wsX1_leastSets (wsV RX1 83 RX1 yX1_isFunction wsX1_isFunction) := goodIn_app (goodIn_of _ (by decide +kernel)) ggX1_leastSets_X1_isFunction
set_option maxRecDepth 20000 in
theorem ggX1_leastSets_X1_hasLaw : GoodIn wsX1_leastSets wsX1_hasLaw := goodIn_r _ [16, 2, 3, 17, 18, 19, 7, 20, 10, 11, 12, 21, 22, 23, 28, 29, 30, 31, 32, 33, 34, 35, 36, 37, 38] (by decide +kernel) (by decide +kernel)
set_option maxRecDepth 20000 in
theorem gX1_leastSets_X1_hasLaw : GoodIn wsX1_leastSets (wsV RX1 86 RX1 yX1_hasLaw wsX1_hasLaw) := goodIn_app (goodIn_of _ (by decide +kernel)) ggX1_leastSets_X1_hasLaw
set_option maxRecDepth 20000 in
theorem ggX1_leastSets_X1_leastOf : GoodIn wsX1_leastSets wsX1_leastOf := goodIn_r _ [27, 3, 17, 18, 19, 7, 20, 2, 10, 11, 12, 28, 29, 30, 31, 32, 33, 34, 35, 36, 37, 38] (by decide +kernel) (by decide +kernel)
set_option maxRecDepth 20000 in
theorem gX1_leastSets_X1_leastOf : GoodIn wsX1_leastSets (wsV RX1 89 RX1 yX1_leastOf wsX1_leastOf) := goodIn_app (goodIn_of _ (by decide +kernel)) ggX1_leastSets_X1_leastOf
set_option maxRecDepth 20000 in
theorem ggX1_leastSets_X1_isSet : GoodIn wsX1_leastSets wsX1_isSet := goodIn_r _ [20, 2, 10, 11, 7, 12, 28, 29, 30, 31, 32, 33, 34, 35, 36, 37, 38] (by decide +kernel) (by decide +kernel)
set_option maxRecDepth 20000 in
theorem gX1_leastSets_X1_isSet : GoodIn wsX1_leastSets (wsV RX1 67 RX1 yX1_isSet wsX1_isSet) := goodIn_app (goodIn_of _ (by decide +kernel)) ggX1_leastSets_X1_isSet
theorem dX1_leastSets_0 : decode cX1_leastSets 0 = .ok (.aload_n 0, 1) := by decide +kernel
theorem dX1_leastSets_1 : decode cX1_leastSets 1 = .ok (.aload_n 0, 1) := by decide +kernel
theorem dX1_leastSets_2 : decode cX1_leastSets 2 = .ok (.iload_n 1, 1) := by decide +kernel
theorem dX1_leastSets_3 : decode cX1_leastSets 3 = .ok (.invokevirtual 83, 3) := by decide +kernel
theorem dX1_leastSets_6 : decode cX1_leastSets 6 = .ok (.ifCond .ne 7, 3) := by decide +kernel
theorem dX1_leastSets_9 : decode cX1_leastSets 9 = .ok (.iconst 1, 1) := by decide +kernel
theorem dX1_leastSets_10 : decode cX1_leastSets 10 = .ok (.goto 16, 3) := by decide +kernel
theorem dX1_leastSets_13 : decode cX1_leastSets 13 = .ok (.aload_n 0, 1) := by decide +kernel
theorem dX1_leastSets_14 : decode cX1_leastSets 14 = .ok (.iload_n 1, 1) := by decide +kernel
theorem dX1_leastSets_15 : decode cX1_leastSets 15 = .ok (.invokevirtual 86, 3) := by decide +kernel
theorem dX1_leastSets_18 : decode cX1_leastSets 18 = .ok (.ifCond .ne 7, 3) := by decide +kernel
theorem dX1_leastSets_21 : decode cX1_leastSets 21 = .ok (.iconst 2, 1) := by decide +kernel
theorem dX1_leastSets_22 : decode cX1_leastSets 22 = .ok (.goto 4, 3) := by decide +kernel
theorem dX1_leastSets_25 : decode cX1_leastSets 25 = .ok (.iconst 0, 1) := by decide +kernel
theorem dX1_leastSets_26 : decode cX1_leastSets 26 = .ok (.putfield 44, 3) := by decide +kernel
theorem dX1_leastSets_29 : decode cX1_leastSets 29 = .ok (.aload_n 0, 1) := by decide +kernel
theorem dX1_leastSets_30 : decode cX1_leastSets 30 = .ok (.getfield 44, 3) := by decide +kernel
theorem dX1_leastSets_33 : decode cX1_leastSets 33 = .ok (.ifCond .le 5, 3) := by decide +kernel
theorem dX1_leastSets_36 : decode cX1_leastSets 36 = .ok (.iconst 0, 1) := by decide +kernel
theorem dX1_leastSets_37 : decode cX1_leastSets 37 = .ok (.ireturn, 1) := by decide +kernel
theorem dX1_leastSets_38 : decode cX1_leastSets 38 = .ok (.aload_n 0, 1) := by decide +kernel
theorem dX1_leastSets_39 : decode cX1_leastSets 39 = .ok (.iload_n 1, 1) := by decide +kernel
theorem dX1_leastSets_40 : decode cX1_leastSets 40 = .ok (.invokevirtual 89, 3) := by decide +kernel
theorem dX1_leastSets_43 : decode cX1_leastSets 43 = .ok (.istore_n 3, 1) := by decide +kernel
theorem dX1_leastSets_44 : decode cX1_leastSets 44 = .ok (.iconst 1, 1) := by decide +kernel
theorem dX1_leastSets_45 : decode cX1_leastSets 45 = .ok (.aload_n 0, 1) := by decide +kernel
theorem dX1_leastSets_46 : decode cX1_leastSets 46 = .ok (.getfield 7, 3) := by decide +kernel
theorem dX1_leastSets_49 : decode cX1_leastSets 49 = .ok (.ishl, 1) := by decide +kernel
theorem dX1_leastSets_50 : decode cX1_leastSets 50 = .ok (.iconst 1, 1) := by decide +kernel
theorem dX1_leastSets_51 : decode cX1_leastSets 51 = .ok (.isub, 1) := by decide +kernel
theorem dX1_leastSets_52 : decode cX1_leastSets 52 = .ok (.istore 4, 2) := by decide +kernel
theorem dX1_leastSets_54 : decode cX1_leastSets 54 = .ok (.iconst 0, 1) := by decide +kernel
theorem dX1_leastSets_55 : decode cX1_leastSets 55 = .ok (.istore 5, 2) := by decide +kernel
theorem dX1_leastSets_57 : decode cX1_leastSets 57 = .ok (.iconst 0, 1) := by decide +kernel
theorem dX1_leastSets_58 : decode cX1_leastSets 58 = .ok (.istore 6, 2) := by decide +kernel
theorem dX1_leastSets_60 : decode cX1_leastSets 60 = .ok (.aload_n 0, 1) := by decide +kernel
theorem dX1_leastSets_61 : decode cX1_leastSets 61 = .ok (.iload 6, 2) := by decide +kernel
theorem dX1_leastSets_63 : decode cX1_leastSets 63 = .ok (.invokevirtual 67, 3) := by decide +kernel
theorem dX1_leastSets_66 : decode cX1_leastSets 66 = .ok (.ifCond .eq 64, 3) := by decide +kernel
theorem dX1_leastSets_69 : decode cX1_leastSets 69 = .ok (.iload 4, 2) := by decide +kernel
theorem dX1_leastSets_71 : decode cX1_leastSets 71 = .ok (.aload_n 0, 1) := by decide +kernel
theorem dX1_leastSets_72 : decode cX1_leastSets 72 = .ok (.getfield 29, 3) := by decide +kernel
theorem dX1_leastSets_75 : decode cX1_leastSets 75 = .ok (.bipush 64, 2) := by decide +kernel
theorem dX1_leastSets_77 : decode cX1_leastSets 77 = .ok (.iload_n 1, 1) := by decide +kernel
theorem dX1_leastSets_78 : decode cX1_leastSets 78 = .ok (.imul, 1) := by decide +kernel
theorem dX1_leastSets_79 : decode cX1_leastSets 79 = .ok (.iload 6, 2) := by decide +kernel
theorem dX1_leastSets_81 : decode cX1_leastSets 81 = .ok (.iadd, 1) := by decide +kernel
theorem dX1_leastSets_82 : decode cX1_leastSets 82 = .ok (.iaload, 1) := by decide +kernel
theorem dX1_leastSets_83 : decode cX1_leastSets 83 = .ok (.iload_n 3, 1) := by decide +kernel
theorem dX1_leastSets_84 : decode cX1_leastSets 84 = .ok (.if_icmp .ne 8, 3) := by decide +kernel
theorem dX1_leastSets_87 : decode cX1_leastSets 87 = .ok (.iload 6, 2) := by decide +kernel
theorem dX1_leastSets_89 : decode cX1_leastSets 89 = .ok (.goto 5, 3) := by decide +kernel
theorem dX1_leastSets_92 : decode cX1_leastSets 92 = .ok (.iload 4, 2) := by decide +kernel
theorem dX1_leastSets_94 : decode cX1_leastSets 94 = .ok (.iand, 1) := by decide +kernel
theorem dX1_leastSets_95 : decode cX1_leastSets 95 = .ok (.istore 4, 2) := by decide +kernel
theorem dX1_leastSets_97 : decode cX1_leastSets 97 = .ok (.iload 5, 2) := by decide +kernel
theorem dX1_leastSets_99 : decode cX1_leastSets 99 = .ok (.aload_n 0, 1) := by decide +kernel
theorem dX1_leastSets_100 : decode cX1_leastSets 100 = .ok (.getfield 29, 3) := by decide +kernel
theorem dX1_leastSets_103 : decode cX1_leastSets 103 = .ok (.bipush 64, 2) := by decide +kernel
theorem dX1_leastSets_105 : decode cX1_leastSets 105 = .ok (.iload_n 1, 1) := by decide +kernel
theorem dX1_leastSets_106 : decode cX1_leastSets 106 = .ok (.imul, 1) := by decide +kernel
theorem dX1_leastSets_107 : decode cX1_leastSets 107 = .ok (.iload 6, 2) := by decide +kernel
theorem dX1_leastSets_109 : decode cX1_leastSets 109 = .ok (.iadd, 1) := by decide +kernel
theorem dX1_leastSets_110 : decode cX1_leastSets 110 = .ok (.iaload, 1) := by decide +kernel
theorem dX1_leastSets_111 : decode cX1_leastSets 111 = .ok (.iload_n 3, 1) := by decide +kernel
theorem dX1_leastSets_112 : decode cX1_leastSets 112 = .ok (.if_icmp .ne 8, 3) := by decide +kernel
theorem dX1_leastSets_115 : decode cX1_leastSets 115 = .ok (.iload 6, 2) := by decide +kernel
theorem dX1_leastSets_117 : decode cX1_leastSets 117 = .ok (.goto 4, 3) := by decide +kernel
theorem dX1_leastSets_120 : decode cX1_leastSets 120 = .ok (.iconst 0, 1) := by decide +kernel
theorem dX1_leastSets_121 : decode cX1_leastSets 121 = .ok (.ior, 1) := by decide +kernel
theorem dX1_leastSets_122 : decode cX1_leastSets 122 = .ok (.istore 5, 2) := by decide +kernel
theorem dX1_leastSets_124 : decode cX1_leastSets 124 = .ok (.iinc 6 1, 3) := by decide +kernel
theorem dX1_leastSets_127 : decode cX1_leastSets 127 = .ok (.goto (-67), 3) := by decide +kernel
theorem dX1_leastSets_130 : decode cX1_leastSets 130 = .ok (.iload_n 2, 1) := by decide +kernel
theorem dX1_leastSets_131 : decode cX1_leastSets 131 = .ok (.ifCond .eq 8, 3) := by decide +kernel
theorem dX1_leastSets_134 : decode cX1_leastSets 134 = .ok (.iload 5, 2) := by decide +kernel
theorem dX1_leastSets_136 : decode cX1_leastSets 136 = .ok (.goto 5, 3) := by decide +kernel
theorem dX1_leastSets_139 : decode cX1_leastSets 139 = .ok (.iload 4, 2) := by decide +kernel
theorem dX1_leastSets_141 : decode cX1_leastSets 141 = .ok (.ireturn, 1) := by decide +kernel
set_option maxRecDepth 20000 in
theorem ggX1_leastSet_X1_leastSets : GoodIn wsX1_leastSet wsX1_leastSets := goodIn_r _ [5, 6, 7, 8, 9, 10, 11, 4, 12, 13, 14, 15, 16, 17, 18, 19, 20, 21, 22, 23, 24, 25, 26, 27, 28, 29, 30, 31, 32, 33, 34, 35, 36, 37, 38, 39, 40, 41, 42] (by decide +kernel) (by decide +kernel)
set_option maxRecDepth 20000 in
theorem gX1_leastSet_X1_leastSets : GoodIn wsX1_leastSet (wsV RX1 92 RX1 yX1_leastSets wsX1_leastSets) := goodIn_app (goodIn_of _ (by decide +kernel)) ggX1_leastSet_X1_leastSets
theorem dX1_leastSet_0 : decode cX1_leastSet 0 = .ok (.aload_n 0, 1) := by decide +kernel
theorem dX1_leastSet_1 : decode cX1_leastSet 1 = .ok (.iload_n 1, 1) := by decide +kernel
theorem dX1_leastSet_2 : decode cX1_leastSet 2 = .ok (.iload_n 2, 1) := by decide +kernel
theorem dX1_leastSet_3 : decode cX1_leastSet 3 = .ok (.invokevirtual 92, 3) := by decide +kernel
theorem dX1_leastSet_6 : decode cX1_leastSet 6 = .ok (.ireturn, 1) := by decide +kernel
set_option maxRecDepth 20000 in
theorem ggX1_leastSetAnew_X1_leastSets : GoodIn wsX1_leastSetAnew wsX1_leastSets := goodIn_r _ [5, 6, 7, 8, 9, 10, 11, 4, 12, 13, 14, 15, 16, 17, 18, 19, 20, 21, 22, 23, 24, 25, 26, 27, 28, 29, 30, 31, 32, 33, 34, 35, 36, 37, 38, 39, 40, 41, 42] (by decide +kernel) (by decide +kernel)
set_option maxRecDepth 20000 in
theorem gX1_leastSetAnew_X1_leastSets : GoodIn wsX1_leastSetAnew (wsV RX1 92 RX1 yX1_leastSets wsX1_leastSets) := goodIn_app (goodIn_of _ (by decide +kernel)) ggX1_leastSetAnew_X1_leastSets
theorem dX1_leastSetAnew_0 : decode cX1_leastSetAnew 0 = .ok (.aload_n 0, 1) := by decide +kernel
theorem dX1_leastSetAnew_1 : decode cX1_leastSetAnew 1 = .ok (.iload_n 1, 1) := by decide +kernel
theorem dX1_leastSetAnew_2 : decode cX1_leastSetAnew 2 = .ok (.iload_n 2, 1) := by decide +kernel
theorem dX1_leastSetAnew_3 : decode cX1_leastSetAnew 3 = .ok (.invokevirtual 92, 3) := by decide +kernel
theorem dX1_leastSetAnew_6 : decode cX1_leastSetAnew 6 = .ok (.ireturn, 1) := by decide +kernel
theorem dX1_placeOf_0 : decode cX1_placeOf 0 = .ok (.iconst (-1), 1) := by decide +kernel
theorem dX1_placeOf_1 : decode cX1_placeOf 1 = .ok (.istore_n 2, 1) := by decide +kernel
theorem dX1_placeOf_2 : decode cX1_placeOf 2 = .ok (.iconst 0, 1) := by decide +kernel
theorem dX1_placeOf_3 : decode cX1_placeOf 3 = .ok (.istore_n 3, 1) := by decide +kernel
theorem dX1_placeOf_4 : decode cX1_placeOf 4 = .ok (.iload_n 3, 1) := by decide +kernel
theorem dX1_placeOf_5 : decode cX1_placeOf 5 = .ok (.aload_n 0, 1) := by decide +kernel
theorem dX1_placeOf_6 : decode cX1_placeOf 6 = .ok (.getfield 41, 3) := by decide +kernel
theorem dX1_placeOf_9 : decode cX1_placeOf 9 = .ok (.if_icmp .ge 25, 3) := by decide +kernel
theorem dX1_placeOf_12 : decode cX1_placeOf 12 = .ok (.aload_n 0, 1) := by decide +kernel
theorem dX1_placeOf_13 : decode cX1_placeOf 13 = .ok (.getfield 32, 3) := by decide +kernel
theorem dX1_placeOf_16 : decode cX1_placeOf 16 = .ok (.iload_n 3, 1) := by decide +kernel
theorem dX1_placeOf_17 : decode cX1_placeOf 17 = .ok (.iaload, 1) := by decide +kernel
theorem dX1_placeOf_18 : decode cX1_placeOf 18 = .ok (.iload_n 1, 1) := by decide +kernel
theorem dX1_placeOf_19 : decode cX1_placeOf 19 = .ok (.if_icmp .ne 7, 3) := by decide +kernel
theorem dX1_placeOf_22 : decode cX1_placeOf 22 = .ok (.iload_n 3, 1) := by decide +kernel
theorem dX1_placeOf_23 : decode cX1_placeOf 23 = .ok (.goto 4, 3) := by decide +kernel
theorem dX1_placeOf_26 : decode cX1_placeOf 26 = .ok (.iload_n 2, 1) := by decide +kernel
theorem dX1_placeOf_27 : decode cX1_placeOf 27 = .ok (.istore_n 2, 1) := by decide +kernel
theorem dX1_placeOf_28 : decode cX1_placeOf 28 = .ok (.iinc 3 1, 3) := by decide +kernel
theorem dX1_placeOf_31 : decode cX1_placeOf 31 = .ok (.goto (-27), 3) := by decide +kernel
theorem dX1_placeOf_34 : decode cX1_placeOf 34 = .ok (.iload_n 2, 1) := by decide +kernel
theorem dX1_placeOf_35 : decode cX1_placeOf 35 = .ok (.ireturn, 1) := by decide +kernel
set_option maxRecDepth 20000 in
theorem ggX1_order_X1_isElement : GoodIn wsX1_order wsX1_isElement := goodIn_r _ [9, 2, 10, 11, 8, 12, 17, 18, 19, 20, 21, 22, 23, 24, 25, 26, 27] (by decide +kernel) (by decide +kernel)
set_option maxRecDepth 20000 in
theorem gX1_order_X1_isElement : GoodIn wsX1_order (wsV RX1 51 RX1 yX1_isElement wsX1_isElement) := goodIn_app (goodIn_of _ (by decide +kernel)) ggX1_order_X1_isElement
set_option maxRecDepth 20000 in
theorem ggX1_order_X1_placeOf : GoodIn wsX1_order wsX1_placeOf := goodIn_r _ [16, 1, 4, 17, 18, 19, 20, 21, 22, 23, 24, 25, 26, 27] (by decide +kernel) (by decide +kernel)
set_option maxRecDepth 20000 in
theorem gX1_order_X1_placeOf : GoodIn wsX1_order (wsV RX1 96 RX1 yX1_placeOf wsX1_placeOf) := goodIn_app (goodIn_of _ (by decide +kernel)) ggX1_order_X1_placeOf
theorem dX1_order_0 : decode cX1_order 0 = .ok (.aload_n 0, 1) := by decide +kernel
theorem dX1_order_1 : decode cX1_order 1 = .ok (.aload_n 0, 1) := by decide +kernel
theorem dX1_order_2 : decode cX1_order 2 = .ok (.iload_n 1, 1) := by decide +kernel
theorem dX1_order_3 : decode cX1_order 3 = .ok (.invokevirtual 51, 3) := by decide +kernel
theorem dX1_order_6 : decode cX1_order 6 = .ok (.ifCond .ne 7, 3) := by decide +kernel
theorem dX1_order_9 : decode cX1_order 9 = .ok (.iconst 1, 1) := by decide +kernel
theorem dX1_order_10 : decode cX1_order 10 = .ok (.goto 28, 3) := by decide +kernel
theorem dX1_order_13 : decode cX1_order 13 = .ok (.aload_n 0, 1) := by decide +kernel
theorem dX1_order_14 : decode cX1_order 14 = .ok (.getfield 41, 3) := by decide +kernel
theorem dX1_order_17 : decode cX1_order 17 = .ok (.aload_n 0, 1) := by decide +kernel
theorem dX1_order_18 : decode cX1_order 18 = .ok (.getfield 7, 3) := by decide +kernel
theorem dX1_order_21 : decode cX1_order 21 = .ok (.if_icmp .ge 16, 3) := by decide +kernel
theorem dX1_order_24 : decode cX1_order 24 = .ok (.aload_n 0, 1) := by decide +kernel
theorem dX1_order_25 : decode cX1_order 25 = .ok (.iload_n 1, 1) := by decide +kernel
theorem dX1_order_26 : decode cX1_order 26 = .ok (.invokevirtual 96, 3) := by decide +kernel
theorem dX1_order_29 : decode cX1_order 29 = .ok (.iconst (-1), 1) := by decide +kernel
theorem dX1_order_30 : decode cX1_order 30 = .ok (.if_icmp .eq 7, 3) := by decide +kernel
theorem dX1_order_33 : decode cX1_order 33 = .ok (.iconst 2, 1) := by decide +kernel
theorem dX1_order_34 : decode cX1_order 34 = .ok (.goto 4, 3) := by decide +kernel
theorem dX1_order_37 : decode cX1_order 37 = .ok (.iconst 0, 1) := by decide +kernel
theorem dX1_order_38 : decode cX1_order 38 = .ok (.putfield 44, 3) := by decide +kernel
theorem dX1_order_41 : decode cX1_order 41 = .ok (.aload_n 0, 1) := by decide +kernel
theorem dX1_order_42 : decode cX1_order 42 = .ok (.getfield 44, 3) := by decide +kernel
theorem dX1_order_45 : decode cX1_order 45 = .ok (.ifCond .le 5, 3) := by decide +kernel
theorem dX1_order_48 : decode cX1_order 48 = .ok (.iconst 0, 1) := by decide +kernel
theorem dX1_order_49 : decode cX1_order 49 = .ok (.ireturn, 1) := by decide +kernel
theorem dX1_order_50 : decode cX1_order 50 = .ok (.aload_n 0, 1) := by decide +kernel
theorem dX1_order_51 : decode cX1_order 51 = .ok (.aload_n 0, 1) := by decide +kernel
theorem dX1_order_52 : decode cX1_order 52 = .ok (.getfield 41, 3) := by decide +kernel
theorem dX1_order_55 : decode cX1_order 55 = .ok (.aload_n 0, 1) := by decide +kernel
theorem dX1_order_56 : decode cX1_order 56 = .ok (.getfield 7, 3) := by decide +kernel
theorem dX1_order_59 : decode cX1_order 59 = .ok (.if_icmp .ne 7, 3) := by decide +kernel
theorem dX1_order_62 : decode cX1_order 62 = .ok (.iconst 0, 1) := by decide +kernel
theorem dX1_order_63 : decode cX1_order 63 = .ok (.goto 7, 3) := by decide +kernel
theorem dX1_order_66 : decode cX1_order 66 = .ok (.aload_n 0, 1) := by decide +kernel
theorem dX1_order_67 : decode cX1_order 67 = .ok (.getfield 41, 3) := by decide +kernel
theorem dX1_order_70 : decode cX1_order 70 = .ok (.putfield 41, 3) := by decide +kernel
theorem dX1_order_73 : decode cX1_order 73 = .ok (.aload_n 0, 1) := by decide +kernel
theorem dX1_order_74 : decode cX1_order 74 = .ok (.getfield 32, 3) := by decide +kernel
theorem dX1_order_77 : decode cX1_order 77 = .ok (.aload_n 0, 1) := by decide +kernel
theorem dX1_order_78 : decode cX1_order 78 = .ok (.getfield 41, 3) := by decide +kernel
theorem dX1_order_81 : decode cX1_order 81 = .ok (.iload_n 1, 1) := by decide +kernel
theorem dX1_order_82 : decode cX1_order 82 = .ok (.iastore, 1) := by decide +kernel
theorem dX1_order_83 : decode cX1_order 83 = .ok (.aload_n 0, 1) := by decide +kernel
theorem dX1_order_84 : decode cX1_order 84 = .ok (.dup, 1) := by decide +kernel
theorem dX1_order_85 : decode cX1_order 85 = .ok (.getfield 41, 3) := by decide +kernel
theorem dX1_order_88 : decode cX1_order 88 = .ok (.iconst 1, 1) := by decide +kernel
theorem dX1_order_89 : decode cX1_order 89 = .ok (.iadd, 1) := by decide +kernel
theorem dX1_order_90 : decode cX1_order 90 = .ok (.putfield 41, 3) := by decide +kernel
theorem dX1_order_93 : decode cX1_order 93 = .ok (.aload_n 0, 1) := by decide +kernel
theorem dX1_order_94 : decode cX1_order 94 = .ok (.getfield 41, 3) := by decide +kernel
theorem dX1_order_97 : decode cX1_order 97 = .ok (.ireturn, 1) := by decide +kernel
set_option maxRecDepth 20000 in
theorem ggX1_corner_X1_isFunction : GoodIn wsX1_corner wsX1_isFunction := goodIn_r _ [8, 9, 10, 11, 7, 12, 23, 24, 25, 26, 27, 28, 29, 30, 31, 32, 33] (by decide +kernel) (by decide +kernel)
set_option maxRecDepth 20000 in
theorem gX1_corner_X1_isFunction : GoodIn wsX1_corner (wsV RX1 83 RX1 yX1_isFunction wsX1_isFunction) := goodIn_app (goodIn_of _ (by decide +kernel)) ggX1_corner_X1_isFunction
set_option maxRecDepth 20000 in
theorem ggX1_corner_X1_isElement : GoodIn wsX1_corner wsX1_isElement := goodIn_r _ [16, 17, 10, 11, 7, 12, 23, 24, 25, 26, 27, 28, 29, 30, 31, 32, 33] (by decide +kernel) (by decide +kernel)
set_option maxRecDepth 20000 in
theorem gX1_corner_X1_isElement : GoodIn wsX1_corner (wsV RX1 51 RX1 yX1_isElement wsX1_isElement) := goodIn_app (goodIn_of _ (by decide +kernel)) ggX1_corner_X1_isElement
set_option maxRecDepth 20000 in
theorem ggX1_corner_X1_placeOf : GoodIn wsX1_corner wsX1_placeOf := goodIn_r _ [21, 22, 2, 23, 24, 25, 26, 27, 28, 29, 30, 31, 32, 33] (by decide +kernel) (by decide +kernel)
set_option maxRecDepth 20000 in
theorem gX1_corner_X1_placeOf : GoodIn wsX1_corner (wsV RX1 96 RX1 yX1_placeOf wsX1_placeOf) := goodIn_app (goodIn_of _ (by decide +kernel)) ggX1_corner_X1_placeOf
theorem dX1_corner_0 : decode cX1_corner 0 = .ok (.aload_n 0, 1) := by decide +kernel
theorem dX1_corner_1 : decode cX1_corner 1 = .ok (.aload_n 0, 1) := by decide +kernel
theorem dX1_corner_2 : decode cX1_corner 2 = .ok (.iload_n 1, 1) := by decide +kernel
theorem dX1_corner_3 : decode cX1_corner 3 = .ok (.invokevirtual 83, 3) := by decide +kernel
theorem dX1_corner_6 : decode cX1_corner 6 = .ok (.ifCond .eq 11, 3) := by decide +kernel
theorem dX1_corner_9 : decode cX1_corner 9 = .ok (.aload_n 0, 1) := by decide +kernel
theorem dX1_corner_10 : decode cX1_corner 10 = .ok (.iload_n 2, 1) := by decide +kernel
theorem dX1_corner_11 : decode cX1_corner 11 = .ok (.invokevirtual 51, 3) := by decide +kernel
theorem dX1_corner_14 : decode cX1_corner 14 = .ok (.ifCond .ne 7, 3) := by decide +kernel
theorem dX1_corner_17 : decode cX1_corner 17 = .ok (.iconst 1, 1) := by decide +kernel
theorem dX1_corner_18 : decode cX1_corner 18 = .ok (.goto 17, 3) := by decide +kernel
theorem dX1_corner_21 : decode cX1_corner 21 = .ok (.aload_n 0, 1) := by decide +kernel
theorem dX1_corner_22 : decode cX1_corner 22 = .ok (.iload_n 2, 1) := by decide +kernel
theorem dX1_corner_23 : decode cX1_corner 23 = .ok (.invokevirtual 96, 3) := by decide +kernel
theorem dX1_corner_26 : decode cX1_corner 26 = .ok (.iconst (-1), 1) := by decide +kernel
theorem dX1_corner_27 : decode cX1_corner 27 = .ok (.if_icmp .ne 7, 3) := by decide +kernel
theorem dX1_corner_30 : decode cX1_corner 30 = .ok (.iconst 2, 1) := by decide +kernel
theorem dX1_corner_31 : decode cX1_corner 31 = .ok (.goto 4, 3) := by decide +kernel
theorem dX1_corner_34 : decode cX1_corner 34 = .ok (.iconst 0, 1) := by decide +kernel
theorem dX1_corner_35 : decode cX1_corner 35 = .ok (.putfield 44, 3) := by decide +kernel
theorem dX1_corner_38 : decode cX1_corner 38 = .ok (.aload_n 0, 1) := by decide +kernel
theorem dX1_corner_39 : decode cX1_corner 39 = .ok (.getfield 44, 3) := by decide +kernel
theorem dX1_corner_42 : decode cX1_corner 42 = .ok (.ifCond .le 5, 3) := by decide +kernel
theorem dX1_corner_45 : decode cX1_corner 45 = .ok (.iconst 0, 1) := by decide +kernel
theorem dX1_corner_46 : decode cX1_corner 46 = .ok (.ireturn, 1) := by decide +kernel
theorem dX1_corner_47 : decode cX1_corner 47 = .ok (.iconst 0, 1) := by decide +kernel
theorem dX1_corner_48 : decode cX1_corner 48 = .ok (.istore_n 3, 1) := by decide +kernel
theorem dX1_corner_49 : decode cX1_corner 49 = .ok (.iconst 0, 1) := by decide +kernel
theorem dX1_corner_50 : decode cX1_corner 50 = .ok (.istore 4, 2) := by decide +kernel
theorem dX1_corner_52 : decode cX1_corner 52 = .ok (.iload 4, 2) := by decide +kernel
theorem dX1_corner_54 : decode cX1_corner 54 = .ok (.aload_n 0, 1) := by decide +kernel
theorem dX1_corner_55 : decode cX1_corner 55 = .ok (.iload_n 2, 1) := by decide +kernel
theorem dX1_corner_56 : decode cX1_corner 56 = .ok (.invokevirtual 96, 3) := by decide +kernel
theorem dX1_corner_59 : decode cX1_corner 59 = .ok (.if_icmp .ge 21, 3) := by decide +kernel
theorem dX1_corner_62 : decode cX1_corner 62 = .ok (.iload_n 3, 1) := by decide +kernel
theorem dX1_corner_63 : decode cX1_corner 63 = .ok (.iconst 1, 1) := by decide +kernel
theorem dX1_corner_64 : decode cX1_corner 64 = .ok (.aload_n 0, 1) := by decide +kernel
theorem dX1_corner_65 : decode cX1_corner 65 = .ok (.getfield 32, 3) := by decide +kernel
theorem dX1_corner_68 : decode cX1_corner 68 = .ok (.iload 4, 2) := by decide +kernel
theorem dX1_corner_70 : decode cX1_corner 70 = .ok (.iaload, 1) := by decide +kernel
theorem dX1_corner_71 : decode cX1_corner 71 = .ok (.ishl, 1) := by decide +kernel
theorem dX1_corner_72 : decode cX1_corner 72 = .ok (.ior, 1) := by decide +kernel
theorem dX1_corner_73 : decode cX1_corner 73 = .ok (.istore_n 3, 1) := by decide +kernel
theorem dX1_corner_74 : decode cX1_corner 74 = .ok (.iinc 4 1, 3) := by decide +kernel
theorem dX1_corner_77 : decode cX1_corner 77 = .ok (.goto (-25), 3) := by decide +kernel
theorem dX1_corner_80 : decode cX1_corner 80 = .ok (.aload_n 0, 1) := by decide +kernel
theorem dX1_corner_81 : decode cX1_corner 81 = .ok (.getfield 29, 3) := by decide +kernel
theorem dX1_corner_84 : decode cX1_corner 84 = .ok (.bipush 64, 2) := by decide +kernel
theorem dX1_corner_86 : decode cX1_corner 86 = .ok (.iload_n 1, 1) := by decide +kernel
theorem dX1_corner_87 : decode cX1_corner 87 = .ok (.imul, 1) := by decide +kernel
theorem dX1_corner_88 : decode cX1_corner 88 = .ok (.iload_n 3, 1) := by decide +kernel
theorem dX1_corner_89 : decode cX1_corner 89 = .ok (.iconst 1, 1) := by decide +kernel
theorem dX1_corner_90 : decode cX1_corner 90 = .ok (.iload_n 2, 1) := by decide +kernel
theorem dX1_corner_91 : decode cX1_corner 91 = .ok (.ishl, 1) := by decide +kernel
theorem dX1_corner_92 : decode cX1_corner 92 = .ok (.ior, 1) := by decide +kernel
theorem dX1_corner_93 : decode cX1_corner 93 = .ok (.iadd, 1) := by decide +kernel
theorem dX1_corner_94 : decode cX1_corner 94 = .ok (.iaload, 1) := by decide +kernel
theorem dX1_corner_95 : decode cX1_corner 95 = .ok (.aload_n 0, 1) := by decide +kernel
theorem dX1_corner_96 : decode cX1_corner 96 = .ok (.getfield 29, 3) := by decide +kernel
theorem dX1_corner_99 : decode cX1_corner 99 = .ok (.bipush 64, 2) := by decide +kernel
theorem dX1_corner_101 : decode cX1_corner 101 = .ok (.iload_n 1, 1) := by decide +kernel
theorem dX1_corner_102 : decode cX1_corner 102 = .ok (.imul, 1) := by decide +kernel
theorem dX1_corner_103 : decode cX1_corner 103 = .ok (.iload_n 3, 1) := by decide +kernel
theorem dX1_corner_104 : decode cX1_corner 104 = .ok (.iadd, 1) := by decide +kernel
theorem dX1_corner_105 : decode cX1_corner 105 = .ok (.iaload, 1) := by decide +kernel
theorem dX1_corner_106 : decode cX1_corner 106 = .ok (.isub, 1) := by decide +kernel
theorem dX1_corner_107 : decode cX1_corner 107 = .ok (.ireturn, 1) := by decide +kernel
set_option maxRecDepth 20000 in
theorem ggX1_greedy_X1_isFunction : GoodIn wsX1_greedy wsX1_isFunction := goodIn_r _ [8, 9, 10, 11, 7, 12, 16, 17, 18, 19, 20, 21, 22, 23, 24, 25, 26] (by decide +kernel) (by decide +kernel)
set_option maxRecDepth 20000 in
theorem gX1_greedy_X1_isFunction : GoodIn wsX1_greedy (wsV RX1 83 RX1 yX1_isFunction wsX1_isFunction) := goodIn_app (goodIn_of _ (by decide +kernel)) ggX1_greedy_X1_isFunction
set_option maxRecDepth 20000 in
theorem ggX1_greedy_X1_isIn : GoodIn wsX1_greedy wsX1_isIn := goodIn_r _ [12] (by decide +kernel) (by decide +kernel)
set_option maxRecDepth 20000 in
theorem gX1_greedy_X1_isIn : GoodIn wsX1_greedy (va_wsS RX1 47 yX1_isIn wsX1_isIn) := goodIn_app (goodIn_of _ (by decide +kernel)) ggX1_greedy_X1_isIn
set_option maxRecDepth 20000 in
theorem ggX1_greedy_X1_many : GoodIn wsX1_greedy wsX1_many := goodIn_r _ [15] (by decide +kernel) (by decide +kernel)
set_option maxRecDepth 20000 in
theorem gX1_greedy_X1_many : GoodIn wsX1_greedy (va_wsS RX1 59 yX1_many wsX1_many) := goodIn_app (goodIn_of _ (by decide +kernel)) ggX1_greedy_X1_many
theorem dX1_greedy_0 : decode cX1_greedy 0 = .ok (.aload_n 0, 1) := by decide +kernel
theorem dX1_greedy_1 : decode cX1_greedy 1 = .ok (.aload_n 0, 1) := by decide +kernel
theorem dX1_greedy_2 : decode cX1_greedy 2 = .ok (.iload_n 1, 1) := by decide +kernel
theorem dX1_greedy_3 : decode cX1_greedy 3 = .ok (.invokevirtual 83, 3) := by decide +kernel
theorem dX1_greedy_6 : decode cX1_greedy 6 = .ok (.ifCond .ne 7, 3) := by decide +kernel
theorem dX1_greedy_9 : decode cX1_greedy 9 = .ok (.iconst 1, 1) := by decide +kernel
theorem dX1_greedy_10 : decode cX1_greedy 10 = .ok (.goto 18, 3) := by decide +kernel
theorem dX1_greedy_13 : decode cX1_greedy 13 = .ok (.iload_n 2, 1) := by decide +kernel
theorem dX1_greedy_14 : decode cX1_greedy 14 = .ok (.iconst 0, 1) := by decide +kernel
theorem dX1_greedy_15 : decode cX1_greedy 15 = .ok (.bipush 6, 2) := by decide +kernel
theorem dX1_greedy_17 : decode cX1_greedy 17 = .ok (.invokestatic 47, 3) := by decide +kernel
theorem dX1_greedy_20 : decode cX1_greedy 20 = .ok (.ifCond .ne 7, 3) := by decide +kernel
theorem dX1_greedy_23 : decode cX1_greedy 23 = .ok (.iconst 2, 1) := by decide +kernel
theorem dX1_greedy_24 : decode cX1_greedy 24 = .ok (.goto 4, 3) := by decide +kernel
theorem dX1_greedy_27 : decode cX1_greedy 27 = .ok (.iconst 0, 1) := by decide +kernel
theorem dX1_greedy_28 : decode cX1_greedy 28 = .ok (.putfield 44, 3) := by decide +kernel
theorem dX1_greedy_31 : decode cX1_greedy 31 = .ok (.aload_n 0, 1) := by decide +kernel
theorem dX1_greedy_32 : decode cX1_greedy 32 = .ok (.getfield 44, 3) := by decide +kernel
theorem dX1_greedy_35 : decode cX1_greedy 35 = .ok (.ifCond .le 5, 3) := by decide +kernel
theorem dX1_greedy_38 : decode cX1_greedy 38 = .ok (.iconst 0, 1) := by decide +kernel
theorem dX1_greedy_39 : decode cX1_greedy 39 = .ok (.ireturn, 1) := by decide +kernel
theorem dX1_greedy_40 : decode cX1_greedy 40 = .ok (.iconst 0, 1) := by decide +kernel
theorem dX1_greedy_41 : decode cX1_greedy 41 = .ok (.istore_n 3, 1) := by decide +kernel
theorem dX1_greedy_42 : decode cX1_greedy 42 = .ok (.iconst (-1), 1) := by decide +kernel
theorem dX1_greedy_43 : decode cX1_greedy 43 = .ok (.istore 4, 2) := by decide +kernel
theorem dX1_greedy_45 : decode cX1_greedy 45 = .ok (.iload_n 3, 1) := by decide +kernel
theorem dX1_greedy_46 : decode cX1_greedy 46 = .ok (.iload 4, 2) := by decide +kernel
theorem dX1_greedy_48 : decode cX1_greedy 48 = .ok (.if_icmp .eq 77, 3) := by decide +kernel
theorem dX1_greedy_51 : decode cX1_greedy 51 = .ok (.iload_n 3, 1) := by decide +kernel
theorem dX1_greedy_52 : decode cX1_greedy 52 = .ok (.invokestatic 59, 3) := by decide +kernel
theorem dX1_greedy_55 : decode cX1_greedy 55 = .ok (.iload_n 2, 1) := by decide +kernel
theorem dX1_greedy_56 : decode cX1_greedy 56 = .ok (.if_icmp .ge 69, 3) := by decide +kernel
theorem dX1_greedy_59 : decode cX1_greedy 59 = .ok (.iload_n 3, 1) := by decide +kernel
theorem dX1_greedy_60 : decode cX1_greedy 60 = .ok (.istore 4, 2) := by decide +kernel
theorem dX1_greedy_62 : decode cX1_greedy 62 = .ok (.iconst 0, 1) := by decide +kernel
theorem dX1_greedy_63 : decode cX1_greedy 63 = .ok (.istore 5, 2) := by decide +kernel
theorem dX1_greedy_65 : decode cX1_greedy 65 = .ok (.iload 5, 2) := by decide +kernel
theorem dX1_greedy_67 : decode cX1_greedy 67 = .ok (.aload_n 0, 1) := by decide +kernel
theorem dX1_greedy_68 : decode cX1_greedy 68 = .ok (.getfield 7, 3) := by decide +kernel
theorem dX1_greedy_71 : decode cX1_greedy 71 = .ok (.if_icmp .ge 51, 3) := by decide +kernel
theorem dX1_greedy_74 : decode cX1_greedy 74 = .ok (.iload 4, 2) := by decide +kernel
theorem dX1_greedy_76 : decode cX1_greedy 76 = .ok (.iconst 1, 1) := by decide +kernel
theorem dX1_greedy_77 : decode cX1_greedy 77 = .ok (.iload 5, 2) := by decide +kernel
theorem dX1_greedy_79 : decode cX1_greedy 79 = .ok (.ishl, 1) := by decide +kernel
theorem dX1_greedy_80 : decode cX1_greedy 80 = .ok (.ior, 1) := by decide +kernel
theorem dX1_greedy_81 : decode cX1_greedy 81 = .ok (.istore 6, 2) := by decide +kernel
theorem dX1_greedy_83 : decode cX1_greedy 83 = .ok (.aload_n 0, 1) := by decide +kernel
theorem dX1_greedy_84 : decode cX1_greedy 84 = .ok (.getfield 29, 3) := by decide +kernel
theorem dX1_greedy_87 : decode cX1_greedy 87 = .ok (.bipush 64, 2) := by decide +kernel
theorem dX1_greedy_89 : decode cX1_greedy 89 = .ok (.iload_n 1, 1) := by decide +kernel
theorem dX1_greedy_90 : decode cX1_greedy 90 = .ok (.imul, 1) := by decide +kernel
theorem dX1_greedy_91 : decode cX1_greedy 91 = .ok (.iload 6, 2) := by decide +kernel
theorem dX1_greedy_93 : decode cX1_greedy 93 = .ok (.iadd, 1) := by decide +kernel
theorem dX1_greedy_94 : decode cX1_greedy 94 = .ok (.iaload, 1) := by decide +kernel
theorem dX1_greedy_95 : decode cX1_greedy 95 = .ok (.aload_n 0, 1) := by decide +kernel
theorem dX1_greedy_96 : decode cX1_greedy 96 = .ok (.getfield 29, 3) := by decide +kernel
theorem dX1_greedy_99 : decode cX1_greedy 99 = .ok (.bipush 64, 2) := by decide +kernel
theorem dX1_greedy_101 : decode cX1_greedy 101 = .ok (.iload_n 1, 1) := by decide +kernel
theorem dX1_greedy_102 : decode cX1_greedy 102 = .ok (.imul, 1) := by decide +kernel
theorem dX1_greedy_103 : decode cX1_greedy 103 = .ok (.iload_n 3, 1) := by decide +kernel
theorem dX1_greedy_104 : decode cX1_greedy 104 = .ok (.iadd, 1) := by decide +kernel
theorem dX1_greedy_105 : decode cX1_greedy 105 = .ok (.iaload, 1) := by decide +kernel
theorem dX1_greedy_106 : decode cX1_greedy 106 = .ok (.if_icmp .le 8, 3) := by decide +kernel
theorem dX1_greedy_109 : decode cX1_greedy 109 = .ok (.iload 6, 2) := by decide +kernel
theorem dX1_greedy_111 : decode cX1_greedy 111 = .ok (.goto 4, 3) := by decide +kernel
theorem dX1_greedy_114 : decode cX1_greedy 114 = .ok (.iload_n 3, 1) := by decide +kernel
theorem dX1_greedy_115 : decode cX1_greedy 115 = .ok (.istore_n 3, 1) := by decide +kernel
theorem dX1_greedy_116 : decode cX1_greedy 116 = .ok (.iinc 5 1, 3) := by decide +kernel
theorem dX1_greedy_119 : decode cX1_greedy 119 = .ok (.goto (-54), 3) := by decide +kernel
theorem dX1_greedy_122 : decode cX1_greedy 122 = .ok (.goto (-77), 3) := by decide +kernel
theorem dX1_greedy_125 : decode cX1_greedy 125 = .ok (.iload_n 3, 1) := by decide +kernel
theorem dX1_greedy_126 : decode cX1_greedy 126 = .ok (.ireturn, 1) := by decide +kernel
set_option maxRecDepth 20000 in
theorem ggX1_best_X1_isFunction : GoodIn wsX1_best wsX1_isFunction := goodIn_r _ [7, 8, 9, 10, 6, 11, 20, 21, 22, 23, 24, 25, 26, 27, 28, 29, 30] (by decide +kernel) (by decide +kernel)
set_option maxRecDepth 20000 in
theorem gX1_best_X1_isFunction : GoodIn wsX1_best (wsV RX1 83 RX1 yX1_isFunction wsX1_isFunction) := goodIn_app (goodIn_of _ (by decide +kernel)) ggX1_best_X1_isFunction
set_option maxRecDepth 20000 in
theorem ggX1_best_X1_isIn : GoodIn wsX1_best wsX1_isIn := goodIn_r _ [11] (by decide +kernel) (by decide +kernel)
set_option maxRecDepth 20000 in
theorem gX1_best_X1_isIn : GoodIn wsX1_best (va_wsS RX1 47 yX1_isIn wsX1_isIn) := goodIn_app (goodIn_of _ (by decide +kernel)) ggX1_best_X1_isIn
set_option maxRecDepth 20000 in
theorem ggX1_best_X1_isSet : GoodIn wsX1_best wsX1_isSet := goodIn_r _ [15, 16, 9, 10, 6, 11, 20, 21, 22, 23, 24, 25, 26, 27, 28, 29, 30] (by decide +kernel) (by decide +kernel)
set_option maxRecDepth 20000 in
theorem gX1_best_X1_isSet : GoodIn wsX1_best (wsV RX1 67 RX1 yX1_isSet wsX1_isSet) := goodIn_app (goodIn_of _ (by decide +kernel)) ggX1_best_X1_isSet
set_option maxRecDepth 20000 in
theorem ggX1_best_X1_many : GoodIn wsX1_best wsX1_many := goodIn_r _ [19] (by decide +kernel) (by decide +kernel)
set_option maxRecDepth 20000 in
theorem gX1_best_X1_many : GoodIn wsX1_best (va_wsS RX1 59 yX1_many wsX1_many) := goodIn_app (goodIn_of _ (by decide +kernel)) ggX1_best_X1_many
theorem dX1_best_0 : decode cX1_best 0 = .ok (.aload_n 0, 1) := by decide +kernel
theorem dX1_best_1 : decode cX1_best 1 = .ok (.aload_n 0, 1) := by decide +kernel
theorem dX1_best_2 : decode cX1_best 2 = .ok (.iload_n 1, 1) := by decide +kernel
theorem dX1_best_3 : decode cX1_best 3 = .ok (.invokevirtual 83, 3) := by decide +kernel
theorem dX1_best_6 : decode cX1_best 6 = .ok (.ifCond .ne 7, 3) := by decide +kernel
theorem dX1_best_9 : decode cX1_best 9 = .ok (.iconst 1, 1) := by decide +kernel
theorem dX1_best_10 : decode cX1_best 10 = .ok (.goto 18, 3) := by decide +kernel
theorem dX1_best_13 : decode cX1_best 13 = .ok (.iload_n 2, 1) := by decide +kernel
theorem dX1_best_14 : decode cX1_best 14 = .ok (.iconst 0, 1) := by decide +kernel
theorem dX1_best_15 : decode cX1_best 15 = .ok (.bipush 6, 2) := by decide +kernel
theorem dX1_best_17 : decode cX1_best 17 = .ok (.invokestatic 47, 3) := by decide +kernel
theorem dX1_best_20 : decode cX1_best 20 = .ok (.ifCond .ne 7, 3) := by decide +kernel
theorem dX1_best_23 : decode cX1_best 23 = .ok (.iconst 2, 1) := by decide +kernel
theorem dX1_best_24 : decode cX1_best 24 = .ok (.goto 4, 3) := by decide +kernel
theorem dX1_best_27 : decode cX1_best 27 = .ok (.iconst 0, 1) := by decide +kernel
theorem dX1_best_28 : decode cX1_best 28 = .ok (.putfield 44, 3) := by decide +kernel
theorem dX1_best_31 : decode cX1_best 31 = .ok (.iconst 0, 1) := by decide +kernel
theorem dX1_best_32 : decode cX1_best 32 = .ok (.istore_n 3, 1) := by decide +kernel
theorem dX1_best_33 : decode cX1_best 33 = .ok (.iconst 0, 1) := by decide +kernel
theorem dX1_best_34 : decode cX1_best 34 = .ok (.istore 4, 2) := by decide +kernel
theorem dX1_best_36 : decode cX1_best 36 = .ok (.aload_n 0, 1) := by decide +kernel
theorem dX1_best_37 : decode cX1_best 37 = .ok (.iload 4, 2) := by decide +kernel
theorem dX1_best_39 : decode cX1_best 39 = .ok (.invokevirtual 67, 3) := by decide +kernel
theorem dX1_best_42 : decode cX1_best 42 = .ok (.ifCond .eq 58, 3) := by decide +kernel
theorem dX1_best_45 : decode cX1_best 45 = .ok (.aload_n 0, 1) := by decide +kernel
theorem dX1_best_46 : decode cX1_best 46 = .ok (.getfield 44, 3) := by decide +kernel
theorem dX1_best_49 : decode cX1_best 49 = .ok (.ifCond .ne 51, 3) := by decide +kernel
theorem dX1_best_52 : decode cX1_best 52 = .ok (.iload 4, 2) := by decide +kernel
theorem dX1_best_54 : decode cX1_best 54 = .ok (.invokestatic 59, 3) := by decide +kernel
theorem dX1_best_57 : decode cX1_best 57 = .ok (.iload_n 2, 1) := by decide +kernel
theorem dX1_best_58 : decode cX1_best 58 = .ok (.if_icmp .gt 34, 3) := by decide +kernel
theorem dX1_best_61 : decode cX1_best 61 = .ok (.aload_n 0, 1) := by decide +kernel
theorem dX1_best_62 : decode cX1_best 62 = .ok (.getfield 29, 3) := by decide +kernel
theorem dX1_best_65 : decode cX1_best 65 = .ok (.bipush 64, 2) := by decide +kernel
theorem dX1_best_67 : decode cX1_best 67 = .ok (.iload_n 1, 1) := by decide +kernel
theorem dX1_best_68 : decode cX1_best 68 = .ok (.imul, 1) := by decide +kernel
theorem dX1_best_69 : decode cX1_best 69 = .ok (.iload 4, 2) := by decide +kernel
theorem dX1_best_71 : decode cX1_best 71 = .ok (.iadd, 1) := by decide +kernel
theorem dX1_best_72 : decode cX1_best 72 = .ok (.iaload, 1) := by decide +kernel
theorem dX1_best_73 : decode cX1_best 73 = .ok (.iload_n 3, 1) := by decide +kernel
theorem dX1_best_74 : decode cX1_best 74 = .ok (.if_icmp .le 18, 3) := by decide +kernel
theorem dX1_best_77 : decode cX1_best 77 = .ok (.aload_n 0, 1) := by decide +kernel
theorem dX1_best_78 : decode cX1_best 78 = .ok (.getfield 29, 3) := by decide +kernel
theorem dX1_best_81 : decode cX1_best 81 = .ok (.bipush 64, 2) := by decide +kernel
theorem dX1_best_83 : decode cX1_best 83 = .ok (.iload_n 1, 1) := by decide +kernel
theorem dX1_best_84 : decode cX1_best 84 = .ok (.imul, 1) := by decide +kernel
theorem dX1_best_85 : decode cX1_best 85 = .ok (.iload 4, 2) := by decide +kernel
theorem dX1_best_87 : decode cX1_best 87 = .ok (.iadd, 1) := by decide +kernel
theorem dX1_best_88 : decode cX1_best 88 = .ok (.iaload, 1) := by decide +kernel
theorem dX1_best_89 : decode cX1_best 89 = .ok (.goto 4, 3) := by decide +kernel
theorem dX1_best_92 : decode cX1_best 92 = .ok (.iload_n 3, 1) := by decide +kernel
theorem dX1_best_93 : decode cX1_best 93 = .ok (.istore_n 3, 1) := by decide +kernel
theorem dX1_best_94 : decode cX1_best 94 = .ok (.iinc 4 1, 3) := by decide +kernel
theorem dX1_best_97 : decode cX1_best 97 = .ok (.goto (-61), 3) := by decide +kernel
theorem dX1_best_100 : decode cX1_best 100 = .ok (.iload_n 3, 1) := by decide +kernel
theorem dX1_best_101 : decode cX1_best 101 = .ok (.ireturn, 1) := by decide +kernel
set_option maxRecDepth 20000 in
theorem ggX1_isFair_X1_rank : GoodIn wsX1_isFair wsX1_rank := goodIn_r _ [5, 6, 7, 8, 9, 4, 10, 11, 12, 13, 14, 15, 19, 20, 21, 22, 23, 24, 25, 26, 27, 28, 29] (by decide +kernel) (by decide +kernel)
set_option maxRecDepth 20000 in
theorem gX1_isFair_X1_rank : GoodIn wsX1_isFair (wsV RX1 79 RX1 yX1_rank wsX1_rank) := goodIn_app (goodIn_of _ (by decide +kernel)) ggX1_isFair_X1_rank
set_option maxRecDepth 20000 in
theorem ggX1_isFair_X1_many : GoodIn wsX1_isFair wsX1_many := goodIn_r _ [18] (by decide +kernel) (by decide +kernel)
set_option maxRecDepth 20000 in
theorem gX1_isFair_X1_many : GoodIn wsX1_isFair (va_wsS RX1 59 yX1_many wsX1_many) := goodIn_app (goodIn_of _ (by decide +kernel)) ggX1_isFair_X1_many
theorem dX1_isFair_0 : decode cX1_isFair 0 = .ok (.aload_n 0, 1) := by decide +kernel
theorem dX1_isFair_1 : decode cX1_isFair 1 = .ok (.iload_n 1, 1) := by decide +kernel
theorem dX1_isFair_2 : decode cX1_isFair 2 = .ok (.iload_n 2, 1) := by decide +kernel
theorem dX1_isFair_3 : decode cX1_isFair 3 = .ok (.invokevirtual 79, 3) := by decide +kernel
theorem dX1_isFair_6 : decode cX1_isFair 6 = .ok (.iload_n 2, 1) := by decide +kernel
theorem dX1_isFair_7 : decode cX1_isFair 7 = .ok (.invokestatic 59, 3) := by decide +kernel
theorem dX1_isFair_10 : decode cX1_isFair 10 = .ok (.if_icmp .ne 7, 3) := by decide +kernel
theorem dX1_isFair_13 : decode cX1_isFair 13 = .ok (.iconst 1, 1) := by decide +kernel
theorem dX1_isFair_14 : decode cX1_isFair 14 = .ok (.goto 4, 3) := by decide +kernel
theorem dX1_isFair_17 : decode cX1_isFair 17 = .ok (.iconst 0, 1) := by decide +kernel
theorem dX1_isFair_18 : decode cX1_isFair 18 = .ok (.ireturn, 1) := by decide +kernel
set_option maxRecDepth 20000 in
theorem ggX1_commonSize_X1_isSet : GoodIn wsX1_commonSize wsX1_isSet := goodIn_r _ [5, 6, 7, 8, 4, 9, 30, 31, 32, 33, 34, 35, 36, 37, 38, 39, 40] (by decide +kernel) (by decide +kernel)
set_option maxRecDepth 20000 in
theorem gX1_commonSize_X1_isSet : GoodIn wsX1_commonSize (wsV RX1 67 RX1 yX1_isSet wsX1_isSet) := goodIn_app (goodIn_of _ (by decide +kernel)) ggX1_commonSize_X1_isSet
set_option maxRecDepth 20000 in
theorem ggX1_commonSize_X1_isFair : GoodIn wsX1_commonSize wsX1_isFair := goodIn_r _ [13, 14, 15, 16, 4, 17, 18, 19, 20, 21, 22, 6, 23, 24, 25, 26, 27, 28, 29, 30, 31, 32, 33, 34, 35, 36, 37, 38, 39, 40] (by decide +kernel) (by decide +kernel)
set_option maxRecDepth 20000 in
theorem gX1_commonSize_X1_isFair : GoodIn wsX1_commonSize (wsV RX1 99 RX1 yX1_isFair wsX1_isFair) := goodIn_app (goodIn_of _ (by decide +kernel)) ggX1_commonSize_X1_isFair
set_option maxRecDepth 20000 in
theorem ggX1_commonSize_X1_many : GoodIn wsX1_commonSize wsX1_many := goodIn_r _ [29] (by decide +kernel) (by decide +kernel)
set_option maxRecDepth 20000 in
theorem gX1_commonSize_X1_many : GoodIn wsX1_commonSize (va_wsS RX1 59 yX1_many wsX1_many) := goodIn_app (goodIn_of _ (by decide +kernel)) ggX1_commonSize_X1_many
theorem dX1_commonSize_0 : decode cX1_commonSize 0 = .ok (.iconst 0, 1) := by decide +kernel
theorem dX1_commonSize_1 : decode cX1_commonSize 1 = .ok (.istore_n 1, 1) := by decide +kernel
theorem dX1_commonSize_2 : decode cX1_commonSize 2 = .ok (.iconst 0, 1) := by decide +kernel
theorem dX1_commonSize_3 : decode cX1_commonSize 3 = .ok (.istore_n 2, 1) := by decide +kernel
theorem dX1_commonSize_4 : decode cX1_commonSize 4 = .ok (.aload_n 0, 1) := by decide +kernel
theorem dX1_commonSize_5 : decode cX1_commonSize 5 = .ok (.iload_n 2, 1) := by decide +kernel
theorem dX1_commonSize_6 : decode cX1_commonSize 6 = .ok (.invokevirtual 67, 3) := by decide +kernel
theorem dX1_commonSize_9 : decode cX1_commonSize 9 = .ok (.ifCond .eq 44, 3) := by decide +kernel
theorem dX1_commonSize_12 : decode cX1_commonSize 12 = .ok (.aload_n 0, 1) := by decide +kernel
theorem dX1_commonSize_13 : decode cX1_commonSize 13 = .ok (.iconst 0, 1) := by decide +kernel
theorem dX1_commonSize_14 : decode cX1_commonSize 14 = .ok (.iload_n 2, 1) := by decide +kernel
theorem dX1_commonSize_15 : decode cX1_commonSize 15 = .ok (.invokevirtual 99, 3) := by decide +kernel
theorem dX1_commonSize_18 : decode cX1_commonSize 18 = .ok (.ifCond .eq 27, 3) := by decide +kernel
theorem dX1_commonSize_21 : decode cX1_commonSize 21 = .ok (.aload_n 0, 1) := by decide +kernel
theorem dX1_commonSize_22 : decode cX1_commonSize 22 = .ok (.iconst 1, 1) := by decide +kernel
theorem dX1_commonSize_23 : decode cX1_commonSize 23 = .ok (.iload_n 2, 1) := by decide +kernel
theorem dX1_commonSize_24 : decode cX1_commonSize 24 = .ok (.invokevirtual 99, 3) := by decide +kernel
theorem dX1_commonSize_27 : decode cX1_commonSize 27 = .ok (.ifCond .eq 18, 3) := by decide +kernel
theorem dX1_commonSize_30 : decode cX1_commonSize 30 = .ok (.iload_n 2, 1) := by decide +kernel
theorem dX1_commonSize_31 : decode cX1_commonSize 31 = .ok (.invokestatic 59, 3) := by decide +kernel
theorem dX1_commonSize_34 : decode cX1_commonSize 34 = .ok (.iload_n 1, 1) := by decide +kernel
theorem dX1_commonSize_35 : decode cX1_commonSize 35 = .ok (.if_icmp .le 10, 3) := by decide +kernel
theorem dX1_commonSize_38 : decode cX1_commonSize 38 = .ok (.iload_n 2, 1) := by decide +kernel
theorem dX1_commonSize_39 : decode cX1_commonSize 39 = .ok (.invokestatic 59, 3) := by decide +kernel
theorem dX1_commonSize_42 : decode cX1_commonSize 42 = .ok (.goto 4, 3) := by decide +kernel
theorem dX1_commonSize_45 : decode cX1_commonSize 45 = .ok (.iload_n 1, 1) := by decide +kernel
theorem dX1_commonSize_46 : decode cX1_commonSize 46 = .ok (.istore_n 1, 1) := by decide +kernel
theorem dX1_commonSize_47 : decode cX1_commonSize 47 = .ok (.iinc 2 1, 3) := by decide +kernel
theorem dX1_commonSize_50 : decode cX1_commonSize 50 = .ok (.goto (-46), 3) := by decide +kernel
theorem dX1_commonSize_53 : decode cX1_commonSize 53 = .ok (.iload_n 1, 1) := by decide +kernel
theorem dX1_commonSize_54 : decode cX1_commonSize 54 = .ok (.ireturn, 1) := by decide +kernel
set_option maxRecDepth 20000 in
theorem ggX1_common_X1_commonSize : GoodIn wsX1_common wsX1_commonSize := goodIn_r _ [6, 7, 8, 9, 5, 10, 11, 12, 13, 14, 15, 16, 17, 18, 19, 20, 21, 22, 23, 24, 25, 26, 27, 28, 29, 30, 31, 32, 33, 34, 35, 36, 37, 38, 39, 40, 41, 42, 43, 44, 45] (by decide +kernel) (by decide +kernel)
set_option maxRecDepth 20000 in
theorem gX1_common_X1_commonSize : GoodIn wsX1_common (wsV RX1 102 RX1 yX1_commonSize wsX1_commonSize) := goodIn_app (goodIn_of _ (by decide +kernel)) ggX1_common_X1_commonSize
theorem dX1_common_0 : decode cX1_common 0 = .ok (.aload_n 0, 1) := by decide +kernel
theorem dX1_common_1 : decode cX1_common 1 = .ok (.iconst 0, 1) := by decide +kernel
theorem dX1_common_2 : decode cX1_common 2 = .ok (.putfield 44, 3) := by decide +kernel
theorem dX1_common_5 : decode cX1_common 5 = .ok (.aload_n 0, 1) := by decide +kernel
theorem dX1_common_6 : decode cX1_common 6 = .ok (.invokevirtual 102, 3) := by decide +kernel
theorem dX1_common_9 : decode cX1_common 9 = .ok (.ireturn, 1) := by decide +kernel
set_option maxRecDepth 20000 in
theorem ggX1_commonAnew_X1_commonSize : GoodIn wsX1_commonAnew wsX1_commonSize := goodIn_r _ [6, 7, 8, 9, 5, 10, 11, 12, 13, 14, 15, 16, 17, 18, 19, 20, 21, 22, 23, 24, 25, 26, 27, 28, 29, 30, 31, 32, 33, 34, 35, 36, 37, 38, 39, 40, 41, 42, 43, 44, 45] (by decide +kernel) (by decide +kernel)
set_option maxRecDepth 20000 in
theorem gX1_commonAnew_X1_commonSize : GoodIn wsX1_commonAnew (wsV RX1 102 RX1 yX1_commonSize wsX1_commonSize) := goodIn_app (goodIn_of _ (by decide +kernel)) ggX1_commonAnew_X1_commonSize
theorem dX1_commonAnew_0 : decode cX1_commonAnew 0 = .ok (.aload_n 0, 1) := by decide +kernel
theorem dX1_commonAnew_1 : decode cX1_commonAnew 1 = .ok (.iconst 0, 1) := by decide +kernel
theorem dX1_commonAnew_2 : decode cX1_commonAnew 2 = .ok (.putfield 44, 3) := by decide +kernel
theorem dX1_commonAnew_5 : decode cX1_commonAnew 5 = .ok (.aload_n 0, 1) := by decide +kernel
theorem dX1_commonAnew_6 : decode cX1_commonAnew 6 = .ok (.invokevirtual 102, 3) := by decide +kernel
theorem dX1_commonAnew_9 : decode cX1_commonAnew 9 = .ok (.ireturn, 1) := by decide +kernel
set_option maxRecDepth 20000 in
theorem ggX1_shares_X1_isFunction : GoodIn wsX1_shares wsX1_isFunction := goodIn_r _ [8, 9, 10, 11, 7, 12, 20, 21, 22, 23, 24, 25, 26, 27, 28, 29, 30] (by decide +kernel) (by decide +kernel)
set_option maxRecDepth 20000 in
theorem gX1_shares_X1_isFunction : GoodIn wsX1_shares (wsV RX1 83 RX1 yX1_isFunction wsX1_isFunction) := goodIn_app (goodIn_of _ (by decide +kernel)) ggX1_shares_X1_isFunction
set_option maxRecDepth 20000 in
theorem ggX1_shares_X1_isElement : GoodIn wsX1_shares wsX1_isElement := goodIn_r _ [16, 2, 10, 11, 7, 12, 20, 21, 22, 23, 24, 25, 26, 27, 28, 29, 30] (by decide +kernel) (by decide +kernel)
set_option maxRecDepth 20000 in
theorem gX1_shares_X1_isElement : GoodIn wsX1_shares (wsV RX1 51 RX1 yX1_isElement wsX1_isElement) := goodIn_app (goodIn_of _ (by decide +kernel)) ggX1_shares_X1_isElement
set_option maxRecDepth 20000 in
theorem ggX1_shares_X1_has : GoodIn wsX1_shares wsX1_has := goodIn_r _ [19] (by decide +kernel) (by decide +kernel)
set_option maxRecDepth 20000 in
theorem gX1_shares_X1_has : GoodIn wsX1_shares (va_wsS RX1 55 yX1_has wsX1_has) := goodIn_app (goodIn_of _ (by decide +kernel)) ggX1_shares_X1_has
theorem dX1_shares_0 : decode cX1_shares 0 = .ok (.aload_n 0, 1) := by decide +kernel
theorem dX1_shares_1 : decode cX1_shares 1 = .ok (.aload_n 0, 1) := by decide +kernel
theorem dX1_shares_2 : decode cX1_shares 2 = .ok (.iload_n 1, 1) := by decide +kernel
theorem dX1_shares_3 : decode cX1_shares 3 = .ok (.invokevirtual 83, 3) := by decide +kernel
theorem dX1_shares_6 : decode cX1_shares 6 = .ok (.ifCond .eq 15, 3) := by decide +kernel
theorem dX1_shares_9 : decode cX1_shares 9 = .ok (.aload_n 0, 1) := by decide +kernel
theorem dX1_shares_10 : decode cX1_shares 10 = .ok (.iload_n 2, 1) := by decide +kernel
theorem dX1_shares_11 : decode cX1_shares 11 = .ok (.invokevirtual 51, 3) := by decide +kernel
theorem dX1_shares_14 : decode cX1_shares 14 = .ok (.ifCond .eq 7, 3) := by decide +kernel
theorem dX1_shares_17 : decode cX1_shares 17 = .ok (.iconst 0, 1) := by decide +kernel
theorem dX1_shares_18 : decode cX1_shares 18 = .ok (.goto 4, 3) := by decide +kernel
theorem dX1_shares_21 : decode cX1_shares 21 = .ok (.iconst 1, 1) := by decide +kernel
theorem dX1_shares_22 : decode cX1_shares 22 = .ok (.putfield 44, 3) := by decide +kernel
theorem dX1_shares_25 : decode cX1_shares 25 = .ok (.aload_n 0, 1) := by decide +kernel
theorem dX1_shares_26 : decode cX1_shares 26 = .ok (.getfield 44, 3) := by decide +kernel
theorem dX1_shares_29 : decode cX1_shares 29 = .ok (.ifCond .le 5, 3) := by decide +kernel
theorem dX1_shares_32 : decode cX1_shares 32 = .ok (.iconst 0, 1) := by decide +kernel
theorem dX1_shares_33 : decode cX1_shares 33 = .ok (.ireturn, 1) := by decide +kernel
theorem dX1_shares_34 : decode cX1_shares 34 = .ok (.iconst 1, 1) := by decide +kernel
theorem dX1_shares_35 : decode cX1_shares 35 = .ok (.istore_n 3, 1) := by decide +kernel
theorem dX1_shares_36 : decode cX1_shares 36 = .ok (.iconst 2, 1) := by decide +kernel
theorem dX1_shares_37 : decode cX1_shares 37 = .ok (.istore 4, 2) := by decide +kernel
theorem dX1_shares_39 : decode cX1_shares 39 = .ok (.iload 4, 2) := by decide +kernel
theorem dX1_shares_41 : decode cX1_shares 41 = .ok (.aload_n 0, 1) := by decide +kernel
theorem dX1_shares_42 : decode cX1_shares 42 = .ok (.getfield 7, 3) := by decide +kernel
theorem dX1_shares_45 : decode cX1_shares 45 = .ok (.if_icmp .gt 14, 3) := by decide +kernel
theorem dX1_shares_48 : decode cX1_shares 48 = .ok (.iload_n 3, 1) := by decide +kernel
theorem dX1_shares_49 : decode cX1_shares 49 = .ok (.iload 4, 2) := by decide +kernel
theorem dX1_shares_51 : decode cX1_shares 51 = .ok (.imul, 1) := by decide +kernel
theorem dX1_shares_52 : decode cX1_shares 52 = .ok (.istore_n 3, 1) := by decide +kernel
theorem dX1_shares_53 : decode cX1_shares 53 = .ok (.iinc 4 1, 3) := by decide +kernel
theorem dX1_shares_56 : decode cX1_shares 56 = .ok (.goto (-17), 3) := by decide +kernel
theorem dX1_shares_59 : decode cX1_shares 59 = .ok (.iconst 0, 1) := by decide +kernel
theorem dX1_shares_60 : decode cX1_shares 60 = .ok (.istore 4, 2) := by decide +kernel
theorem dX1_shares_62 : decode cX1_shares 62 = .ok (.iconst 0, 1) := by decide +kernel
theorem dX1_shares_63 : decode cX1_shares 63 = .ok (.istore 5, 2) := by decide +kernel
theorem dX1_shares_65 : decode cX1_shares 65 = .ok (.iload 5, 2) := by decide +kernel
theorem dX1_shares_67 : decode cX1_shares 67 = .ok (.iload_n 3, 1) := by decide +kernel
theorem dX1_shares_68 : decode cX1_shares 68 = .ok (.if_icmp .ge 176, 3) := by decide +kernel
theorem dX1_shares_71 : decode cX1_shares 71 = .ok (.iload 5, 2) := by decide +kernel
theorem dX1_shares_73 : decode cX1_shares 73 = .ok (.istore 6, 2) := by decide +kernel
theorem dX1_shares_75 : decode cX1_shares 75 = .ok (.iconst 0, 1) := by decide +kernel
theorem dX1_shares_76 : decode cX1_shares 76 = .ok (.istore 7, 2) := by decide +kernel
theorem dX1_shares_78 : decode cX1_shares 78 = .ok (.iconst 0, 1) := by decide +kernel
theorem dX1_shares_79 : decode cX1_shares 79 = .ok (.istore 8, 2) := by decide +kernel
theorem dX1_shares_81 : decode cX1_shares 81 = .ok (.iconst 0, 1) := by decide +kernel
theorem dX1_shares_82 : decode cX1_shares 82 = .ok (.istore 9, 2) := by decide +kernel
theorem dX1_shares_84 : decode cX1_shares 84 = .ok (.iload 9, 2) := by decide +kernel
theorem dX1_shares_86 : decode cX1_shares 86 = .ok (.aload_n 0, 1) := by decide +kernel
theorem dX1_shares_87 : decode cX1_shares 87 = .ok (.getfield 7, 3) := by decide +kernel
theorem dX1_shares_90 : decode cX1_shares 90 = .ok (.if_icmp .ge 148, 3) := by decide +kernel
theorem dX1_shares_93 : decode cX1_shares 93 = .ok (.iload 8, 2) := by decide +kernel
theorem dX1_shares_95 : decode cX1_shares 95 = .ok (.ifCond .ne 143, 3) := by decide +kernel
theorem dX1_shares_98 : decode cX1_shares 98 = .ok (.iload 6, 2) := by decide +kernel
theorem dX1_shares_100 : decode cX1_shares 100 = .ok (.aload_n 0, 1) := by decide +kernel
theorem dX1_shares_101 : decode cX1_shares 101 = .ok (.getfield 7, 3) := by decide +kernel
theorem dX1_shares_104 : decode cX1_shares 104 = .ok (.iload 9, 2) := by decide +kernel
theorem dX1_shares_106 : decode cX1_shares 106 = .ok (.isub, 1) := by decide +kernel
theorem dX1_shares_107 : decode cX1_shares 107 = .ok (.irem, 1) := by decide +kernel
theorem dX1_shares_108 : decode cX1_shares 108 = .ok (.istore 10, 2) := by decide +kernel
theorem dX1_shares_110 : decode cX1_shares 110 = .ok (.iload 6, 2) := by decide +kernel
theorem dX1_shares_112 : decode cX1_shares 112 = .ok (.aload_n 0, 1) := by decide +kernel
theorem dX1_shares_113 : decode cX1_shares 113 = .ok (.getfield 7, 3) := by decide +kernel
theorem dX1_shares_116 : decode cX1_shares 116 = .ok (.iload 9, 2) := by decide +kernel
theorem dX1_shares_118 : decode cX1_shares 118 = .ok (.isub, 1) := by decide +kernel
theorem dX1_shares_119 : decode cX1_shares 119 = .ok (.idiv, 1) := by decide +kernel
theorem dX1_shares_120 : decode cX1_shares 120 = .ok (.istore 6, 2) := by decide +kernel
theorem dX1_shares_122 : decode cX1_shares 122 = .ok (.iconst 0, 1) := by decide +kernel
theorem dX1_shares_123 : decode cX1_shares 123 = .ok (.istore 11, 2) := by decide +kernel
theorem dX1_shares_125 : decode cX1_shares 125 = .ok (.iload 7, 2) := by decide +kernel
theorem dX1_shares_127 : decode cX1_shares 127 = .ok (.iload 11, 2) := by decide +kernel
theorem dX1_shares_129 : decode cX1_shares 129 = .ok (.invokestatic 55, 3) := by decide +kernel
theorem dX1_shares_132 : decode cX1_shares 132 = .ok (.ifCond .ne 8, 3) := by decide +kernel
theorem dX1_shares_135 : decode cX1_shares 135 = .ok (.iload 10, 2) := by decide +kernel
theorem dX1_shares_137 : decode cX1_shares 137 = .ok (.ifCond .le 29, 3) := by decide +kernel
theorem dX1_shares_140 : decode cX1_shares 140 = .ok (.iload 10, 2) := by decide +kernel
theorem dX1_shares_142 : decode cX1_shares 142 = .ok (.iload 7, 2) := by decide +kernel
theorem dX1_shares_144 : decode cX1_shares 144 = .ok (.iload 11, 2) := by decide +kernel
theorem dX1_shares_146 : decode cX1_shares 146 = .ok (.invokestatic 55, 3) := by decide +kernel
theorem dX1_shares_149 : decode cX1_shares 149 = .ok (.ifCond .eq 7, 3) := by decide +kernel
theorem dX1_shares_152 : decode cX1_shares 152 = .ok (.iconst 0, 1) := by decide +kernel
theorem dX1_shares_153 : decode cX1_shares 153 = .ok (.goto 4, 3) := by decide +kernel
theorem dX1_shares_156 : decode cX1_shares 156 = .ok (.iconst 1, 1) := by decide +kernel
theorem dX1_shares_157 : decode cX1_shares 157 = .ok (.isub, 1) := by decide +kernel
theorem dX1_shares_158 : decode cX1_shares 158 = .ok (.istore 10, 2) := by decide +kernel
theorem dX1_shares_160 : decode cX1_shares 160 = .ok (.iinc 11 1, 3) := by decide +kernel
theorem dX1_shares_163 : decode cX1_shares 163 = .ok (.goto (-38), 3) := by decide +kernel
theorem dX1_shares_166 : decode cX1_shares 166 = .ok (.iload 11, 2) := by decide +kernel
theorem dX1_shares_168 : decode cX1_shares 168 = .ok (.iload_n 2, 1) := by decide +kernel
theorem dX1_shares_169 : decode cX1_shares 169 = .ok (.if_icmp .ne 7, 3) := by decide +kernel
theorem dX1_shares_172 : decode cX1_shares 172 = .ok (.iconst 1, 1) := by decide +kernel
theorem dX1_shares_173 : decode cX1_shares 173 = .ok (.goto 4, 3) := by decide +kernel
theorem dX1_shares_176 : decode cX1_shares 176 = .ok (.iconst 0, 1) := by decide +kernel
theorem dX1_shares_177 : decode cX1_shares 177 = .ok (.istore 8, 2) := by decide +kernel
theorem dX1_shares_179 : decode cX1_shares 179 = .ok (.iload 4, 2) := by decide +kernel
theorem dX1_shares_181 : decode cX1_shares 181 = .ok (.iload 8, 2) := by decide +kernel
theorem dX1_shares_183 : decode cX1_shares 183 = .ok (.ifCond .eq 36, 3) := by decide +kernel
theorem dX1_shares_186 : decode cX1_shares 186 = .ok (.aload_n 0, 1) := by decide +kernel
theorem dX1_shares_187 : decode cX1_shares 187 = .ok (.getfield 29, 3) := by decide +kernel
theorem dX1_shares_190 : decode cX1_shares 190 = .ok (.bipush 64, 2) := by decide +kernel
theorem dX1_shares_192 : decode cX1_shares 192 = .ok (.iload_n 1, 1) := by decide +kernel
theorem dX1_shares_193 : decode cX1_shares 193 = .ok (.imul, 1) := by decide +kernel
theorem dX1_shares_194 : decode cX1_shares 194 = .ok (.iload 7, 2) := by decide +kernel
theorem dX1_shares_196 : decode cX1_shares 196 = .ok (.iconst 1, 1) := by decide +kernel
theorem dX1_shares_197 : decode cX1_shares 197 = .ok (.iload 11, 2) := by decide +kernel
theorem dX1_shares_199 : decode cX1_shares 199 = .ok (.ishl, 1) := by decide +kernel
theorem dX1_shares_200 : decode cX1_shares 200 = .ok (.ior, 1) := by decide +kernel
theorem dX1_shares_201 : decode cX1_shares 201 = .ok (.iadd, 1) := by decide +kernel
theorem dX1_shares_202 : decode cX1_shares 202 = .ok (.iaload, 1) := by decide +kernel
theorem dX1_shares_203 : decode cX1_shares 203 = .ok (.aload_n 0, 1) := by decide +kernel
theorem dX1_shares_204 : decode cX1_shares 204 = .ok (.getfield 29, 3) := by decide +kernel
theorem dX1_shares_207 : decode cX1_shares 207 = .ok (.bipush 64, 2) := by decide +kernel
theorem dX1_shares_209 : decode cX1_shares 209 = .ok (.iload_n 1, 1) := by decide +kernel
theorem dX1_shares_210 : decode cX1_shares 210 = .ok (.imul, 1) := by decide +kernel
theorem dX1_shares_211 : decode cX1_shares 211 = .ok (.iload 7, 2) := by decide +kernel
theorem dX1_shares_213 : decode cX1_shares 213 = .ok (.iadd, 1) := by decide +kernel
theorem dX1_shares_214 : decode cX1_shares 214 = .ok (.iaload, 1) := by decide +kernel
theorem dX1_shares_215 : decode cX1_shares 215 = .ok (.isub, 1) := by decide +kernel
theorem dX1_shares_216 : decode cX1_shares 216 = .ok (.goto 4, 3) := by decide +kernel
theorem dX1_shares_219 : decode cX1_shares 219 = .ok (.iconst 0, 1) := by decide +kernel
theorem dX1_shares_220 : decode cX1_shares 220 = .ok (.iadd, 1) := by decide +kernel
theorem dX1_shares_221 : decode cX1_shares 221 = .ok (.istore 4, 2) := by decide +kernel
theorem dX1_shares_223 : decode cX1_shares 223 = .ok (.iload 7, 2) := by decide +kernel
theorem dX1_shares_225 : decode cX1_shares 225 = .ok (.iconst 1, 1) := by decide +kernel
theorem dX1_shares_226 : decode cX1_shares 226 = .ok (.iload 11, 2) := by decide +kernel
theorem dX1_shares_228 : decode cX1_shares 228 = .ok (.ishl, 1) := by decide +kernel
theorem dX1_shares_229 : decode cX1_shares 229 = .ok (.ior, 1) := by decide +kernel
theorem dX1_shares_230 : decode cX1_shares 230 = .ok (.istore 7, 2) := by decide +kernel
theorem dX1_shares_232 : decode cX1_shares 232 = .ok (.iinc 9 1, 3) := by decide +kernel
theorem dX1_shares_235 : decode cX1_shares 235 = .ok (.goto (-151), 3) := by decide +kernel
theorem dX1_shares_238 : decode cX1_shares 238 = .ok (.iinc 5 1, 3) := by decide +kernel
theorem dX1_shares_241 : decode cX1_shares 241 = .ok (.goto (-176), 3) := by decide +kernel
theorem dX1_shares_244 : decode cX1_shares 244 = .ok (.iload 4, 2) := by decide +kernel
theorem dX1_shares_246 : decode cX1_shares 246 = .ok (.ireturn, 1) := by decide +kernel
set_option maxRecDepth 20000 in
theorem ggX1_share_X1_shares : GoodIn wsX1_share wsX1_shares := goodIn_r _ [5, 6, 7, 8, 9, 10, 11, 4, 12, 13, 14, 15, 16, 17, 18, 19, 20, 21, 22, 23, 24, 25, 26, 27, 28, 29, 30, 31, 32, 33, 34] (by decide +kernel) (by decide +kernel)
set_option maxRecDepth 20000 in
theorem gX1_share_X1_shares : GoodIn wsX1_share (wsV RX1 106 RX1 yX1_shares wsX1_shares) := goodIn_app (goodIn_of _ (by decide +kernel)) ggX1_share_X1_shares
theorem dX1_share_0 : decode cX1_share 0 = .ok (.aload_n 0, 1) := by decide +kernel
theorem dX1_share_1 : decode cX1_share 1 = .ok (.iload_n 1, 1) := by decide +kernel
theorem dX1_share_2 : decode cX1_share 2 = .ok (.iload_n 2, 1) := by decide +kernel
theorem dX1_share_3 : decode cX1_share 3 = .ok (.invokevirtual 106, 3) := by decide +kernel
theorem dX1_share_6 : decode cX1_share 6 = .ok (.ireturn, 1) := by decide +kernel
set_option maxRecDepth 20000 in
theorem ggX1_shareAnew_X1_shares : GoodIn wsX1_shareAnew wsX1_shares := goodIn_r _ [5, 6, 7, 8, 9, 10, 11, 4, 12, 13, 14, 15, 16, 17, 18, 19, 20, 21, 22, 23, 24, 25, 26, 27, 28, 29, 30, 31, 32, 33, 34] (by decide +kernel) (by decide +kernel)
set_option maxRecDepth 20000 in
theorem gX1_shareAnew_X1_shares : GoodIn wsX1_shareAnew (wsV RX1 106 RX1 yX1_shares wsX1_shares) := goodIn_app (goodIn_of _ (by decide +kernel)) ggX1_shareAnew_X1_shares
theorem dX1_shareAnew_0 : decode cX1_shareAnew 0 = .ok (.aload_n 0, 1) := by decide +kernel
theorem dX1_shareAnew_1 : decode cX1_shareAnew 1 = .ok (.iload_n 1, 1) := by decide +kernel
theorem dX1_shareAnew_2 : decode cX1_shareAnew 2 = .ok (.iload_n 2, 1) := by decide +kernel
theorem dX1_shareAnew_3 : decode cX1_shareAnew 3 = .ok (.invokevirtual 106, 3) := by decide +kernel
theorem dX1_shareAnew_6 : decode cX1_shareAnew 6 = .ok (.ireturn, 1) := by decide +kernel
end
section
theorem dJ6_bitCount_0f7a4_0 : decode cJ6_bitCount_0f7a4 0 = .ok (.iload_n 0, 1) := by decide +kernel
theorem dJ6_bitCount_0f7a4_1 : decode cJ6_bitCount_0f7a4 1 = .ok (.iload_n 0, 1) := by decide +kernel
theorem dJ6_bitCount_0f7a4_2 : decode cJ6_bitCount_0f7a4 2 = .ok (.iconst 1, 1) := by decide +kernel
theorem dJ6_bitCount_0f7a4_3 : decode cJ6_bitCount_0f7a4 3 = .ok (.iushr, 1) := by decide +kernel
theorem dJ6_bitCount_0f7a4_4 : decode cJ6_bitCount_0f7a4 4 = .ok (.ldc_w 265, 3) := by decide +kernel
theorem dJ6_bitCount_0f7a4_7 : decode cJ6_bitCount_0f7a4 7 = .ok (.iand, 1) := by decide +kernel
theorem dJ6_bitCount_0f7a4_8 : decode cJ6_bitCount_0f7a4 8 = .ok (.isub, 1) := by decide +kernel
theorem dJ6_bitCount_0f7a4_9 : decode cJ6_bitCount_0f7a4 9 = .ok (.istore_n 0, 1) := by decide +kernel
theorem dJ6_bitCount_0f7a4_10 : decode cJ6_bitCount_0f7a4 10 = .ok (.iload_n 0, 1) := by decide +kernel
theorem dJ6_bitCount_0f7a4_11 : decode cJ6_bitCount_0f7a4 11 = .ok (.ldc_w 266, 3) := by decide +kernel
theorem dJ6_bitCount_0f7a4_14 : decode cJ6_bitCount_0f7a4 14 = .ok (.iand, 1) := by decide +kernel
theorem dJ6_bitCount_0f7a4_15 : decode cJ6_bitCount_0f7a4 15 = .ok (.iload_n 0, 1) := by decide +kernel
theorem dJ6_bitCount_0f7a4_16 : decode cJ6_bitCount_0f7a4 16 = .ok (.iconst 2, 1) := by decide +kernel
theorem dJ6_bitCount_0f7a4_17 : decode cJ6_bitCount_0f7a4 17 = .ok (.iushr, 1) := by decide +kernel
theorem dJ6_bitCount_0f7a4_18 : decode cJ6_bitCount_0f7a4 18 = .ok (.ldc_w 266, 3) := by decide +kernel
theorem dJ6_bitCount_0f7a4_21 : decode cJ6_bitCount_0f7a4 21 = .ok (.iand, 1) := by decide +kernel
theorem dJ6_bitCount_0f7a4_22 : decode cJ6_bitCount_0f7a4 22 = .ok (.iadd, 1) := by decide +kernel
theorem dJ6_bitCount_0f7a4_23 : decode cJ6_bitCount_0f7a4 23 = .ok (.istore_n 0, 1) := by decide +kernel
theorem dJ6_bitCount_0f7a4_24 : decode cJ6_bitCount_0f7a4 24 = .ok (.iload_n 0, 1) := by decide +kernel
theorem dJ6_bitCount_0f7a4_25 : decode cJ6_bitCount_0f7a4 25 = .ok (.iload_n 0, 1) := by decide +kernel
theorem dJ6_bitCount_0f7a4_26 : decode cJ6_bitCount_0f7a4 26 = .ok (.iconst 4, 1) := by decide +kernel
theorem dJ6_bitCount_0f7a4_27 : decode cJ6_bitCount_0f7a4 27 = .ok (.iushr, 1) := by decide +kernel
theorem dJ6_bitCount_0f7a4_28 : decode cJ6_bitCount_0f7a4 28 = .ok (.iadd, 1) := by decide +kernel
theorem dJ6_bitCount_0f7a4_29 : decode cJ6_bitCount_0f7a4 29 = .ok (.ldc_w 267, 3) := by decide +kernel
theorem dJ6_bitCount_0f7a4_32 : decode cJ6_bitCount_0f7a4 32 = .ok (.iand, 1) := by decide +kernel
theorem dJ6_bitCount_0f7a4_33 : decode cJ6_bitCount_0f7a4 33 = .ok (.istore_n 0, 1) := by decide +kernel
theorem dJ6_bitCount_0f7a4_34 : decode cJ6_bitCount_0f7a4 34 = .ok (.iload_n 0, 1) := by decide +kernel
theorem dJ6_bitCount_0f7a4_35 : decode cJ6_bitCount_0f7a4 35 = .ok (.iload_n 0, 1) := by decide +kernel
theorem dJ6_bitCount_0f7a4_36 : decode cJ6_bitCount_0f7a4 36 = .ok (.bipush 8, 2) := by decide +kernel
theorem dJ6_bitCount_0f7a4_38 : decode cJ6_bitCount_0f7a4 38 = .ok (.iushr, 1) := by decide +kernel
theorem dJ6_bitCount_0f7a4_39 : decode cJ6_bitCount_0f7a4 39 = .ok (.iadd, 1) := by decide +kernel
theorem dJ6_bitCount_0f7a4_40 : decode cJ6_bitCount_0f7a4 40 = .ok (.istore_n 0, 1) := by decide +kernel
theorem dJ6_bitCount_0f7a4_41 : decode cJ6_bitCount_0f7a4 41 = .ok (.iload_n 0, 1) := by decide +kernel
theorem dJ6_bitCount_0f7a4_42 : decode cJ6_bitCount_0f7a4 42 = .ok (.iload_n 0, 1) := by decide +kernel
theorem dJ6_bitCount_0f7a4_43 : decode cJ6_bitCount_0f7a4 43 = .ok (.bipush 16, 2) := by decide +kernel
theorem dJ6_bitCount_0f7a4_45 : decode cJ6_bitCount_0f7a4 45 = .ok (.iushr, 1) := by decide +kernel
theorem dJ6_bitCount_0f7a4_46 : decode cJ6_bitCount_0f7a4 46 = .ok (.iadd, 1) := by decide +kernel
theorem dJ6_bitCount_0f7a4_47 : decode cJ6_bitCount_0f7a4 47 = .ok (.istore_n 0, 1) := by decide +kernel
theorem dJ6_bitCount_0f7a4_48 : decode cJ6_bitCount_0f7a4 48 = .ok (.iload_n 0, 1) := by decide +kernel
theorem dJ6_bitCount_0f7a4_49 : decode cJ6_bitCount_0f7a4 49 = .ok (.bipush 63, 2) := by decide +kernel
theorem dJ6_bitCount_0f7a4_51 : decode cJ6_bitCount_0f7a4 51 = .ok (.iand, 1) := by decide +kernel
theorem dJ6_bitCount_0f7a4_52 : decode cJ6_bitCount_0f7a4 52 = .ok (.ireturn, 1) := by decide +kernel
theorem dJ9_max_7cf53_0 : decode cJ9_max_7cf53 0 = .ok (.iload_n 0, 1) := by decide +kernel
theorem dJ9_max_7cf53_1 : decode cJ9_max_7cf53 1 = .ok (.iload_n 1, 1) := by decide +kernel
theorem dJ9_max_7cf53_2 : decode cJ9_max_7cf53 2 = .ok (.if_icmp .lt 7, 3) := by decide +kernel
theorem dJ9_max_7cf53_5 : decode cJ9_max_7cf53 5 = .ok (.iload_n 0, 1) := by decide +kernel
theorem dJ9_max_7cf53_6 : decode cJ9_max_7cf53 6 = .ok (.goto 4, 3) := by decide +kernel
theorem dJ9_max_7cf53_9 : decode cJ9_max_7cf53 9 = .ok (.iload_n 1, 1) := by decide +kernel
theorem dJ9_max_7cf53_10 : decode cJ9_max_7cf53 10 = .ok (.ireturn, 1) := by decide +kernel
theorem dJ9_min_7cf53_0 : decode cJ9_min_7cf53 0 = .ok (.iload_n 0, 1) := by decide +kernel
theorem dJ9_min_7cf53_1 : decode cJ9_min_7cf53 1 = .ok (.iload_n 1, 1) := by decide +kernel
theorem dJ9_min_7cf53_2 : decode cJ9_min_7cf53 2 = .ok (.if_icmp .gt 7, 3) := by decide +kernel
theorem dJ9_min_7cf53_5 : decode cJ9_min_7cf53 5 = .ok (.iload_n 0, 1) := by decide +kernel
theorem dJ9_min_7cf53_6 : decode cJ9_min_7cf53 6 = .ok (.goto 4, 3) := by decide +kernel
theorem dJ9_min_7cf53_9 : decode cJ9_min_7cf53 9 = .ok (.iload_n 1, 1) := by decide +kernel
theorem dJ9_min_7cf53_10 : decode cJ9_min_7cf53 10 = .ok (.ireturn, 1) := by decide +kernel
theorem dJ7_fill_53178_0 : decode cJ7_fill_53178 0 = .ok (.iconst 0, 1) := by decide +kernel
theorem dJ7_fill_53178_1 : decode cJ7_fill_53178 1 = .ok (.istore_n 2, 1) := by decide +kernel
theorem dJ7_fill_53178_2 : decode cJ7_fill_53178 2 = .ok (.aload_n 0, 1) := by decide +kernel
theorem dJ7_fill_53178_3 : decode cJ7_fill_53178 3 = .ok (.arraylength, 1) := by decide +kernel
theorem dJ7_fill_53178_4 : decode cJ7_fill_53178 4 = .ok (.istore_n 3, 1) := by decide +kernel
theorem dJ7_fill_53178_5 : decode cJ7_fill_53178 5 = .ok (.iload_n 2, 1) := by decide +kernel
theorem dJ7_fill_53178_6 : decode cJ7_fill_53178 6 = .ok (.iload_n 3, 1) := by decide +kernel
theorem dJ7_fill_53178_7 : decode cJ7_fill_53178 7 = .ok (.if_icmp .ge 13, 3) := by decide +kernel
theorem dJ7_fill_53178_10 : decode cJ7_fill_53178 10 = .ok (.aload_n 0, 1) := by decide +kernel
theorem dJ7_fill_53178_11 : decode cJ7_fill_53178 11 = .ok (.iload_n 2, 1) := by decide +kernel
theorem dJ7_fill_53178_12 : decode cJ7_fill_53178 12 = .ok (.iload_n 1, 1) := by decide +kernel
theorem dJ7_fill_53178_13 : decode cJ7_fill_53178 13 = .ok (.iastore, 1) := by decide +kernel
theorem dJ7_fill_53178_14 : decode cJ7_fill_53178 14 = .ok (.iinc 2 1, 3) := by decide +kernel
theorem dJ7_fill_53178_17 : decode cJ7_fill_53178 17 = .ok (.goto (-12), 3) := by decide +kernel
theorem dJ7_fill_53178_20 : decode cJ7_fill_53178 20 = .ok (.return_, 1) := by decide +kernel
set_option maxRecDepth 20000 in
theorem ggL_elements_X0_elements : GoodIn wsL_elements wsX0_elements := goodIn_ca (goodIn_r _ [6, 7, 8, 9, 10, 11, 12, 13, 14, 15, 16, 5, 17, 18, 19, 20, 21, 22, 23, 24, 25, 26, 27, 28, 29, 30, 31, 32, 33, 34, 35, 36, 37, 38] (by decide +kernel) (by decide +kernel)) (goodIn_sub (fun _ h => List.mem_cons_of_mem _ (List.mem_append_right _ h)) (by decide +kernel))
set_option maxRecDepth 20000 in
theorem gL_elements_X0_elements : GoodIn wsL_elements (wsV RL 7 RX0 yX0_elements wsX0_elements) := goodIn_app (goodIn_of _ (by decide +kernel)) ggL_elements_X0_elements
theorem dL_elements_0 : decode cL_elements 0 = .ok (.aload_n 2, 1) := by decide +kernel
theorem dL_elements_1 : decode cL_elements 1 = .ok (.iconst 0, 1) := by decide +kernel
theorem dL_elements_2 : decode cL_elements 2 = .ok (.aload_n 0, 1) := by decide +kernel
theorem dL_elements_3 : decode cL_elements 3 = .ok (.iload_n 1, 1) := by decide +kernel
theorem dL_elements_4 : decode cL_elements 4 = .ok (.invokevirtual 7, 3) := by decide +kernel
theorem dL_elements_7 : decode cL_elements 7 = .ok (.i2l, 1) := by decide +kernel
theorem dL_elements_8 : decode cL_elements 8 = .ok (.lastore, 1) := by decide +kernel
theorem dL_elements_9 : decode cL_elements 9 = .ok (.goto 6, 3) := by decide +kernel
theorem dL_elements_12 : decode cL_elements 12 = .ok (.astore_n 3, 1) := by decide +kernel
theorem dL_elements_13 : decode cL_elements 13 = .ok (.iconst 1, 1) := by decide +kernel
theorem dL_elements_14 : decode cL_elements 14 = .ok (.ireturn, 1) := by decide +kernel
theorem dL_elements_15 : decode cL_elements 15 = .ok (.iconst 0, 1) := by decide +kernel
theorem dL_elements_16 : decode cL_elements 16 = .ok (.ireturn, 1) := by decide +kernel
set_option maxRecDepth 20000 in
theorem ggL_cover_X0_cover : GoodIn wsL_cover wsX0_cover := goodIn_ca (goodIn_r _ [6, 7, 8, 9, 10, 5, 11, 12, 13, 14, 15, 16, 17, 18, 19, 20, 21, 22, 23, 24, 25, 26, 27, 28, 29, 30, 31, 32, 33, 34, 35, 36, 37, 38, 39, 40, 41, 42, 43, 44, 45, 46, 47] (by decide +kernel) (by decide +kernel)) (goodIn_sub (fun _ h => List.mem_cons_of_mem _ (List.mem_append_right _ h)) (by decide +kernel))
set_option maxRecDepth 20000 in
theorem gL_cover_X0_cover : GoodIn wsL_cover (wsV RL 15 RX0 yX0_cover wsX0_cover) := goodIn_app (goodIn_of _ (by decide +kernel)) ggL_cover_X0_cover
theorem dL_cover_0 : decode cL_cover 0 = .ok (.aload 4, 2) := by decide +kernel
theorem dL_cover_2 : decode cL_cover 2 = .ok (.iconst 0, 1) := by decide +kernel
theorem dL_cover_3 : decode cL_cover 3 = .ok (.aload_n 0, 1) := by decide +kernel
theorem dL_cover_4 : decode cL_cover 4 = .ok (.iload_n 1, 1) := by decide +kernel
theorem dL_cover_5 : decode cL_cover 5 = .ok (.iload_n 2, 1) := by decide +kernel
theorem dL_cover_6 : decode cL_cover 6 = .ok (.iload_n 3, 1) := by decide +kernel
theorem dL_cover_7 : decode cL_cover 7 = .ok (.invokevirtual 15, 3) := by decide +kernel
theorem dL_cover_10 : decode cL_cover 10 = .ok (.ifCond .eq 7, 3) := by decide +kernel
theorem dL_cover_13 : decode cL_cover 13 = .ok (.lconst 1, 1) := by decide +kernel
theorem dL_cover_14 : decode cL_cover 14 = .ok (.goto 4, 3) := by decide +kernel
theorem dL_cover_17 : decode cL_cover 17 = .ok (.lconst 0, 1) := by decide +kernel
theorem dL_cover_18 : decode cL_cover 18 = .ok (.lastore, 1) := by decide +kernel
theorem dL_cover_19 : decode cL_cover 19 = .ok (.goto 7, 3) := by decide +kernel
theorem dL_cover_22 : decode cL_cover 22 = .ok (.astore 5, 2) := by decide +kernel
theorem dL_cover_24 : decode cL_cover 24 = .ok (.iconst 1, 1) := by decide +kernel
theorem dL_cover_25 : decode cL_cover 25 = .ok (.ireturn, 1) := by decide +kernel
theorem dL_cover_26 : decode cL_cover 26 = .ok (.iconst 0, 1) := by decide +kernel
theorem dL_cover_27 : decode cL_cover 27 = .ok (.ireturn, 1) := by decide +kernel
set_option maxRecDepth 20000 in
theorem ggL_edge_X0_edge : GoodIn wsL_edge wsX0_edge := goodIn_ca (goodIn_ca (goodIn_r _ [7, 8, 9, 10, 11, 6, 12, 13, 14, 15, 16, 17, 18, 19, 20, 21, 22, 23, 24, 25, 26, 27, 28, 29, 30, 31, 32, 33, 34, 35, 36, 37, 38, 39, 40, 41, 42, 43, 44, 45, 46, 47, 48] (by decide +kernel) (by decide +kernel)) (goodIn_sub (fun _ h => List.mem_cons_of_mem _ (List.mem_append_left _ (List.mem_append_right _ h))) (by decide +kernel))) (goodIn_sub (fun _ h => List.mem_cons_of_mem _ (List.mem_append_right _ h)) (by decide +kernel))
set_option maxRecDepth 20000 in
theorem gL_edge_X0_edge : GoodIn wsL_edge (wsV RL 21 RX0 yX0_edge wsX0_edge) := goodIn_app (goodIn_of _ (by decide +kernel)) ggL_edge_X0_edge
theorem dL_edge_0 : decode cL_edge 0 = .ok (.aload 4, 2) := by decide +kernel
theorem dL_edge_2 : decode cL_edge 2 = .ok (.iconst 0, 1) := by decide +kernel
theorem dL_edge_3 : decode cL_edge 3 = .ok (.aload_n 0, 1) := by decide +kernel
theorem dL_edge_4 : decode cL_edge 4 = .ok (.iload_n 1, 1) := by decide +kernel
theorem dL_edge_5 : decode cL_edge 5 = .ok (.iload_n 2, 1) := by decide +kernel
theorem dL_edge_6 : decode cL_edge 6 = .ok (.iload_n 3, 1) := by decide +kernel
theorem dL_edge_7 : decode cL_edge 7 = .ok (.invokevirtual 21, 3) := by decide +kernel
theorem dL_edge_10 : decode cL_edge 10 = .ok (.i2l, 1) := by decide +kernel
theorem dL_edge_11 : decode cL_edge 11 = .ok (.lastore, 1) := by decide +kernel
theorem dL_edge_12 : decode cL_edge 12 = .ok (.goto 11, 3) := by decide +kernel
theorem dL_edge_15 : decode cL_edge 15 = .ok (.astore 5, 2) := by decide +kernel
theorem dL_edge_17 : decode cL_edge 17 = .ok (.iconst 1, 1) := by decide +kernel
theorem dL_edge_18 : decode cL_edge 18 = .ok (.ireturn, 1) := by decide +kernel
theorem dL_edge_19 : decode cL_edge 19 = .ok (.astore 5, 2) := by decide +kernel
theorem dL_edge_21 : decode cL_edge 21 = .ok (.iconst 2, 1) := by decide +kernel
theorem dL_edge_22 : decode cL_edge 22 = .ok (.ireturn, 1) := by decide +kernel
theorem dL_edge_23 : decode cL_edge 23 = .ok (.iconst 0, 1) := by decide +kernel
theorem dL_edge_24 : decode cL_edge 24 = .ok (.ireturn, 1) := by decide +kernel
set_option maxRecDepth 20000 in
theorem ggL_colour_X0_colour : GoodIn wsL_colour wsX0_colour := goodIn_ca (goodIn_r _ [6, 7, 8, 9, 5, 10, 11, 12, 13, 14, 15, 16, 17, 18, 19, 20, 21, 22, 23, 24, 25, 26, 27, 28, 29, 30, 31, 32, 33, 34, 35, 36, 37, 38, 39, 40, 41, 42, 43, 44, 45] (by decide +kernel) (by decide +kernel)) (goodIn_sub (fun _ h => List.mem_cons_of_mem _ (List.mem_append_right _ h)) (by decide +kernel))
set_option maxRecDepth 20000 in
theorem gL_colour_X0_colour : GoodIn wsL_colour (wsV RL 25 RX0 yX0_colour wsX0_colour) := goodIn_app (goodIn_of _ (by decide +kernel)) ggL_colour_X0_colour
theorem dL_colour_0 : decode cL_colour 0 = .ok (.aload 4, 2) := by decide +kernel
theorem dL_colour_2 : decode cL_colour 2 = .ok (.iconst 0, 1) := by decide +kernel
theorem dL_colour_3 : decode cL_colour 3 = .ok (.aload_n 0, 1) := by decide +kernel
theorem dL_colour_4 : decode cL_colour 4 = .ok (.iload_n 1, 1) := by decide +kernel
theorem dL_colour_5 : decode cL_colour 5 = .ok (.iload_n 2, 1) := by decide +kernel
theorem dL_colour_6 : decode cL_colour 6 = .ok (.iload_n 3, 1) := by decide +kernel
theorem dL_colour_7 : decode cL_colour 7 = .ok (.invokevirtual 25, 3) := by decide +kernel
theorem dL_colour_10 : decode cL_colour 10 = .ok (.i2l, 1) := by decide +kernel
theorem dL_colour_11 : decode cL_colour 11 = .ok (.lastore, 1) := by decide +kernel
theorem dL_colour_12 : decode cL_colour 12 = .ok (.goto 7, 3) := by decide +kernel
theorem dL_colour_15 : decode cL_colour 15 = .ok (.astore 5, 2) := by decide +kernel
theorem dL_colour_17 : decode cL_colour 17 = .ok (.iconst 1, 1) := by decide +kernel
theorem dL_colour_18 : decode cL_colour 18 = .ok (.ireturn, 1) := by decide +kernel
theorem dL_colour_19 : decode cL_colour 19 = .ok (.iconst 0, 1) := by decide +kernel
theorem dL_colour_20 : decode cL_colour 20 = .ok (.ireturn, 1) := by decide +kernel
set_option maxRecDepth 20000 in
theorem ggL_room_X0_room : GoodIn wsL_room wsX0_room := goodIn_ca (goodIn_ca (goodIn_r _ [7, 8, 9, 10, 6, 11, 12, 13, 14, 15, 16, 17, 18, 19, 20, 21, 22, 23, 24, 25, 26, 27, 28, 29, 30, 31, 32, 33, 34, 35, 36, 37, 38, 39, 40, 41, 42, 43, 44, 45, 46, 47, 48, 49] (by decide +kernel) (by decide +kernel)) (goodIn_sub (fun _ h => List.mem_cons_of_mem _ (List.mem_append_left _ (List.mem_append_right _ h))) (by decide +kernel))) (goodIn_sub (fun _ h => List.mem_cons_of_mem _ (List.mem_append_right _ h)) (by decide +kernel))
set_option maxRecDepth 20000 in
theorem gL_room_X0_room : GoodIn wsL_room (wsV RL 28 RX0 yX0_room wsX0_room) := goodIn_app (goodIn_of _ (by decide +kernel)) ggL_room_X0_room
theorem dL_room_0 : decode cL_room 0 = .ok (.aload 4, 2) := by decide +kernel
theorem dL_room_2 : decode cL_room 2 = .ok (.iconst 0, 1) := by decide +kernel
theorem dL_room_3 : decode cL_room 3 = .ok (.aload_n 0, 1) := by decide +kernel
theorem dL_room_4 : decode cL_room 4 = .ok (.iload_n 1, 1) := by decide +kernel
theorem dL_room_5 : decode cL_room 5 = .ok (.iload_n 2, 1) := by decide +kernel
theorem dL_room_6 : decode cL_room 6 = .ok (.iload_n 3, 1) := by decide +kernel
theorem dL_room_7 : decode cL_room 7 = .ok (.invokevirtual 28, 3) := by decide +kernel
theorem dL_room_10 : decode cL_room 10 = .ok (.i2l, 1) := by decide +kernel
theorem dL_room_11 : decode cL_room 11 = .ok (.lastore, 1) := by decide +kernel
theorem dL_room_12 : decode cL_room 12 = .ok (.goto 11, 3) := by decide +kernel
theorem dL_room_15 : decode cL_room 15 = .ok (.astore 5, 2) := by decide +kernel
theorem dL_room_17 : decode cL_room 17 = .ok (.iconst 1, 1) := by decide +kernel
theorem dL_room_18 : decode cL_room 18 = .ok (.ireturn, 1) := by decide +kernel
theorem dL_room_19 : decode cL_room 19 = .ok (.astore 5, 2) := by decide +kernel
theorem dL_room_21 : decode cL_room 21 = .ok (.iconst 2, 1) := by decide +kernel
theorem dL_room_22 : decode cL_room 22 = .ok (.ireturn, 1) := by decide +kernel
theorem dL_room_23 : decode cL_room 23 = .ok (.iconst 0, 1) := by decide +kernel
theorem dL_room_24 : decode cL_room 24 = .ok (.ireturn, 1) := by decide +kernel
set_option maxRecDepth 20000 in
theorem ggL_weigh_X0_weigh : GoodIn wsL_weigh wsX0_weigh := goodIn_ca (goodIn_ca (goodIn_r _ [7, 8, 9, 10, 11, 6, 12, 13, 14, 15, 16, 17, 18, 19, 20, 21, 22, 23, 24, 25, 26, 27, 28, 29, 30, 31, 32, 33, 34, 35, 36, 37, 38, 39, 40, 41, 42, 43, 44] (by decide +kernel) (by decide +kernel)) (goodIn_sub (fun _ h => List.mem_cons_of_mem _ (List.mem_append_left _ (List.mem_append_right _ h))) (by decide +kernel))) (goodIn_sub (fun _ h => List.mem_cons_of_mem _ (List.mem_append_right _ h)) (by decide +kernel))
set_option maxRecDepth 20000 in
theorem gL_weigh_X0_weigh : GoodIn wsL_weigh (wsV RL 31 RX0 yX0_weigh wsX0_weigh) := goodIn_app (goodIn_of _ (by decide +kernel)) ggL_weigh_X0_weigh
theorem dL_weigh_0 : decode cL_weigh 0 = .ok (.aload_n 3, 1) := by decide +kernel
theorem dL_weigh_1 : decode cL_weigh 1 = .ok (.iconst 0, 1) := by decide +kernel
theorem dL_weigh_2 : decode cL_weigh 2 = .ok (.aload_n 0, 1) := by decide +kernel
theorem dL_weigh_3 : decode cL_weigh 3 = .ok (.iload_n 1, 1) := by decide +kernel
theorem dL_weigh_4 : decode cL_weigh 4 = .ok (.iload_n 2, 1) := by decide +kernel
theorem dL_weigh_5 : decode cL_weigh 5 = .ok (.invokevirtual 31, 3) := by decide +kernel
theorem dL_weigh_8 : decode cL_weigh 8 = .ok (.i2l, 1) := by decide +kernel
theorem dL_weigh_9 : decode cL_weigh 9 = .ok (.lastore, 1) := by decide +kernel
theorem dL_weigh_10 : decode cL_weigh 10 = .ok (.goto 11, 3) := by decide +kernel
theorem dL_weigh_13 : decode cL_weigh 13 = .ok (.astore 4, 2) := by decide +kernel
theorem dL_weigh_15 : decode cL_weigh 15 = .ok (.iconst 1, 1) := by decide +kernel
theorem dL_weigh_16 : decode cL_weigh 16 = .ok (.ireturn, 1) := by decide +kernel
theorem dL_weigh_17 : decode cL_weigh 17 = .ok (.astore 4, 2) := by decide +kernel
theorem dL_weigh_19 : decode cL_weigh 19 = .ok (.iconst 2, 1) := by decide +kernel
theorem dL_weigh_20 : decode cL_weigh 20 = .ok (.ireturn, 1) := by decide +kernel
theorem dL_weigh_21 : decode cL_weigh 21 = .ok (.iconst 0, 1) := by decide +kernel
theorem dL_weigh_22 : decode cL_weigh 22 = .ok (.ireturn, 1) := by decide +kernel
set_option maxRecDepth 20000 in
theorem ggL_make_X0_make : GoodIn wsL_make wsX0_make := goodIn_ca (goodIn_ca (goodIn_r _ [7, 8, 9, 6, 10, 11, 12, 13, 14, 15, 16, 17, 18, 19, 20, 21, 22, 23, 24, 25, 26, 27, 28, 29, 30, 31, 32, 33, 34, 35, 36, 37, 38, 39, 40, 41, 42, 43, 44, 45, 46, 47, 48, 49, 50, 51, 52, 53, 54, 55, 56, 57, 58, 59, 60, 61, 62, 63, 64, 65, 66, 67, 68, 69, 70, 71, 72, 73, 74, 75, 76, 77, 78, 79, 80, 81, 82, 83, 84, 85, 86, 87, 88, 89, 90, 91, 92, 93, 94, 95, 96, 97, 98, 99, 100, 101, 102, 103, 104, 105, 106, 107, 108, 109, 110, 111, 112] (by decide +kernel) (by decide +kernel)) (goodIn_sub (fun _ h => List.mem_cons_of_mem _ (List.mem_append_left _ (List.mem_append_right _ h))) (by decide +kernel))) (goodIn_sub (fun _ h => List.mem_cons_of_mem _ (List.mem_append_right _ h)) (by decide +kernel))
set_option maxRecDepth 20000 in
theorem gL_make_X0_make : GoodIn wsL_make (wsV RL 35 RX0 yX0_make wsX0_make) := goodIn_app (goodIn_of _ (by decide +kernel)) ggL_make_X0_make
theorem dL_make_0 : decode cL_make 0 = .ok (.aload_n 2, 1) := by decide +kernel
theorem dL_make_1 : decode cL_make 1 = .ok (.iconst 0, 1) := by decide +kernel
theorem dL_make_2 : decode cL_make 2 = .ok (.aload_n 0, 1) := by decide +kernel
theorem dL_make_3 : decode cL_make 3 = .ok (.iload_n 1, 1) := by decide +kernel
theorem dL_make_4 : decode cL_make 4 = .ok (.invokevirtual 35, 3) := by decide +kernel
theorem dL_make_7 : decode cL_make 7 = .ok (.i2l, 1) := by decide +kernel
theorem dL_make_8 : decode cL_make 8 = .ok (.lastore, 1) := by decide +kernel
theorem dL_make_9 : decode cL_make 9 = .ok (.goto 9, 3) := by decide +kernel
theorem dL_make_12 : decode cL_make 12 = .ok (.astore_n 3, 1) := by decide +kernel
theorem dL_make_13 : decode cL_make 13 = .ok (.iconst 1, 1) := by decide +kernel
theorem dL_make_14 : decode cL_make 14 = .ok (.ireturn, 1) := by decide +kernel
theorem dL_make_15 : decode cL_make 15 = .ok (.astore_n 3, 1) := by decide +kernel
theorem dL_make_16 : decode cL_make 16 = .ok (.iconst 2, 1) := by decide +kernel
theorem dL_make_17 : decode cL_make 17 = .ok (.ireturn, 1) := by decide +kernel
theorem dL_make_18 : decode cL_make 18 = .ok (.iconst 0, 1) := by decide +kernel
theorem dL_make_19 : decode cL_make 19 = .ok (.ireturn, 1) := by decide +kernel
set_option maxRecDepth 20000 in
theorem ggL_sum_X0_sum : GoodIn wsL_sum wsX0_sum := goodIn_ca (goodIn_ca (goodIn_r _ [7, 8, 9, 10, 6, 11, 12, 13, 14, 15, 16, 17, 18, 19, 20, 21, 22, 23, 24, 25, 26, 27, 28, 29, 30, 31, 32, 33, 34, 35, 36, 37, 38, 39, 40, 41, 42, 43, 44, 45, 46, 47, 48, 49, 50, 51, 52, 53, 54, 55, 56, 57, 58, 59, 60, 61, 62] (by decide +kernel) (by decide +kernel)) (goodIn_sub (fun _ h => List.mem_cons_of_mem _ (List.mem_append_left _ (List.mem_append_right _ h))) (by decide +kernel))) (goodIn_sub (fun _ h => List.mem_cons_of_mem _ (List.mem_append_right _ h)) (by decide +kernel))
set_option maxRecDepth 20000 in
theorem gL_sum_X0_sum : GoodIn wsL_sum (wsV RL 40 RX0 yX0_sum wsX0_sum) := goodIn_app (goodIn_of _ (by decide +kernel)) ggL_sum_X0_sum
theorem dL_sum_0 : decode cL_sum 0 = .ok (.aload_n 3, 1) := by decide +kernel
theorem dL_sum_1 : decode cL_sum 1 = .ok (.iconst 0, 1) := by decide +kernel
theorem dL_sum_2 : decode cL_sum 2 = .ok (.aload_n 0, 1) := by decide +kernel
theorem dL_sum_3 : decode cL_sum 3 = .ok (.iload_n 1, 1) := by decide +kernel
theorem dL_sum_4 : decode cL_sum 4 = .ok (.iload_n 2, 1) := by decide +kernel
theorem dL_sum_5 : decode cL_sum 5 = .ok (.invokevirtual 40, 3) := by decide +kernel
theorem dL_sum_8 : decode cL_sum 8 = .ok (.i2l, 1) := by decide +kernel
theorem dL_sum_9 : decode cL_sum 9 = .ok (.lastore, 1) := by decide +kernel
theorem dL_sum_10 : decode cL_sum 10 = .ok (.goto 11, 3) := by decide +kernel
theorem dL_sum_13 : decode cL_sum 13 = .ok (.astore 4, 2) := by decide +kernel
theorem dL_sum_15 : decode cL_sum 15 = .ok (.iconst 1, 1) := by decide +kernel
theorem dL_sum_16 : decode cL_sum 16 = .ok (.ireturn, 1) := by decide +kernel
theorem dL_sum_17 : decode cL_sum 17 = .ok (.astore 4, 2) := by decide +kernel
theorem dL_sum_19 : decode cL_sum 19 = .ok (.iconst 2, 1) := by decide +kernel
theorem dL_sum_20 : decode cL_sum 20 = .ok (.ireturn, 1) := by decide +kernel
theorem dL_sum_21 : decode cL_sum 21 = .ok (.iconst 0, 1) := by decide +kernel
theorem dL_sum_22 : decode cL_sum 22 = .ok (.ireturn, 1) := by decide +kernel
set_option maxRecDepth 20000 in
theorem ggL_contract_X0_contract : GoodIn wsL_contract wsX0_contract := goodIn_ca (goodIn_ca (goodIn_ca (goodIn_r _ [8, 9, 10, 11, 7, 12, 13, 14, 15, 16, 17, 18, 19, 20, 21, 22, 23, 24, 25, 26, 27, 28, 29, 30, 31, 32, 33, 34, 35, 36, 37, 38, 39, 40, 41, 42, 43, 44, 45, 46, 47, 48, 49, 50, 51, 52, 53, 54, 55, 56, 57, 58, 59, 60, 61, 62, 63, 64, 65, 66, 67, 68, 69, 70, 71, 72] (by decide +kernel) (by decide +kernel)) (goodIn_sub (fun _ h => List.mem_cons_of_mem _ (List.mem_append_left _ (List.mem_append_left _ (List.mem_append_right _ h)))) (by decide +kernel))) (goodIn_sub (fun _ h => List.mem_cons_of_mem _ (List.mem_append_left _ (List.mem_append_right _ h))) (by decide +kernel))) (goodIn_sub (fun _ h => List.mem_cons_of_mem _ (List.mem_append_right _ h)) (by decide +kernel))
set_option maxRecDepth 20000 in
theorem gL_contract_X0_contract : GoodIn wsL_contract (wsV RL 43 RX0 yX0_contract wsX0_contract) := goodIn_app (goodIn_of _ (by decide +kernel)) ggL_contract_X0_contract
theorem dL_contract_0 : decode cL_contract 0 = .ok (.aload_n 3, 1) := by decide +kernel
theorem dL_contract_1 : decode cL_contract 1 = .ok (.iconst 0, 1) := by decide +kernel
theorem dL_contract_2 : decode cL_contract 2 = .ok (.aload_n 0, 1) := by decide +kernel
theorem dL_contract_3 : decode cL_contract 3 = .ok (.iload_n 1, 1) := by decide +kernel
theorem dL_contract_4 : decode cL_contract 4 = .ok (.iload_n 2, 1) := by decide +kernel
theorem dL_contract_5 : decode cL_contract 5 = .ok (.invokevirtual 43, 3) := by decide +kernel
theorem dL_contract_8 : decode cL_contract 8 = .ok (.i2l, 1) := by decide +kernel
theorem dL_contract_9 : decode cL_contract 9 = .ok (.lastore, 1) := by decide +kernel
theorem dL_contract_10 : decode cL_contract 10 = .ok (.goto 15, 3) := by decide +kernel
theorem dL_contract_13 : decode cL_contract 13 = .ok (.astore 4, 2) := by decide +kernel
theorem dL_contract_15 : decode cL_contract 15 = .ok (.iconst 1, 1) := by decide +kernel
theorem dL_contract_16 : decode cL_contract 16 = .ok (.ireturn, 1) := by decide +kernel
theorem dL_contract_17 : decode cL_contract 17 = .ok (.astore 4, 2) := by decide +kernel
theorem dL_contract_19 : decode cL_contract 19 = .ok (.iconst 2, 1) := by decide +kernel
theorem dL_contract_20 : decode cL_contract 20 = .ok (.ireturn, 1) := by decide +kernel
theorem dL_contract_21 : decode cL_contract 21 = .ok (.astore 4, 2) := by decide +kernel
theorem dL_contract_23 : decode cL_contract 23 = .ok (.iconst 3, 1) := by decide +kernel
theorem dL_contract_24 : decode cL_contract 24 = .ok (.ireturn, 1) := by decide +kernel
theorem dL_contract_25 : decode cL_contract 25 = .ok (.iconst 0, 1) := by decide +kernel
theorem dL_contract_26 : decode cL_contract 26 = .ok (.ireturn, 1) := by decide +kernel
set_option maxRecDepth 20000 in
theorem ggL_cap_X0_cap : GoodIn wsL_cap wsX0_cap := goodIn_ca (goodIn_ca (goodIn_ca (goodIn_r _ [8, 9, 10, 11, 12, 13, 14, 15, 7, 16, 17, 18, 19, 20, 21, 22, 23, 24, 25, 26, 27, 28, 29, 30, 31, 32, 33, 34, 35, 36, 37, 38, 39, 40, 41, 42, 43, 44, 45, 46, 47, 48, 49, 50, 51, 52, 53, 54, 55, 56, 57, 58, 59, 60, 61, 62, 63, 64, 65, 66, 67, 68, 69, 70, 71, 72, 73, 74, 75] (by decide +kernel) (by decide +kernel)) (goodIn_sub (fun _ h => List.mem_cons_of_mem _ (List.mem_append_left _ (List.mem_append_left _ (List.mem_append_right _ h)))) (by decide +kernel))) (goodIn_sub (fun _ h => List.mem_cons_of_mem _ (List.mem_append_left _ (List.mem_append_right _ h))) (by decide +kernel))) (goodIn_sub (fun _ h => List.mem_cons_of_mem _ (List.mem_append_right _ h)) (by decide +kernel))
set_option maxRecDepth 20000 in
theorem gL_cap_X0_cap : GoodIn wsL_cap (wsV RL 46 RX0 yX0_cap wsX0_cap) := goodIn_app (goodIn_of _ (by decide +kernel)) ggL_cap_X0_cap
theorem dL_cap_0 : decode cL_cap 0 = .ok (.aload_n 3, 1) := by decide +kernel
theorem dL_cap_1 : decode cL_cap 1 = .ok (.iconst 0, 1) := by decide +kernel
theorem dL_cap_2 : decode cL_cap 2 = .ok (.aload_n 0, 1) := by decide +kernel
theorem dL_cap_3 : decode cL_cap 3 = .ok (.iload_n 1, 1) := by decide +kernel
theorem dL_cap_4 : decode cL_cap 4 = .ok (.iload_n 2, 1) := by decide +kernel
theorem dL_cap_5 : decode cL_cap 5 = .ok (.invokevirtual 46, 3) := by decide +kernel
theorem dL_cap_8 : decode cL_cap 8 = .ok (.i2l, 1) := by decide +kernel
theorem dL_cap_9 : decode cL_cap 9 = .ok (.lastore, 1) := by decide +kernel
theorem dL_cap_10 : decode cL_cap 10 = .ok (.goto 15, 3) := by decide +kernel
theorem dL_cap_13 : decode cL_cap 13 = .ok (.astore 4, 2) := by decide +kernel
theorem dL_cap_15 : decode cL_cap 15 = .ok (.iconst 1, 1) := by decide +kernel
theorem dL_cap_16 : decode cL_cap 16 = .ok (.ireturn, 1) := by decide +kernel
theorem dL_cap_17 : decode cL_cap 17 = .ok (.astore 4, 2) := by decide +kernel
theorem dL_cap_19 : decode cL_cap 19 = .ok (.iconst 2, 1) := by decide +kernel
theorem dL_cap_20 : decode cL_cap 20 = .ok (.ireturn, 1) := by decide +kernel
theorem dL_cap_21 : decode cL_cap 21 = .ok (.astore 4, 2) := by decide +kernel
theorem dL_cap_23 : decode cL_cap 23 = .ok (.iconst 3, 1) := by decide +kernel
theorem dL_cap_24 : decode cL_cap 24 = .ok (.ireturn, 1) := by decide +kernel
theorem dL_cap_25 : decode cL_cap 25 = .ok (.iconst 0, 1) := by decide +kernel
theorem dL_cap_26 : decode cL_cap 26 = .ok (.ireturn, 1) := by decide +kernel
set_option maxRecDepth 20000 in
theorem ggL_value_X0_value : GoodIn wsL_value wsX0_value := goodIn_ca (goodIn_ca (goodIn_r _ [7, 8, 9, 10, 6, 11, 12, 13, 14, 15, 16, 17, 18, 19, 20, 21, 22, 23, 24, 25, 26, 27, 28, 29, 30, 31, 32, 33, 34, 35, 36, 37, 38, 39, 40, 41, 42, 43, 44, 45, 46, 47, 48, 49, 50, 51] (by decide +kernel) (by decide +kernel)) (goodIn_sub (fun _ h => List.mem_cons_of_mem _ (List.mem_append_left _ (List.mem_append_right _ h))) (by decide +kernel))) (goodIn_sub (fun _ h => List.mem_cons_of_mem _ (List.mem_append_right _ h)) (by decide +kernel))
set_option maxRecDepth 20000 in
theorem gL_value_X0_value : GoodIn wsL_value (wsV RL 49 RX0 yX0_value wsX0_value) := goodIn_app (goodIn_of _ (by decide +kernel)) ggL_value_X0_value
theorem dL_value_0 : decode cL_value 0 = .ok (.aload_n 3, 1) := by decide +kernel
theorem dL_value_1 : decode cL_value 1 = .ok (.iconst 0, 1) := by decide +kernel
theorem dL_value_2 : decode cL_value 2 = .ok (.aload_n 0, 1) := by decide +kernel
theorem dL_value_3 : decode cL_value 3 = .ok (.iload_n 1, 1) := by decide +kernel
theorem dL_value_4 : decode cL_value 4 = .ok (.iload_n 2, 1) := by decide +kernel
theorem dL_value_5 : decode cL_value 5 = .ok (.invokevirtual 49, 3) := by decide +kernel
theorem dL_value_8 : decode cL_value 8 = .ok (.i2l, 1) := by decide +kernel
theorem dL_value_9 : decode cL_value 9 = .ok (.lastore, 1) := by decide +kernel
theorem dL_value_10 : decode cL_value 10 = .ok (.goto 11, 3) := by decide +kernel
theorem dL_value_13 : decode cL_value 13 = .ok (.astore 4, 2) := by decide +kernel
theorem dL_value_15 : decode cL_value 15 = .ok (.iconst 1, 1) := by decide +kernel
theorem dL_value_16 : decode cL_value 16 = .ok (.ireturn, 1) := by decide +kernel
theorem dL_value_17 : decode cL_value 17 = .ok (.astore 4, 2) := by decide +kernel
theorem dL_value_19 : decode cL_value 19 = .ok (.iconst 2, 1) := by decide +kernel
theorem dL_value_20 : decode cL_value 20 = .ok (.ireturn, 1) := by decide +kernel
theorem dL_value_21 : decode cL_value 21 = .ok (.iconst 0, 1) := by decide +kernel
theorem dL_value_22 : decode cL_value 22 = .ok (.ireturn, 1) := by decide +kernel
set_option maxRecDepth 20000 in
theorem ggL_isLawful_X0_isLawful : GoodIn wsL_isLawful wsX0_isLawful := goodIn_ca (goodIn_r _ [6, 7, 8, 9, 5, 10, 11, 12, 13, 14, 15, 16, 17, 18, 19, 20, 21, 22, 23, 24, 25, 26, 27, 28, 29, 30, 31, 32, 33, 34, 35, 36, 37, 38, 39, 40, 41, 42, 43, 44, 45, 46, 47, 48, 49, 50, 51, 52, 53, 54, 55, 56, 57, 58, 59] (by decide +kernel) (by decide +kernel)) (goodIn_sub (fun _ h => List.mem_cons_of_mem _ (List.mem_append_right _ h)) (by decide +kernel))
set_option maxRecDepth 20000 in
theorem gL_isLawful_X0_isLawful : GoodIn wsL_isLawful (wsV RL 52 RX0 yX0_isLawful wsX0_isLawful) := goodIn_app (goodIn_of _ (by decide +kernel)) ggL_isLawful_X0_isLawful
theorem dL_isLawful_0 : decode cL_isLawful 0 = .ok (.aload_n 2, 1) := by decide +kernel
theorem dL_isLawful_1 : decode cL_isLawful 1 = .ok (.iconst 0, 1) := by decide +kernel
theorem dL_isLawful_2 : decode cL_isLawful 2 = .ok (.aload_n 0, 1) := by decide +kernel
theorem dL_isLawful_3 : decode cL_isLawful 3 = .ok (.iload_n 1, 1) := by decide +kernel
theorem dL_isLawful_4 : decode cL_isLawful 4 = .ok (.invokevirtual 52, 3) := by decide +kernel
theorem dL_isLawful_7 : decode cL_isLawful 7 = .ok (.ifCond .eq 7, 3) := by decide +kernel
theorem dL_isLawful_10 : decode cL_isLawful 10 = .ok (.lconst 1, 1) := by decide +kernel
theorem dL_isLawful_11 : decode cL_isLawful 11 = .ok (.goto 4, 3) := by decide +kernel
theorem dL_isLawful_14 : decode cL_isLawful 14 = .ok (.lconst 0, 1) := by decide +kernel
theorem dL_isLawful_15 : decode cL_isLawful 15 = .ok (.lastore, 1) := by decide +kernel
theorem dL_isLawful_16 : decode cL_isLawful 16 = .ok (.goto 6, 3) := by decide +kernel
theorem dL_isLawful_19 : decode cL_isLawful 19 = .ok (.astore_n 3, 1) := by decide +kernel
theorem dL_isLawful_20 : decode cL_isLawful 20 = .ok (.iconst 1, 1) := by decide +kernel
theorem dL_isLawful_21 : decode cL_isLawful 21 = .ok (.ireturn, 1) := by decide +kernel
theorem dL_isLawful_22 : decode cL_isLawful 22 = .ok (.iconst 0, 1) := by decide +kernel
theorem dL_isLawful_23 : decode cL_isLawful 23 = .ok (.ireturn, 1) := by decide +kernel
set_option maxRecDepth 20000 in
theorem ggL_rises_X0_rises : GoodIn wsL_rises wsX0_rises := goodIn_ca (goodIn_r _ [6, 7, 8, 9, 10, 5, 11, 12, 13, 14, 15, 16, 17, 18, 19, 20, 21, 22, 23, 24, 25, 26, 27, 28, 29, 30, 31, 32, 33, 34, 35, 36, 37, 38, 39, 40, 41, 42, 43, 44, 45, 46, 47, 48] (by decide +kernel) (by decide +kernel)) (goodIn_sub (fun _ h => List.mem_cons_of_mem _ (List.mem_append_right _ h)) (by decide +kernel))
set_option maxRecDepth 20000 in
theorem gL_rises_X0_rises : GoodIn wsL_rises (wsV RL 56 RX0 yX0_rises wsX0_rises) := goodIn_app (goodIn_of _ (by decide +kernel)) ggL_rises_X0_rises
theorem dL_rises_0 : decode cL_rises 0 = .ok (.aload_n 2, 1) := by decide +kernel
theorem dL_rises_1 : decode cL_rises 1 = .ok (.iconst 0, 1) := by decide +kernel
theorem dL_rises_2 : decode cL_rises 2 = .ok (.aload_n 0, 1) := by decide +kernel
theorem dL_rises_3 : decode cL_rises 3 = .ok (.iload_n 1, 1) := by decide +kernel
theorem dL_rises_4 : decode cL_rises 4 = .ok (.invokevirtual 56, 3) := by decide +kernel
theorem dL_rises_7 : decode cL_rises 7 = .ok (.ifCond .eq 7, 3) := by decide +kernel
theorem dL_rises_10 : decode cL_rises 10 = .ok (.lconst 1, 1) := by decide +kernel
theorem dL_rises_11 : decode cL_rises 11 = .ok (.goto 4, 3) := by decide +kernel
theorem dL_rises_14 : decode cL_rises 14 = .ok (.lconst 0, 1) := by decide +kernel
theorem dL_rises_15 : decode cL_rises 15 = .ok (.lastore, 1) := by decide +kernel
theorem dL_rises_16 : decode cL_rises 16 = .ok (.goto 6, 3) := by decide +kernel
theorem dL_rises_19 : decode cL_rises 19 = .ok (.astore_n 3, 1) := by decide +kernel
theorem dL_rises_20 : decode cL_rises 20 = .ok (.iconst 1, 1) := by decide +kernel
theorem dL_rises_21 : decode cL_rises 21 = .ok (.ireturn, 1) := by decide +kernel
theorem dL_rises_22 : decode cL_rises 22 = .ok (.iconst 0, 1) := by decide +kernel
theorem dL_rises_23 : decode cL_rises 23 = .ok (.ireturn, 1) := by decide +kernel
set_option maxRecDepth 20000 in
theorem ggL_least_X0_least : GoodIn wsL_least wsX0_least := goodIn_ca (goodIn_ca (goodIn_r _ [7, 8, 9, 10, 6, 11, 12, 13, 14, 15, 16, 17, 18, 19, 20, 21, 22, 23, 24, 25, 26, 27, 28, 29, 30, 31, 32, 33, 34, 35, 36, 37, 38, 39, 40, 41, 42, 43, 44, 45, 46, 47, 48, 49, 50, 51, 52, 53, 54, 55, 56, 57, 58, 59, 60, 61, 62, 63, 64, 65, 66, 67, 68, 69, 70, 71, 72, 73, 74, 75, 76, 77, 78, 79, 80, 81, 82, 83, 84] (by decide +kernel) (by decide +kernel)) (goodIn_sub (fun _ h => List.mem_cons_of_mem _ (List.mem_append_left _ (List.mem_append_right _ h))) (by decide +kernel))) (goodIn_sub (fun _ h => List.mem_cons_of_mem _ (List.mem_append_right _ h)) (by decide +kernel))
set_option maxRecDepth 20000 in
theorem gL_least_X0_least : GoodIn wsL_least (wsV RL 59 RX0 yX0_least wsX0_least) := goodIn_app (goodIn_of _ (by decide +kernel)) ggL_least_X0_least
theorem dL_least_0 : decode cL_least 0 = .ok (.aload_n 2, 1) := by decide +kernel
theorem dL_least_1 : decode cL_least 1 = .ok (.iconst 0, 1) := by decide +kernel
theorem dL_least_2 : decode cL_least 2 = .ok (.aload_n 0, 1) := by decide +kernel
theorem dL_least_3 : decode cL_least 3 = .ok (.iload_n 1, 1) := by decide +kernel
theorem dL_least_4 : decode cL_least 4 = .ok (.invokevirtual 59, 3) := by decide +kernel
theorem dL_least_7 : decode cL_least 7 = .ok (.i2l, 1) := by decide +kernel
theorem dL_least_8 : decode cL_least 8 = .ok (.lastore, 1) := by decide +kernel
theorem dL_least_9 : decode cL_least 9 = .ok (.goto 9, 3) := by decide +kernel
theorem dL_least_12 : decode cL_least 12 = .ok (.astore_n 3, 1) := by decide +kernel
theorem dL_least_13 : decode cL_least 13 = .ok (.iconst 1, 1) := by decide +kernel
theorem dL_least_14 : decode cL_least 14 = .ok (.ireturn, 1) := by decide +kernel
theorem dL_least_15 : decode cL_least 15 = .ok (.astore_n 3, 1) := by decide +kernel
theorem dL_least_16 : decode cL_least 16 = .ok (.iconst 2, 1) := by decide +kernel
theorem dL_least_17 : decode cL_least 17 = .ok (.ireturn, 1) := by decide +kernel
theorem dL_least_18 : decode cL_least 18 = .ok (.iconst 0, 1) := by decide +kernel
theorem dL_least_19 : decode cL_least 19 = .ok (.ireturn, 1) := by decide +kernel
set_option maxRecDepth 20000 in
theorem ggL_leastSet_X0_leastSet : GoodIn wsL_leastSet wsX0_leastSet := goodIn_ca (goodIn_ca (goodIn_r _ [7, 8, 9, 10, 6, 11, 12, 13, 14, 15, 16, 17, 18, 19, 20, 21, 22, 23, 24, 25, 26, 27, 28, 29, 30, 31, 32, 33, 34, 35, 36, 37, 38, 39, 40, 41, 42, 43, 44, 45, 46, 47, 48, 49, 50, 51, 52, 53, 54, 55, 56, 57, 58, 59, 60, 61, 62, 63, 64, 65, 66, 67, 68, 69, 70, 71, 72, 73, 74, 75, 76, 77, 78, 79, 80, 81, 82, 83, 84] (by decide +kernel) (by decide +kernel)) (goodIn_sub (fun _ h => List.mem_cons_of_mem _ (List.mem_append_left _ (List.mem_append_right _ h))) (by decide +kernel))) (goodIn_sub (fun _ h => List.mem_cons_of_mem _ (List.mem_append_right _ h)) (by decide +kernel))
set_option maxRecDepth 20000 in
theorem gL_leastSet_X0_leastSet : GoodIn wsL_leastSet (wsV RL 62 RX0 yX0_leastSet wsX0_leastSet) := goodIn_app (goodIn_of _ (by decide +kernel)) ggL_leastSet_X0_leastSet
theorem dL_leastSet_0 : decode cL_leastSet 0 = .ok (.aload_n 3, 1) := by decide +kernel
theorem dL_leastSet_1 : decode cL_leastSet 1 = .ok (.iconst 0, 1) := by decide +kernel
theorem dL_leastSet_2 : decode cL_leastSet 2 = .ok (.aload_n 0, 1) := by decide +kernel
theorem dL_leastSet_3 : decode cL_leastSet 3 = .ok (.iload_n 1, 1) := by decide +kernel
theorem dL_leastSet_4 : decode cL_leastSet 4 = .ok (.iload_n 2, 1) := by decide +kernel
theorem dL_leastSet_5 : decode cL_leastSet 5 = .ok (.invokevirtual 62, 3) := by decide +kernel
theorem dL_leastSet_8 : decode cL_leastSet 8 = .ok (.i2l, 1) := by decide +kernel
theorem dL_leastSet_9 : decode cL_leastSet 9 = .ok (.lastore, 1) := by decide +kernel
theorem dL_leastSet_10 : decode cL_leastSet 10 = .ok (.goto 11, 3) := by decide +kernel
theorem dL_leastSet_13 : decode cL_leastSet 13 = .ok (.astore 4, 2) := by decide +kernel
theorem dL_leastSet_15 : decode cL_leastSet 15 = .ok (.iconst 1, 1) := by decide +kernel
theorem dL_leastSet_16 : decode cL_leastSet 16 = .ok (.ireturn, 1) := by decide +kernel
theorem dL_leastSet_17 : decode cL_leastSet 17 = .ok (.astore 4, 2) := by decide +kernel
theorem dL_leastSet_19 : decode cL_leastSet 19 = .ok (.iconst 2, 1) := by decide +kernel
theorem dL_leastSet_20 : decode cL_leastSet 20 = .ok (.ireturn, 1) := by decide +kernel
theorem dL_leastSet_21 : decode cL_leastSet 21 = .ok (.iconst 0, 1) := by decide +kernel
theorem dL_leastSet_22 : decode cL_leastSet 22 = .ok (.ireturn, 1) := by decide +kernel
set_option maxRecDepth 20000 in
theorem ggL_leastSetAnew_X0_leastSetAnew : GoodIn wsL_leastSetAnew wsX0_leastSetAnew := goodIn_ca (goodIn_ca (goodIn_r _ [7, 8, 9, 10, 11, 12, 13, 14, 6, 15, 16, 17, 18, 19, 20, 21, 22, 23, 24, 25, 26, 27, 28, 29, 30, 31, 32, 33, 34, 35, 36, 37, 38, 39, 40, 41, 42, 43, 44, 45, 46, 47, 48, 49, 50, 51, 52, 53, 54, 55, 56, 57, 58, 59, 60, 61, 62, 63, 64, 65, 66, 67, 68, 69] (by decide +kernel) (by decide +kernel)) (goodIn_sub (fun _ h => List.mem_cons_of_mem _ (List.mem_append_left _ (List.mem_append_right _ h))) (by decide +kernel))) (goodIn_sub (fun _ h => List.mem_cons_of_mem _ (List.mem_append_right _ h)) (by decide +kernel))
set_option maxRecDepth 20000 in
theorem gL_leastSetAnew_X0_leastSetAnew : GoodIn wsL_leastSetAnew (wsV RL 66 RX0 yX0_leastSetAnew wsX0_leastSetAnew) := goodIn_app (goodIn_of _ (by decide +kernel)) ggL_leastSetAnew_X0_leastSetAnew
theorem dL_leastSetAnew_0 : decode cL_leastSetAnew 0 = .ok (.aload_n 3, 1) := by decide +kernel
theorem dL_leastSetAnew_1 : decode cL_leastSetAnew 1 = .ok (.iconst 0, 1) := by decide +kernel
theorem dL_leastSetAnew_2 : decode cL_leastSetAnew 2 = .ok (.aload_n 0, 1) := by decide +kernel
theorem dL_leastSetAnew_3 : decode cL_leastSetAnew 3 = .ok (.iload_n 1, 1) := by decide +kernel
theorem dL_leastSetAnew_4 : decode cL_leastSetAnew 4 = .ok (.iload_n 2, 1) := by decide +kernel
theorem dL_leastSetAnew_5 : decode cL_leastSetAnew 5 = .ok (.invokevirtual 66, 3) := by decide +kernel
theorem dL_leastSetAnew_8 : decode cL_leastSetAnew 8 = .ok (.i2l, 1) := by decide +kernel
theorem dL_leastSetAnew_9 : decode cL_leastSetAnew 9 = .ok (.lastore, 1) := by decide +kernel
theorem dL_leastSetAnew_10 : decode cL_leastSetAnew 10 = .ok (.goto 11, 3) := by decide +kernel
theorem dL_leastSetAnew_13 : decode cL_leastSetAnew 13 = .ok (.astore 4, 2) := by decide +kernel
theorem dL_leastSetAnew_15 : decode cL_leastSetAnew 15 = .ok (.iconst 1, 1) := by decide +kernel
theorem dL_leastSetAnew_16 : decode cL_leastSetAnew 16 = .ok (.ireturn, 1) := by decide +kernel
theorem dL_leastSetAnew_17 : decode cL_leastSetAnew 17 = .ok (.astore 4, 2) := by decide +kernel
theorem dL_leastSetAnew_19 : decode cL_leastSetAnew 19 = .ok (.iconst 2, 1) := by decide +kernel
theorem dL_leastSetAnew_20 : decode cL_leastSetAnew 20 = .ok (.ireturn, 1) := by decide +kernel
theorem dL_leastSetAnew_21 : decode cL_leastSetAnew 21 = .ok (.iconst 0, 1) := by decide +kernel
theorem dL_leastSetAnew_22 : decode cL_leastSetAnew 22 = .ok (.ireturn, 1) := by decide +kernel
set_option maxRecDepth 20000 in
theorem ggL_order_X0_order : GoodIn wsL_order wsX0_order := goodIn_ca (goodIn_ca (goodIn_r _ [7, 8, 9, 10, 11, 12, 13, 6, 14, 15, 16, 17, 18, 19, 20, 21, 22, 23, 24, 25, 26, 27, 28, 29, 30, 31, 32, 33, 34, 35, 36, 37, 38, 39, 40, 41, 42, 43, 44, 45, 46] (by decide +kernel) (by decide +kernel)) (goodIn_sub (fun _ h => List.mem_cons_of_mem _ (List.mem_append_left _ (List.mem_append_right _ h))) (by decide +kernel))) (goodIn_sub (fun _ h => List.mem_cons_of_mem _ (List.mem_append_right _ h)) (by decide +kernel))
set_option maxRecDepth 20000 in
theorem gL_order_X0_order : GoodIn wsL_order (wsV RL 69 RX0 yX0_order wsX0_order) := goodIn_app (goodIn_of _ (by decide +kernel)) ggL_order_X0_order
theorem dL_order_0 : decode cL_order 0 = .ok (.aload_n 2, 1) := by decide +kernel
theorem dL_order_1 : decode cL_order 1 = .ok (.iconst 0, 1) := by decide +kernel
theorem dL_order_2 : decode cL_order 2 = .ok (.aload_n 0, 1) := by decide +kernel
theorem dL_order_3 : decode cL_order 3 = .ok (.iload_n 1, 1) := by decide +kernel
theorem dL_order_4 : decode cL_order 4 = .ok (.invokevirtual 69, 3) := by decide +kernel
theorem dL_order_7 : decode cL_order 7 = .ok (.i2l, 1) := by decide +kernel
theorem dL_order_8 : decode cL_order 8 = .ok (.lastore, 1) := by decide +kernel
theorem dL_order_9 : decode cL_order 9 = .ok (.goto 9, 3) := by decide +kernel
theorem dL_order_12 : decode cL_order 12 = .ok (.astore_n 3, 1) := by decide +kernel
theorem dL_order_13 : decode cL_order 13 = .ok (.iconst 1, 1) := by decide +kernel
theorem dL_order_14 : decode cL_order 14 = .ok (.ireturn, 1) := by decide +kernel
theorem dL_order_15 : decode cL_order 15 = .ok (.astore_n 3, 1) := by decide +kernel
theorem dL_order_16 : decode cL_order 16 = .ok (.iconst 2, 1) := by decide +kernel
theorem dL_order_17 : decode cL_order 17 = .ok (.ireturn, 1) := by decide +kernel
theorem dL_order_18 : decode cL_order 18 = .ok (.iconst 0, 1) := by decide +kernel
theorem dL_order_19 : decode cL_order 19 = .ok (.ireturn, 1) := by decide +kernel
set_option maxRecDepth 20000 in
theorem ggL_corner_X0_corner : GoodIn wsL_corner wsX0_corner := goodIn_ca (goodIn_ca (goodIn_r _ [7, 8, 9, 10, 6, 11, 12, 13, 14, 15, 16, 17, 18, 19, 20, 21, 22, 23, 24, 25, 26, 27, 28, 29, 30, 31, 32, 33, 34, 35, 36, 37, 38, 39, 40, 41, 42, 43, 44, 45, 46, 47, 48, 49, 50, 51, 52, 53, 54, 55, 56, 57, 58, 59, 60, 61, 62, 63, 64] (by decide +kernel) (by decide +kernel)) (goodIn_sub (fun _ h => List.mem_cons_of_mem _ (List.mem_append_left _ (List.mem_append_right _ h))) (by decide +kernel))) (goodIn_sub (fun _ h => List.mem_cons_of_mem _ (List.mem_append_right _ h)) (by decide +kernel))
set_option maxRecDepth 20000 in
theorem gL_corner_X0_corner : GoodIn wsL_corner (wsV RL 72 RX0 yX0_corner wsX0_corner) := goodIn_app (goodIn_of _ (by decide +kernel)) ggL_corner_X0_corner
theorem dL_corner_0 : decode cL_corner 0 = .ok (.aload_n 3, 1) := by decide +kernel
theorem dL_corner_1 : decode cL_corner 1 = .ok (.iconst 0, 1) := by decide +kernel
theorem dL_corner_2 : decode cL_corner 2 = .ok (.aload_n 0, 1) := by decide +kernel
theorem dL_corner_3 : decode cL_corner 3 = .ok (.iload_n 1, 1) := by decide +kernel
theorem dL_corner_4 : decode cL_corner 4 = .ok (.iload_n 2, 1) := by decide +kernel
theorem dL_corner_5 : decode cL_corner 5 = .ok (.invokevirtual 72, 3) := by decide +kernel
theorem dL_corner_8 : decode cL_corner 8 = .ok (.i2l, 1) := by decide +kernel
theorem dL_corner_9 : decode cL_corner 9 = .ok (.lastore, 1) := by decide +kernel
theorem dL_corner_10 : decode cL_corner 10 = .ok (.goto 11, 3) := by decide +kernel
theorem dL_corner_13 : decode cL_corner 13 = .ok (.astore 4, 2) := by decide +kernel
theorem dL_corner_15 : decode cL_corner 15 = .ok (.iconst 1, 1) := by decide +kernel
theorem dL_corner_16 : decode cL_corner 16 = .ok (.ireturn, 1) := by decide +kernel
theorem dL_corner_17 : decode cL_corner 17 = .ok (.astore 4, 2) := by decide +kernel
theorem dL_corner_19 : decode cL_corner 19 = .ok (.iconst 2, 1) := by decide +kernel
theorem dL_corner_20 : decode cL_corner 20 = .ok (.ireturn, 1) := by decide +kernel
theorem dL_corner_21 : decode cL_corner 21 = .ok (.iconst 0, 1) := by decide +kernel
theorem dL_corner_22 : decode cL_corner 22 = .ok (.ireturn, 1) := by decide +kernel
set_option maxRecDepth 20000 in
theorem ggL_greedy_X0_greedy : GoodIn wsL_greedy wsX0_greedy := goodIn_ca (goodIn_ca (goodIn_r _ [7, 8, 9, 10, 6, 11, 12, 13, 14, 15, 16, 17, 18, 19, 20, 21, 22, 23, 24, 25, 26, 27, 28, 29, 30, 31, 32, 33, 34, 35, 36, 37, 38, 39, 40, 41, 42, 43, 44, 45, 46, 47, 48, 49, 50, 51, 52, 53, 54, 55, 56, 57] (by decide +kernel) (by decide +kernel)) (goodIn_sub (fun _ h => List.mem_cons_of_mem _ (List.mem_append_left _ (List.mem_append_right _ h))) (by decide +kernel))) (goodIn_sub (fun _ h => List.mem_cons_of_mem _ (List.mem_append_right _ h)) (by decide +kernel))
set_option maxRecDepth 20000 in
theorem gL_greedy_X0_greedy : GoodIn wsL_greedy (wsV RL 75 RX0 yX0_greedy wsX0_greedy) := goodIn_app (goodIn_of _ (by decide +kernel)) ggL_greedy_X0_greedy
theorem dL_greedy_0 : decode cL_greedy 0 = .ok (.aload_n 3, 1) := by decide +kernel
theorem dL_greedy_1 : decode cL_greedy 1 = .ok (.iconst 0, 1) := by decide +kernel
theorem dL_greedy_2 : decode cL_greedy 2 = .ok (.aload_n 0, 1) := by decide +kernel
theorem dL_greedy_3 : decode cL_greedy 3 = .ok (.iload_n 1, 1) := by decide +kernel
theorem dL_greedy_4 : decode cL_greedy 4 = .ok (.iload_n 2, 1) := by decide +kernel
theorem dL_greedy_5 : decode cL_greedy 5 = .ok (.invokevirtual 75, 3) := by decide +kernel
theorem dL_greedy_8 : decode cL_greedy 8 = .ok (.i2l, 1) := by decide +kernel
theorem dL_greedy_9 : decode cL_greedy 9 = .ok (.lastore, 1) := by decide +kernel
theorem dL_greedy_10 : decode cL_greedy 10 = .ok (.goto 11, 3) := by decide +kernel
theorem dL_greedy_13 : decode cL_greedy 13 = .ok (.astore 4, 2) := by decide +kernel
theorem dL_greedy_15 : decode cL_greedy 15 = .ok (.iconst 1, 1) := by decide +kernel
theorem dL_greedy_16 : decode cL_greedy 16 = .ok (.ireturn, 1) := by decide +kernel
theorem dL_greedy_17 : decode cL_greedy 17 = .ok (.astore 4, 2) := by decide +kernel
theorem dL_greedy_19 : decode cL_greedy 19 = .ok (.iconst 2, 1) := by decide +kernel
theorem dL_greedy_20 : decode cL_greedy 20 = .ok (.ireturn, 1) := by decide +kernel
theorem dL_greedy_21 : decode cL_greedy 21 = .ok (.iconst 0, 1) := by decide +kernel
theorem dL_greedy_22 : decode cL_greedy 22 = .ok (.ireturn, 1) := by decide +kernel
set_option maxRecDepth 20000 in
theorem ggL_best_X0_best : GoodIn wsL_best wsX0_best := goodIn_ca (goodIn_ca (goodIn_r _ [7, 8, 9, 10, 11, 12, 13, 14, 6, 15, 16, 17, 18, 19, 20, 21, 22, 23, 24, 25, 26, 27, 28, 29, 30, 31, 32, 33, 34, 35, 36, 37, 38, 39, 40, 41, 42, 43, 44, 45, 46, 47, 48, 49, 50, 51, 52, 53, 54, 55, 56, 57, 58, 59, 60, 61] (by decide +kernel) (by decide +kernel)) (goodIn_sub (fun _ h => List.mem_cons_of_mem _ (List.mem_append_left _ (List.mem_append_right _ h))) (by decide +kernel))) (goodIn_sub (fun _ h => List.mem_cons_of_mem _ (List.mem_append_right _ h)) (by decide +kernel))
set_option maxRecDepth 20000 in
theorem gL_best_X0_best : GoodIn wsL_best (wsV RL 78 RX0 yX0_best wsX0_best) := goodIn_app (goodIn_of _ (by decide +kernel)) ggL_best_X0_best
theorem dL_best_0 : decode cL_best 0 = .ok (.aload_n 3, 1) := by decide +kernel
theorem dL_best_1 : decode cL_best 1 = .ok (.iconst 0, 1) := by decide +kernel
theorem dL_best_2 : decode cL_best 2 = .ok (.aload_n 0, 1) := by decide +kernel
theorem dL_best_3 : decode cL_best 3 = .ok (.iload_n 1, 1) := by decide +kernel
theorem dL_best_4 : decode cL_best 4 = .ok (.iload_n 2, 1) := by decide +kernel
theorem dL_best_5 : decode cL_best 5 = .ok (.invokevirtual 78, 3) := by decide +kernel
theorem dL_best_8 : decode cL_best 8 = .ok (.i2l, 1) := by decide +kernel
theorem dL_best_9 : decode cL_best 9 = .ok (.lastore, 1) := by decide +kernel
theorem dL_best_10 : decode cL_best 10 = .ok (.goto 11, 3) := by decide +kernel
theorem dL_best_13 : decode cL_best 13 = .ok (.astore 4, 2) := by decide +kernel
theorem dL_best_15 : decode cL_best 15 = .ok (.iconst 1, 1) := by decide +kernel
theorem dL_best_16 : decode cL_best 16 = .ok (.ireturn, 1) := by decide +kernel
theorem dL_best_17 : decode cL_best 17 = .ok (.astore 4, 2) := by decide +kernel
theorem dL_best_19 : decode cL_best 19 = .ok (.iconst 2, 1) := by decide +kernel
theorem dL_best_20 : decode cL_best 20 = .ok (.ireturn, 1) := by decide +kernel
theorem dL_best_21 : decode cL_best 21 = .ok (.iconst 0, 1) := by decide +kernel
theorem dL_best_22 : decode cL_best 22 = .ok (.ireturn, 1) := by decide +kernel
set_option maxRecDepth 20000 in
theorem ggL_share_X0_share : GoodIn wsL_share wsX0_share := goodIn_ca (goodIn_r _ [6, 7, 8, 9, 10, 5, 11, 12, 13, 14, 15, 16, 17, 18, 19, 20, 21, 22, 23, 24, 25, 26, 27, 28, 29, 30, 31, 32, 33, 34, 35, 36, 37, 38, 39, 40, 41, 42, 43, 44, 45, 46, 47, 48, 49, 50, 51, 52, 53, 54, 55, 56, 57, 58, 59, 60, 61, 62, 63, 64, 65] (by decide +kernel) (by decide +kernel)) (goodIn_sub (fun _ h => List.mem_cons_of_mem _ (List.mem_append_right _ h)) (by decide +kernel))
set_option maxRecDepth 20000 in
theorem gL_share_X0_share : GoodIn wsL_share (wsV RL 81 RX0 yX0_share wsX0_share) := goodIn_app (goodIn_of _ (by decide +kernel)) ggL_share_X0_share
theorem dL_share_0 : decode cL_share 0 = .ok (.aload_n 3, 1) := by decide +kernel
theorem dL_share_1 : decode cL_share 1 = .ok (.iconst 0, 1) := by decide +kernel
theorem dL_share_2 : decode cL_share 2 = .ok (.aload_n 0, 1) := by decide +kernel
theorem dL_share_3 : decode cL_share 3 = .ok (.iload_n 1, 1) := by decide +kernel
theorem dL_share_4 : decode cL_share 4 = .ok (.iload_n 2, 1) := by decide +kernel
theorem dL_share_5 : decode cL_share 5 = .ok (.invokevirtual 81, 3) := by decide +kernel
theorem dL_share_8 : decode cL_share 8 = .ok (.i2l, 1) := by decide +kernel
theorem dL_share_9 : decode cL_share 9 = .ok (.lastore, 1) := by decide +kernel
theorem dL_share_10 : decode cL_share 10 = .ok (.goto 7, 3) := by decide +kernel
theorem dL_share_13 : decode cL_share 13 = .ok (.astore 4, 2) := by decide +kernel
theorem dL_share_15 : decode cL_share 15 = .ok (.iconst 1, 1) := by decide +kernel
theorem dL_share_16 : decode cL_share 16 = .ok (.ireturn, 1) := by decide +kernel
theorem dL_share_17 : decode cL_share 17 = .ok (.iconst 0, 1) := by decide +kernel
theorem dL_share_18 : decode cL_share 18 = .ok (.ireturn, 1) := by decide +kernel
set_option maxRecDepth 20000 in
theorem ggL_shareAnew_X0_shareAnew : GoodIn wsL_shareAnew wsX0_shareAnew := goodIn_ca (goodIn_r _ [6, 7, 8, 9, 5, 10, 11, 12, 13, 14, 15, 16, 17, 18, 19, 20, 21, 22, 23, 24, 25, 26, 27, 28, 29, 30, 31, 32, 33, 34, 35, 36, 37, 38, 39, 40, 41, 42, 43, 44, 45, 46, 47, 48, 49, 50, 51, 52, 53, 54, 55] (by decide +kernel) (by decide +kernel)) (goodIn_sub (fun _ h => List.mem_cons_of_mem _ (List.mem_append_right _ h)) (by decide +kernel))
set_option maxRecDepth 20000 in
theorem gL_shareAnew_X0_shareAnew : GoodIn wsL_shareAnew (wsV RL 84 RX0 yX0_shareAnew wsX0_shareAnew) := goodIn_app (goodIn_of _ (by decide +kernel)) ggL_shareAnew_X0_shareAnew
theorem dL_shareAnew_0 : decode cL_shareAnew 0 = .ok (.aload_n 3, 1) := by decide +kernel
theorem dL_shareAnew_1 : decode cL_shareAnew 1 = .ok (.iconst 0, 1) := by decide +kernel
theorem dL_shareAnew_2 : decode cL_shareAnew 2 = .ok (.aload_n 0, 1) := by decide +kernel
theorem dL_shareAnew_3 : decode cL_shareAnew 3 = .ok (.iload_n 1, 1) := by decide +kernel
theorem dL_shareAnew_4 : decode cL_shareAnew 4 = .ok (.iload_n 2, 1) := by decide +kernel
theorem dL_shareAnew_5 : decode cL_shareAnew 5 = .ok (.invokevirtual 84, 3) := by decide +kernel
theorem dL_shareAnew_8 : decode cL_shareAnew 8 = .ok (.i2l, 1) := by decide +kernel
theorem dL_shareAnew_9 : decode cL_shareAnew 9 = .ok (.lastore, 1) := by decide +kernel
theorem dL_shareAnew_10 : decode cL_shareAnew 10 = .ok (.goto 7, 3) := by decide +kernel
theorem dL_shareAnew_13 : decode cL_shareAnew 13 = .ok (.astore 4, 2) := by decide +kernel
theorem dL_shareAnew_15 : decode cL_shareAnew 15 = .ok (.iconst 1, 1) := by decide +kernel
theorem dL_shareAnew_16 : decode cL_shareAnew 16 = .ok (.ireturn, 1) := by decide +kernel
theorem dL_shareAnew_17 : decode cL_shareAnew 17 = .ok (.iconst 0, 1) := by decide +kernel
theorem dL_shareAnew_18 : decode cL_shareAnew 18 = .ok (.ireturn, 1) := by decide +kernel
set_option maxRecDepth 20000 in
theorem ggL_law_X0_init : GoodIn wsL_law wsX0_init := goodIn_r _ [9, 10, 11, 12, 13, 14, 15, 16, 17, 18, 19, 20, 21, 22, 23, 24, 25, 26, 27, 28, 29, 580, 581, 582, 583, 584, 585, 586, 587, 588, 589, 590, 591] (by decide +kernel) (by decide +kernel)
set_option maxRecDepth 20000 in
theorem gL_law_X0_init : GoodIn wsL_law (wsX0_init) := ggL_law_X0_init
set_option maxRecDepth 20000 in
theorem ggL_law_X1_init : GoodIn wsL_law wsX1_init := goodIn_r _ [32, 33, 11, 12, 34, 16, 35, 36, 37, 38, 39, 40, 41, 42, 43, 44, 5, 45, 46, 47, 592, 593, 594, 595, 596, 597, 598, 599, 600, 601, 602] (by decide +kernel) (by decide +kernel)
set_option maxRecDepth 20000 in
theorem gL_law_X1_init : GoodIn wsL_law (wsX1_init) := ggL_law_X1_init
set_option maxRecDepth 20000 in
theorem ggL_law_L_elements : GoodIn wsL_law wsL_elements := goodIn_ca (goodIn_r _ [51, 52, 53, 54, 55, 2, 56, 13, 14, 15, 17, 18, 19, 20, 21, 57, 58, 59, 60, 61, 62, 63, 64, 26, 27, 28, 29, 580, 581, 582, 583, 584, 585, 586, 587, 588, 589, 590, 591] (by decide +kernel) (by decide +kernel)) (goodIn_sub (fun _ h => List.mem_append_left _ (List.mem_append_left _ (List.mem_append_right _ h))) (by decide +kernel))
set_option maxRecDepth 20000 in
theorem gL_law_L_elements : GoodIn wsL_law (va_wsS RL 91 yL_elements wsL_elements) := goodIn_app (goodIn_of _ (by decide +kernel)) ggL_law_L_elements
set_option maxRecDepth 20000 in
theorem ggL_law_X1_elements : GoodIn wsL_law wsX1_elements := goodIn_r _ [68, 69, 34, 70, 71, 5, 72, 42, 43, 44, 45, 46, 47, 35, 39, 36, 37, 38, 592, 593, 594, 595, 596, 597, 598, 599, 600, 601, 602] (by decide +kernel) (by decide +kernel)
set_option maxRecDepth 20000 in
theorem gL_law_X1_elements : GoodIn wsL_law (wsV RL 96 RX1 yX1_elements wsX1_elements) := goodIn_app (goodIn_of _ (by decide +kernel)) ggL_law_X1_elements
set_option maxRecDepth 20000 in
theorem ggL_law_X1_thrown : GoodIn wsL_law wsX1_thrown := goodIn_r _ [76, 69, 592, 593, 594, 595, 596, 597, 598, 599, 600, 601, 602] (by decide +kernel) (by decide +kernel)
set_option maxRecDepth 20000 in
theorem gL_law_X1_thrown : GoodIn wsL_law (wsV RL 97 RX1 yX1_thrown wsX1_thrown) := goodIn_app (goodIn_of _ (by decide +kernel)) ggL_law_X1_thrown
set_option maxRecDepth 20000 in
theorem ggL_law_L_cover : GoodIn wsL_law wsL_cover := goodIn_ca (goodIn_r _ [79, 80, 81, 82, 83, 2, 84, 17, 85, 86, 87, 88, 13, 57, 58, 59, 89, 90, 91, 92, 93, 94, 95, 96, 97, 98, 99, 100, 101, 102, 103, 104, 105, 106, 107, 108, 580, 581, 582, 583, 584, 585, 586, 587, 588, 589, 590, 591] (by decide +kernel) (by decide +kernel)) (goodIn_sub (fun _ h => List.mem_append_left _ (List.mem_append_right _ h)) (by decide +kernel))
set_option maxRecDepth 20000 in
theorem gL_law_L_cover : GoodIn wsL_law (va_wsS RL 101 yL_cover wsL_cover) := goodIn_app (goodIn_of _ (by decide +kernel)) ggL_law_L_cover
set_option maxRecDepth 20000 in
theorem ggL_law_X1_cover : GoodIn wsL_law wsX1_cover := goodIn_r _ [112, 69, 35, 113, 114, 115, 5, 116, 34, 70, 71, 72, 117, 118, 119, 592, 593, 594, 595, 596, 597, 598, 599, 600, 601, 602] (by decide +kernel) (by decide +kernel)
set_option maxRecDepth 20000 in
theorem gL_law_X1_cover : GoodIn wsL_law (wsV RL 104 RX1 yX1_cover wsX1_cover) := goodIn_app (goodIn_of _ (by decide +kernel)) ggL_law_X1_cover
set_option maxRecDepth 20000 in
theorem ggL_law_L_edge : GoodIn wsL_law wsL_edge := goodIn_ca (goodIn_ca (goodIn_r _ [122, 80, 52, 123, 124, 125, 2, 126, 18, 85, 86, 87, 88, 13, 89, 90, 91, 92, 93, 57, 58, 59, 60, 61, 62, 63, 64, 127, 128, 129, 130, 94, 95, 96, 103, 104, 105, 580, 581, 582, 583, 584, 585, 586, 587, 588, 589, 590, 591] (by decide +kernel) (by decide +kernel)) (goodIn_sub (fun _ h => List.mem_append_left _ (List.mem_append_right _ h)) (by decide +kernel))) (goodIn_sub (fun _ h => List.mem_append_left _ (List.mem_append_left _ (List.mem_append_right _ h))) (by decide +kernel))
set_option maxRecDepth 20000 in
theorem gL_law_L_edge : GoodIn wsL_law (va_wsS RL 105 yL_edge wsL_edge) := goodIn_app (goodIn_of _ (by decide +kernel)) ggL_law_L_edge
set_option maxRecDepth 20000 in
theorem ggL_law_X1_edge : GoodIn wsL_law wsX1_edge := goodIn_r _ [134, 69, 36, 113, 114, 115, 5, 116, 34, 70, 71, 72, 592, 593, 594, 595, 596, 597, 598, 599, 600, 601, 602] (by decide +kernel) (by decide +kernel)
set_option maxRecDepth 20000 in
theorem gL_law_X1_edge : GoodIn wsL_law (wsV RL 108 RX1 yX1_edge wsX1_edge) := goodIn_app (goodIn_of _ (by decide +kernel)) ggL_law_X1_edge
set_option maxRecDepth 20000 in
theorem ggL_law_L_colour : GoodIn wsL_law wsL_colour := goodIn_ca (goodIn_r _ [137, 80, 138, 139, 140, 2, 141, 19, 142, 143, 144, 85, 86, 87, 88, 13, 145, 146, 147, 89, 90, 91, 92, 93, 148, 149, 150, 151, 94, 95, 96, 103, 104, 105, 580, 581, 582, 583, 584, 585, 586, 587, 588, 589, 590, 591] (by decide +kernel) (by decide +kernel)) (goodIn_sub (fun _ h => List.mem_append_left _ (List.mem_append_right _ h)) (by decide +kernel))
set_option maxRecDepth 20000 in
theorem gL_law_L_colour : GoodIn wsL_law (va_wsS RL 109 yL_colour wsL_colour) := goodIn_app (goodIn_of _ (by decide +kernel)) ggL_law_L_colour
set_option maxRecDepth 20000 in
theorem ggL_law_X1_colour : GoodIn wsL_law wsX1_colour := goodIn_r _ [155, 69, 37, 70, 71, 5, 72, 113, 114, 115, 116, 34, 592, 593, 594, 595, 596, 597, 598, 599, 600, 601, 602] (by decide +kernel) (by decide +kernel)
set_option maxRecDepth 20000 in
theorem gL_law_X1_colour : GoodIn wsL_law (wsV RL 111 RX1 yX1_colour wsX1_colour) := goodIn_app (goodIn_of _ (by decide +kernel)) ggL_law_X1_colour
set_option maxRecDepth 20000 in
theorem ggL_law_L_room : GoodIn wsL_law wsL_room := goodIn_ca (goodIn_ca (goodIn_r _ [158, 80, 52, 159, 160, 161, 2, 162, 20, 142, 143, 144, 145, 146, 147, 89, 90, 91, 92, 93, 57, 58, 59, 60, 61, 62, 63, 64, 163, 164, 165, 166, 94, 95, 96, 103, 104, 105, 580, 581, 582, 583, 584, 585, 586, 587, 588, 589, 590, 591] (by decide +kernel) (by decide +kernel)) (goodIn_sub (fun _ h => List.mem_append_left _ (List.mem_append_right _ h)) (by decide +kernel))) (goodIn_sub (fun _ h => List.mem_append_left _ (List.mem_append_left _ (List.mem_append_right _ h))) (by decide +kernel))
set_option maxRecDepth 20000 in
theorem gL_law_L_room : GoodIn wsL_law (va_wsS RL 112 yL_room wsL_room) := goodIn_app (goodIn_of _ (by decide +kernel)) ggL_law_L_room
set_option maxRecDepth 20000 in
theorem ggL_law_X1_room : GoodIn wsL_law wsX1_room := goodIn_r _ [170, 69, 38, 70, 71, 5, 72, 592, 593, 594, 595, 596, 597, 598, 599, 600, 601, 602] (by decide +kernel) (by decide +kernel)
set_option maxRecDepth 20000 in
theorem gL_law_X1_room : GoodIn wsL_law (wsV RL 114 RX1 yX1_room wsX1_room) := goodIn_app (goodIn_of _ (by decide +kernel)) ggL_law_X1_room
set_option maxRecDepth 20000 in
theorem ggL_law_L_weigh : GoodIn wsL_law wsL_weigh := goodIn_ca (goodIn_ca (goodIn_r _ [173, 80, 52, 174, 175, 176, 2, 177, 21, 85, 86, 87, 88, 13, 89, 90, 91, 92, 93, 57, 58, 59, 60, 61, 62, 63, 64, 94, 95, 96, 103, 104, 105, 580, 581, 582, 583, 584, 585, 586, 587, 588, 589, 590, 591] (by decide +kernel) (by decide +kernel)) (goodIn_sub (fun _ h => List.mem_append_left _ (List.mem_append_right _ h)) (by decide +kernel))) (goodIn_sub (fun _ h => List.mem_append_left _ (List.mem_append_left _ (List.mem_append_right _ h))) (by decide +kernel))
set_option maxRecDepth 20000 in
theorem gL_law_L_weigh : GoodIn wsL_law (va_wsS RL 115 yL_weigh wsL_weigh) := goodIn_app (goodIn_of _ (by decide +kernel)) ggL_law_L_weigh
set_option maxRecDepth 20000 in
theorem ggL_law_X1_weigh : GoodIn wsL_law wsX1_weigh := goodIn_r _ [181, 69, 39, 113, 114, 115, 5, 116, 34, 70, 71, 72, 592, 593, 594, 595, 596, 597, 598, 599, 600, 601, 602] (by decide +kernel) (by decide +kernel)
set_option maxRecDepth 20000 in
theorem gL_law_X1_weigh : GoodIn wsL_law (wsV RL 118 RX1 yX1_weigh wsX1_weigh) := goodIn_app (goodIn_of _ (by decide +kernel)) ggL_law_X1_weigh
set_option maxRecDepth 20000 in
theorem ggL_law_L_make : GoodIn wsL_law wsL_make := goodIn_ca (goodIn_ca (goodIn_r _ [184, 52, 185, 186, 187, 188, 2, 189, 57, 58, 59, 60, 61, 62, 63, 64, 190, 191, 192, 193, 14, 194, 195, 196, 197, 198, 199, 200, 201, 202, 13, 203, 204, 205, 206, 207, 208, 209, 210, 17, 106, 107, 108, 94, 95, 96, 211, 212, 213, 214, 215, 216, 217, 218, 219, 220, 221, 127, 128, 129, 130, 18, 222, 223, 224, 225, 226, 227, 228, 229, 230, 231, 232, 233, 148, 149, 150, 151, 19, 163, 164, 165, 166, 20, 234, 235, 236, 237, 21, 238, 239, 240, 241, 22, 103, 104, 105, 242, 243, 244, 245, 580, 581, 582, 583, 584, 585, 586, 587, 588, 589, 590, 591] (by decide +kernel) (by decide +kernel)) (goodIn_sub (fun _ h => List.mem_append_left _ (List.mem_append_left _ (List.mem_append_right _ h))) (by decide +kernel))) (goodIn_sub (fun _ h => List.mem_append_right _ h) (by decide +kernel))
set_option maxRecDepth 20000 in
theorem gL_law_L_make : GoodIn wsL_law (va_wsS RL 119 yL_make wsL_make) := goodIn_app (goodIn_of _ (by decide +kernel)) ggL_law_L_make
set_option maxRecDepth 20000 in
theorem ggL_law_X1_make : GoodIn wsL_law wsX1_make := goodIn_r _ [249, 46, 69, 40, 70, 71, 5, 72, 250, 251, 252, 253, 34, 254, 255, 256, 257, 35, 117, 118, 119, 258, 259, 260, 261, 262, 263, 264, 36, 265, 266, 267, 268, 39, 269, 270, 271, 272, 38, 273, 274, 275, 276, 37, 592, 593, 594, 595, 596, 597, 598, 599, 600, 601, 602] (by decide +kernel) (by decide +kernel)
set_option maxRecDepth 20000 in
theorem gL_law_X1_make : GoodIn wsL_law (wsV RL 121 RX1 yX1_make wsX1_make) := goodIn_app (goodIn_of _ (by decide +kernel)) ggL_law_X1_make
set_option maxRecDepth 20000 in
theorem ggL_law_L_sum : GoodIn wsL_law wsL_sum := goodIn_ca (goodIn_ca (goodIn_r _ [279, 80, 185, 280, 281, 282, 2, 283, 284, 285, 286, 287, 14, 89, 90, 91, 92, 93, 190, 191, 192, 193, 194, 195, 196, 197, 198, 199, 200, 201, 202, 13, 288, 289, 290, 291, 22, 94, 95, 96, 238, 239, 240, 241, 103, 104, 105, 242, 243, 244, 245, 580, 581, 582, 583, 584, 585, 586, 587, 588, 589, 590, 591] (by decide +kernel) (by decide +kernel)) (goodIn_sub (fun _ h => List.mem_append_left _ (List.mem_append_right _ h)) (by decide +kernel))) (goodIn_sub (fun _ h => List.mem_append_right _ h) (by decide +kernel))
set_option maxRecDepth 20000 in
theorem gL_law_L_sum : GoodIn wsL_law (va_wsS RL 122 yL_sum wsL_sum) := goodIn_app (goodIn_of _ (by decide +kernel)) ggL_law_L_sum
set_option maxRecDepth 20000 in
theorem ggL_law_X1_sum : GoodIn wsL_law wsX1_sum := goodIn_r _ [295, 46, 69, 40, 296, 297, 298, 5, 299, 70, 71, 72, 250, 251, 252, 253, 34, 592, 593, 594, 595, 596, 597, 598, 599, 600, 601, 602] (by decide +kernel) (by decide +kernel)
set_option maxRecDepth 20000 in
theorem gL_law_X1_sum : GoodIn wsL_law (wsV RL 124 RX1 yX1_sum wsX1_sum) := goodIn_app (goodIn_of _ (by decide +kernel)) ggL_law_X1_sum
set_option maxRecDepth 20000 in
theorem ggL_law_L_contract : GoodIn wsL_law wsL_contract := goodIn_ca (goodIn_ca (goodIn_ca (goodIn_r _ [302, 80, 52, 185, 303, 304, 305, 2, 306, 284, 285, 286, 287, 14, 89, 90, 91, 92, 93, 307, 308, 309, 310, 199, 200, 201, 202, 13, 60, 61, 62, 63, 64, 190, 191, 192, 193, 194, 195, 196, 197, 198, 288, 289, 290, 291, 22, 94, 95, 96, 238, 239, 240, 241, 103, 104, 105, 242, 243, 244, 245, 580, 581, 582, 583, 584, 585, 586, 587, 588, 589, 590, 591] (by decide +kernel) (by decide +kernel)) (goodIn_sub (fun _ h => List.mem_append_left _ (List.mem_append_right _ h)) (by decide +kernel))) (goodIn_sub (fun _ h => List.mem_append_left _ (List.mem_append_left _ (List.mem_append_right _ h))) (by decide +kernel))) (goodIn_sub (fun _ h => List.mem_append_right _ h) (by decide +kernel))
set_option maxRecDepth 20000 in
theorem gL_law_L_contract : GoodIn wsL_law (va_wsS RL 125 yL_contract wsL_contract) := goodIn_app (goodIn_of _ (by decide +kernel)) ggL_law_L_contract
set_option maxRecDepth 20000 in
theorem ggL_law_X1_contract : GoodIn wsL_law wsX1_contract := goodIn_r _ [314, 46, 69, 40, 296, 297, 298, 5, 299, 70, 71, 72, 250, 251, 252, 253, 34, 592, 593, 594, 595, 596, 597, 598, 599, 600, 601, 602] (by decide +kernel) (by decide +kernel)
set_option maxRecDepth 20000 in
theorem gL_law_X1_contract : GoodIn wsL_law (wsV RL 127 RX1 yX1_contract wsX1_contract) := goodIn_app (goodIn_of _ (by decide +kernel)) ggL_law_X1_contract
set_option maxRecDepth 20000 in
theorem ggL_law_L_cap : GoodIn wsL_law wsL_cap := goodIn_ca (goodIn_ca (goodIn_ca (goodIn_r _ [317, 80, 52, 185, 318, 319, 320, 2, 321, 226, 227, 228, 229, 284, 285, 286, 287, 14, 89, 90, 91, 92, 93, 57, 58, 59, 60, 61, 62, 63, 64, 190, 191, 192, 193, 194, 195, 196, 197, 198, 199, 200, 201, 202, 13, 288, 289, 290, 291, 22, 94, 95, 96, 238, 239, 240, 241, 103, 104, 105, 242, 243, 244, 245, 580, 581, 582, 583, 584, 585, 586, 587, 588, 589, 590, 591] (by decide +kernel) (by decide +kernel)) (goodIn_sub (fun _ h => List.mem_append_left _ (List.mem_append_right _ h)) (by decide +kernel))) (goodIn_sub (fun _ h => List.mem_append_left _ (List.mem_append_left _ (List.mem_append_right _ h))) (by decide +kernel))) (goodIn_sub (fun _ h => List.mem_append_right _ h) (by decide +kernel))
set_option maxRecDepth 20000 in
theorem gL_law_L_cap : GoodIn wsL_law (va_wsS RL 128 yL_cap wsL_cap) := goodIn_app (goodIn_of _ (by decide +kernel)) ggL_law_L_cap
set_option maxRecDepth 20000 in
theorem ggL_law_X1_cap : GoodIn wsL_law wsX1_cap := goodIn_r _ [325, 46, 69, 40, 296, 297, 298, 5, 299, 70, 71, 72, 250, 251, 252, 253, 34, 592, 593, 594, 595, 596, 597, 598, 599, 600, 601, 602] (by decide +kernel) (by decide +kernel)
set_option maxRecDepth 20000 in
theorem gL_law_X1_cap : GoodIn wsL_law (wsV RL 130 RX1 yX1_cap wsX1_cap) := goodIn_app (goodIn_of _ (by decide +kernel)) ggL_law_X1_cap
set_option maxRecDepth 20000 in
theorem ggL_law_L_value : GoodIn wsL_law wsL_value := goodIn_ca (goodIn_ca (goodIn_r _ [328, 80, 52, 329, 330, 331, 2, 332, 284, 285, 286, 287, 14, 89, 90, 91, 92, 93, 307, 308, 309, 310, 199, 200, 201, 202, 13, 60, 61, 62, 63, 64, 288, 289, 290, 291, 22, 94, 95, 96, 580, 581, 582, 583, 584, 585, 586, 587, 588, 589, 590, 591] (by decide +kernel) (by decide +kernel)) (goodIn_sub (fun _ h => List.mem_append_left _ (List.mem_append_right _ h)) (by decide +kernel))) (goodIn_sub (fun _ h => List.mem_append_left _ (List.mem_append_left _ (List.mem_append_right _ h))) (by decide +kernel))
set_option maxRecDepth 20000 in
theorem gL_law_L_value : GoodIn wsL_law (va_wsS RL 131 yL_value wsL_value) := goodIn_app (goodIn_of _ (by decide +kernel)) ggL_law_L_value
set_option maxRecDepth 20000 in
theorem ggL_law_X1_value : GoodIn wsL_law wsX1_value := goodIn_r _ [336, 69, 40, 296, 297, 298, 5, 299, 46, 70, 71, 72, 250, 251, 252, 253, 34, 592, 593, 594, 595, 596, 597, 598, 599, 600, 601, 602] (by decide +kernel) (by decide +kernel)
set_option maxRecDepth 20000 in
theorem gL_law_X1_value : GoodIn wsL_law (wsV RL 133 RX1 yX1_value wsX1_value) := goodIn_app (goodIn_of _ (by decide +kernel)) ggL_law_X1_value
set_option maxRecDepth 20000 in
theorem ggL_law_L_isLawful : GoodIn wsL_law wsL_isLawful := goodIn_ca (goodIn_r _ [339, 80, 340, 341, 342, 2, 343, 284, 285, 286, 287, 14, 89, 90, 91, 92, 93, 344, 345, 346, 347, 199, 200, 201, 202, 13, 348, 349, 350, 351, 106, 107, 108, 352, 353, 354, 355, 97, 98, 99, 288, 289, 290, 291, 22, 94, 95, 96, 580, 581, 582, 583, 584, 585, 586, 587, 588, 589, 590, 591] (by decide +kernel) (by decide +kernel)) (goodIn_sub (fun _ h => List.mem_append_left _ (List.mem_append_right _ h)) (by decide +kernel))
set_option maxRecDepth 20000 in
theorem gL_law_L_isLawful : GoodIn wsL_law (va_wsS RL 134 yL_isLawful wsL_isLawful) := goodIn_app (goodIn_of _ (by decide +kernel)) ggL_law_L_isLawful
set_option maxRecDepth 20000 in
theorem ggL_law_X1_isLawful : GoodIn wsL_law wsX1_isLawful := goodIn_r _ [359, 69, 296, 297, 298, 5, 299, 46, 70, 71, 72, 360, 361, 362, 363, 34, 40, 250, 251, 252, 253, 117, 118, 119, 592, 593, 594, 595, 596, 597, 598, 599, 600, 601, 602] (by decide +kernel) (by decide +kernel)
set_option maxRecDepth 20000 in
theorem gL_law_X1_isLawful : GoodIn wsL_law (wsV RL 136 RX1 yX1_isLawful wsX1_isLawful) := goodIn_app (goodIn_of _ (by decide +kernel)) ggL_law_X1_isLawful
set_option maxRecDepth 20000 in
theorem ggL_law_L_rises : GoodIn wsL_law wsL_rises := goodIn_ca (goodIn_r _ [366, 80, 367, 368, 369, 2, 370, 13, 284, 285, 286, 287, 14, 89, 90, 91, 92, 93, 199, 200, 201, 202, 352, 353, 354, 355, 97, 98, 99, 288, 289, 290, 291, 22, 94, 95, 96, 580, 581, 582, 583, 584, 585, 586, 587, 588, 589, 590, 591] (by decide +kernel) (by decide +kernel)) (goodIn_sub (fun _ h => List.mem_append_left _ (List.mem_append_right _ h)) (by decide +kernel))
set_option maxRecDepth 20000 in
theorem gL_law_L_rises : GoodIn wsL_law (va_wsS RL 137 yL_rises wsL_rises) := goodIn_app (goodIn_of _ (by decide +kernel)) ggL_law_L_rises
set_option maxRecDepth 20000 in
theorem ggL_law_X1_rises : GoodIn wsL_law wsX1_rises := goodIn_r _ [374, 69, 34, 40, 296, 297, 298, 5, 299, 46, 70, 71, 72, 250, 251, 252, 253, 592, 593, 594, 595, 596, 597, 598, 599, 600, 601, 602] (by decide +kernel) (by decide +kernel)
set_option maxRecDepth 20000 in
theorem gL_law_X1_rises : GoodIn wsL_law (wsV RL 139 RX1 yX1_rises wsX1_rises) := goodIn_app (goodIn_of _ (by decide +kernel)) ggL_law_X1_rises
set_option maxRecDepth 20000 in
theorem ggL_law_L_least : GoodIn wsL_law wsL_least := goodIn_ca (goodIn_ca (goodIn_r _ [377, 80, 185, 378, 379, 380, 2, 381, 284, 285, 286, 287, 14, 89, 90, 91, 92, 93, 344, 345, 346, 347, 199, 200, 201, 202, 13, 348, 349, 350, 351, 106, 107, 108, 352, 353, 354, 355, 97, 98, 99, 288, 289, 290, 291, 22, 94, 95, 96, 194, 195, 196, 197, 198, 382, 383, 384, 385, 386, 387, 388, 389, 390, 391, 392, 393, 100, 101, 102, 394, 395, 396, 397, 580, 581, 582, 583, 584, 585, 586, 587, 588, 589, 590, 591] (by decide +kernel) (by decide +kernel)) (goodIn_sub (fun _ h => List.mem_append_left _ (List.mem_append_right _ h)) (by decide +kernel))) (goodIn_sub (fun _ h => List.mem_append_right _ h) (by decide +kernel))
set_option maxRecDepth 20000 in
theorem gL_law_L_least : GoodIn wsL_law (va_wsS RL 140 yL_least wsL_least) := goodIn_app (goodIn_of _ (by decide +kernel)) ggL_law_L_least
set_option maxRecDepth 20000 in
theorem ggL_law_X1_least : GoodIn wsL_law wsX1_least := goodIn_r _ [401, 69, 296, 297, 298, 5, 299, 46, 70, 71, 72, 360, 361, 362, 363, 34, 40, 250, 251, 252, 253, 117, 118, 119, 402, 403, 404, 405, 592, 593, 594, 595, 596, 597, 598, 599, 600, 601, 602] (by decide +kernel) (by decide +kernel)
set_option maxRecDepth 20000 in
theorem gL_law_X1_least : GoodIn wsL_law (wsV RL 142 RX1 yX1_least wsX1_least) := goodIn_app (goodIn_of _ (by decide +kernel)) ggL_law_X1_least
set_option maxRecDepth 20000 in
theorem ggL_law_L_leastSet : GoodIn wsL_law wsL_leastSet := goodIn_ca (goodIn_ca (goodIn_r _ [408, 80, 185, 409, 410, 411, 2, 412, 284, 285, 286, 287, 14, 89, 90, 91, 92, 93, 344, 345, 346, 347, 199, 200, 201, 202, 13, 348, 349, 350, 351, 106, 107, 108, 352, 353, 354, 355, 97, 98, 99, 288, 289, 290, 291, 22, 94, 95, 96, 194, 195, 196, 197, 198, 382, 383, 384, 385, 386, 387, 388, 389, 390, 391, 392, 393, 100, 101, 102, 394, 395, 396, 397, 580, 581, 582, 583, 584, 585, 586, 587, 588, 589, 590, 591] (by decide +kernel) (by decide +kernel)) (goodIn_sub (fun _ h => List.mem_append_left _ (List.mem_append_right _ h)) (by decide +kernel))) (goodIn_sub (fun _ h => List.mem_append_right _ h) (by decide +kernel))
set_option maxRecDepth 20000 in
theorem gL_law_L_leastSet : GoodIn wsL_law (va_wsS RL 143 yL_leastSet wsL_leastSet) := goodIn_app (goodIn_of _ (by decide +kernel)) ggL_law_L_leastSet
set_option maxRecDepth 20000 in
theorem ggL_law_X1_leastSet : GoodIn wsL_law wsX1_leastSet := goodIn_r _ [416, 417, 418, 419, 5, 420, 69, 34, 40, 296, 297, 298, 299, 46, 70, 71, 72, 360, 361, 362, 363, 250, 251, 252, 253, 117, 118, 119, 402, 403, 404, 405, 592, 593, 594, 595, 596, 597, 598, 599, 600, 601, 602] (by decide +kernel) (by decide +kernel)
set_option maxRecDepth 20000 in
theorem gL_law_X1_leastSet : GoodIn wsL_law (wsV RL 146 RX1 yX1_leastSet wsX1_leastSet) := goodIn_app (goodIn_of _ (by decide +kernel)) ggL_law_X1_leastSet
set_option maxRecDepth 20000 in
theorem ggL_law_L_leastSetAnew : GoodIn wsL_law wsL_leastSetAnew := goodIn_ca (goodIn_ca (goodIn_r _ [423, 80, 185, 424, 425, 426, 2, 427, 226, 227, 228, 229, 284, 285, 286, 287, 14, 89, 90, 91, 92, 93, 344, 345, 346, 347, 199, 200, 201, 202, 13, 348, 349, 350, 351, 106, 107, 108, 352, 353, 354, 355, 97, 98, 99, 288, 289, 290, 291, 22, 94, 95, 96, 194, 195, 196, 197, 198, 580, 581, 582, 583, 584, 585, 586, 587, 588, 589, 590, 591] (by decide +kernel) (by decide +kernel)) (goodIn_sub (fun _ h => List.mem_append_left _ (List.mem_append_right _ h)) (by decide +kernel))) (goodIn_sub (fun _ h => List.mem_append_right _ h) (by decide +kernel))
set_option maxRecDepth 20000 in
theorem gL_law_L_leastSetAnew : GoodIn wsL_law (va_wsS RL 147 yL_leastSetAnew wsL_leastSetAnew) := goodIn_app (goodIn_of _ (by decide +kernel)) ggL_law_L_leastSetAnew
set_option maxRecDepth 20000 in
theorem ggL_law_X1_leastSetAnew : GoodIn wsL_law wsX1_leastSetAnew := goodIn_r _ [431, 417, 418, 419, 5, 420, 69, 34, 40, 296, 297, 298, 299, 46, 70, 71, 72, 360, 361, 362, 363, 250, 251, 252, 253, 117, 118, 119, 402, 403, 404, 405, 592, 593, 594, 595, 596, 597, 598, 599, 600, 601, 602] (by decide +kernel) (by decide +kernel)
set_option maxRecDepth 20000 in
theorem gL_law_X1_leastSetAnew : GoodIn wsL_law (wsV RL 149 RX1 yX1_leastSetAnew wsX1_leastSetAnew) := goodIn_app (goodIn_of _ (by decide +kernel)) ggL_law_X1_leastSetAnew
set_option maxRecDepth 20000 in
theorem ggL_law_L_order : GoodIn wsL_law wsL_order := goodIn_ca (goodIn_ca (goodIn_r _ [434, 80, 185, 435, 436, 437, 2, 438, 15, 13, 23, 85, 86, 87, 88, 89, 90, 91, 92, 93, 439, 440, 441, 442, 94, 95, 96, 194, 195, 196, 197, 198, 103, 104, 105, 580, 581, 582, 583, 584, 585, 586, 587, 588, 589, 590, 591] (by decide +kernel) (by decide +kernel)) (goodIn_sub (fun _ h => List.mem_append_left _ (List.mem_append_right _ h)) (by decide +kernel))) (goodIn_sub (fun _ h => List.mem_append_right _ h) (by decide +kernel))
set_option maxRecDepth 20000 in
theorem gL_law_L_order : GoodIn wsL_law (va_wsS RL 150 yL_order wsL_order) := goodIn_app (goodIn_of _ (by decide +kernel)) ggL_law_L_order
set_option maxRecDepth 20000 in
theorem ggL_law_X1_order : GoodIn wsL_law wsX1_order := goodIn_r _ [446, 47, 34, 69, 41, 113, 114, 115, 5, 116, 70, 71, 72, 447, 448, 449, 450, 592, 593, 594, 595, 596, 597, 598, 599, 600, 601, 602] (by decide +kernel) (by decide +kernel)
set_option maxRecDepth 20000 in
theorem gL_law_X1_order : GoodIn wsL_law (wsV RL 152 RX1 yX1_order wsX1_order) := goodIn_app (goodIn_of _ (by decide +kernel)) ggL_law_X1_order
set_option maxRecDepth 20000 in
theorem ggL_law_L_corner : GoodIn wsL_law wsL_corner := goodIn_ca (goodIn_ca (goodIn_r _ [453, 80, 185, 454, 455, 456, 2, 457, 284, 285, 286, 287, 14, 85, 86, 87, 88, 13, 89, 90, 91, 92, 93, 439, 440, 441, 442, 15, 23, 94, 95, 96, 194, 195, 196, 197, 198, 458, 459, 460, 461, 97, 98, 99, 352, 353, 354, 355, 288, 289, 290, 291, 22, 580, 581, 582, 583, 584, 585, 586, 587, 588, 589, 590, 591] (by decide +kernel) (by decide +kernel)) (goodIn_sub (fun _ h => List.mem_append_left _ (List.mem_append_right _ h)) (by decide +kernel))) (goodIn_sub (fun _ h => List.mem_append_right _ h) (by decide +kernel))
set_option maxRecDepth 20000 in
theorem gL_law_L_corner : GoodIn wsL_law (va_wsS RL 153 yL_corner wsL_corner) := goodIn_app (goodIn_of _ (by decide +kernel)) ggL_law_L_corner
set_option maxRecDepth 20000 in
theorem ggL_law_X1_corner : GoodIn wsL_law wsX1_corner := goodIn_r _ [465, 69, 41, 40, 296, 297, 298, 5, 299, 46, 70, 71, 72, 113, 114, 115, 116, 34, 447, 448, 449, 450, 47, 592, 593, 594, 595, 596, 597, 598, 599, 600, 601, 602] (by decide +kernel) (by decide +kernel)
set_option maxRecDepth 20000 in
theorem gL_law_X1_corner : GoodIn wsL_law (wsV RL 155 RX1 yX1_corner wsX1_corner) := goodIn_app (goodIn_of _ (by decide +kernel)) ggL_law_X1_corner
set_option maxRecDepth 20000 in
theorem ggL_law_L_greedy : GoodIn wsL_law wsL_greedy := goodIn_ca (goodIn_ca (goodIn_r _ [468, 80, 52, 469, 470, 471, 2, 472, 284, 285, 286, 287, 14, 89, 90, 91, 92, 93, 57, 58, 59, 60, 61, 62, 63, 64, 473, 474, 475, 476, 13, 352, 353, 354, 355, 97, 98, 99, 288, 289, 290, 291, 22, 94, 95, 96, 580, 581, 582, 583, 584, 585, 586, 587, 588, 589, 590, 591] (by decide +kernel) (by decide +kernel)) (goodIn_sub (fun _ h => List.mem_append_left _ (List.mem_append_right _ h)) (by decide +kernel))) (goodIn_sub (fun _ h => List.mem_append_left _ (List.mem_append_left _ (List.mem_append_right _ h))) (by decide +kernel))
set_option maxRecDepth 20000 in
theorem gL_law_L_greedy : GoodIn wsL_law (va_wsS RL 156 yL_greedy wsL_greedy) := goodIn_app (goodIn_of _ (by decide +kernel)) ggL_law_L_greedy
set_option maxRecDepth 20000 in
theorem ggL_law_X1_greedy : GoodIn wsL_law wsX1_greedy := goodIn_r _ [480, 69, 34, 40, 296, 297, 298, 5, 299, 46, 70, 71, 72, 258, 259, 260, 592, 593, 594, 595, 596, 597, 598, 599, 600, 601, 602] (by decide +kernel) (by decide +kernel)
set_option maxRecDepth 20000 in
theorem gL_law_X1_greedy : GoodIn wsL_law (wsV RL 158 RX1 yX1_greedy wsX1_greedy) := goodIn_app (goodIn_of _ (by decide +kernel)) ggL_law_X1_greedy
set_option maxRecDepth 20000 in
theorem ggL_law_L_best : GoodIn wsL_law wsL_best := goodIn_ca (goodIn_ca (goodIn_r _ [483, 80, 52, 484, 485, 486, 2, 487, 488, 489, 228, 490, 284, 285, 286, 287, 14, 89, 90, 91, 92, 93, 57, 58, 59, 60, 61, 62, 63, 64, 199, 200, 201, 202, 13, 211, 212, 213, 214, 215, 216, 217, 288, 289, 290, 291, 22, 94, 95, 96, 580, 581, 582, 583, 584, 585, 586, 587, 588, 589, 590, 591] (by decide +kernel) (by decide +kernel)) (goodIn_sub (fun _ h => List.mem_append_left _ (List.mem_append_right _ h)) (by decide +kernel))) (goodIn_sub (fun _ h => List.mem_append_left _ (List.mem_append_left _ (List.mem_append_right _ h))) (by decide +kernel))
set_option maxRecDepth 20000 in
theorem gL_law_L_best : GoodIn wsL_law (va_wsS RL 159 yL_best wsL_best) := goodIn_app (goodIn_of _ (by decide +kernel)) ggL_law_L_best
set_option maxRecDepth 20000 in
theorem ggL_law_X1_best : GoodIn wsL_law wsX1_best := goodIn_r _ [494, 69, 40, 296, 297, 298, 5, 299, 46, 70, 71, 72, 250, 251, 252, 253, 34, 258, 259, 260, 592, 593, 594, 595, 596, 597, 598, 599, 600, 601, 602] (by decide +kernel) (by decide +kernel)
set_option maxRecDepth 20000 in
theorem gL_law_X1_best : GoodIn wsL_law (wsV RL 161 RX1 yX1_best wsX1_best) := goodIn_app (goodIn_of _ (by decide +kernel)) ggL_law_X1_best
set_option maxRecDepth 20000 in
theorem ggL_law_X0_common : GoodIn wsL_law wsX0_common := goodIn_r _ [498, 13, 499, 500, 501, 2, 502, 25, 503, 504, 505, 506, 24, 26, 27, 28, 29, 507, 508, 509, 510, 148, 149, 150, 151, 19, 94, 95, 96, 106, 107, 108, 230, 231, 232, 233, 163, 164, 165, 166, 20, 103, 104, 105, 511, 512, 513, 514, 515, 516, 517, 518, 211, 212, 213, 214, 215, 216, 217, 519, 520, 521, 522, 580, 581, 582, 583, 584, 585, 586, 587, 588, 589, 590, 591] (by decide +kernel) (by decide +kernel)
set_option maxRecDepth 20000 in
theorem gL_law_X0_common : GoodIn wsL_law (wsV RL 162 RX0 yX0_common wsX0_common) := goodIn_app (goodIn_of _ (by decide +kernel)) ggL_law_X0_common
set_option maxRecDepth 20000 in
theorem ggL_law_X1_common : GoodIn wsL_law wsX1_common := goodIn_r _ [526, 69, 527, 528, 529, 5, 530, 250, 251, 252, 253, 34, 70, 71, 72, 531, 532, 533, 534, 269, 270, 271, 272, 38, 273, 274, 275, 276, 37, 117, 118, 119, 258, 259, 260, 592, 593, 594, 595, 596, 597, 598, 599, 600, 601, 602] (by decide +kernel) (by decide +kernel)
set_option maxRecDepth 20000 in
theorem gL_law_X1_common : GoodIn wsL_law (wsV RL 165 RX1 yX1_common wsX1_common) := goodIn_app (goodIn_of _ (by decide +kernel)) ggL_law_X1_common
set_option maxRecDepth 20000 in
theorem ggL_law_X0_commonAnew : GoodIn wsL_law wsX0_commonAnew := goodIn_r _ [538, 488, 489, 228, 490, 199, 200, 201, 2, 202, 13, 539, 540, 541, 542, 230, 231, 232, 233, 106, 107, 108, 148, 149, 150, 151, 19, 94, 95, 96, 163, 164, 165, 166, 20, 211, 212, 213, 214, 215, 216, 217, 580, 581, 582, 583, 584, 585, 586, 587, 588, 589, 590, 591] (by decide +kernel) (by decide +kernel)
set_option maxRecDepth 20000 in
theorem gL_law_X0_commonAnew : GoodIn wsL_law (wsV RL 166 RX0 yX0_commonAnew wsX0_commonAnew) := goodIn_app (goodIn_of _ (by decide +kernel)) ggL_law_X0_commonAnew
set_option maxRecDepth 20000 in
theorem ggL_law_X1_commonAnew : GoodIn wsL_law wsX1_commonAnew := goodIn_r _ [546, 69, 527, 528, 529, 5, 530, 250, 251, 252, 253, 34, 70, 71, 72, 531, 532, 533, 534, 269, 270, 271, 272, 38, 273, 274, 275, 276, 37, 117, 118, 119, 258, 259, 260, 592, 593, 594, 595, 596, 597, 598, 599, 600, 601, 602] (by decide +kernel) (by decide +kernel)
set_option maxRecDepth 20000 in
theorem gL_law_X1_commonAnew : GoodIn wsL_law (wsV RL 169 RX1 yX1_commonAnew wsX1_commonAnew) := goodIn_app (goodIn_of _ (by decide +kernel)) ggL_law_X1_commonAnew
set_option maxRecDepth 20000 in
theorem ggL_law_L_share : GoodIn wsL_law wsL_share := goodIn_ca (goodIn_r _ [549, 80, 550, 551, 552, 2, 553, 13, 284, 285, 286, 287, 14, 85, 86, 87, 88, 89, 90, 91, 92, 93, 199, 200, 201, 202, 106, 107, 108, 211, 212, 213, 214, 215, 216, 217, 554, 555, 556, 352, 353, 354, 355, 97, 98, 99, 288, 289, 290, 291, 22, 94, 95, 96, 580, 581, 582, 583, 584, 585, 586, 587, 588, 589, 590, 591] (by decide +kernel) (by decide +kernel)) (goodIn_sub (fun _ h => List.mem_append_left _ (List.mem_append_right _ h)) (by decide +kernel))
set_option maxRecDepth 20000 in
theorem gL_law_L_share : GoodIn wsL_law (va_wsS RL 170 yL_share wsL_share) := goodIn_app (goodIn_of _ (by decide +kernel)) ggL_law_L_share
set_option maxRecDepth 20000 in
theorem ggL_law_X1_share : GoodIn wsL_law wsX1_share := goodIn_r _ [560, 561, 562, 563, 5, 564, 69, 34, 40, 296, 297, 298, 299, 46, 70, 71, 72, 113, 114, 115, 116, 117, 118, 119, 592, 593, 594, 595, 596, 597, 598, 599, 600, 601, 602] (by decide +kernel) (by decide +kernel)
set_option maxRecDepth 20000 in
theorem gL_law_X1_share : GoodIn wsL_law (wsV RL 172 RX1 yX1_share wsX1_share) := goodIn_app (goodIn_of _ (by decide +kernel)) ggL_law_X1_share
set_option maxRecDepth 20000 in
theorem ggL_law_L_shareAnew : GoodIn wsL_law wsL_shareAnew := goodIn_ca (goodIn_r _ [567, 80, 568, 569, 570, 2, 571, 284, 285, 286, 287, 14, 85, 86, 87, 88, 13, 89, 90, 91, 92, 93, 572, 573, 574, 575, 106, 107, 108, 352, 353, 354, 355, 97, 98, 99, 288, 289, 290, 291, 22, 94, 95, 96, 580, 581, 582, 583, 584, 585, 586, 587, 588, 589, 590, 591] (by decide +kernel) (by decide +kernel)) (goodIn_sub (fun _ h => List.mem_append_left _ (List.mem_append_right _ h)) (by decide +kernel))
set_option maxRecDepth 20000 in
theorem gL_law_L_shareAnew : GoodIn wsL_law (va_wsS RL 173 yL_shareAnew wsL_shareAnew) := goodIn_app (goodIn_of _ (by decide +kernel)) ggL_law_L_shareAnew
set_option maxRecDepth 20000 in
theorem ggL_law_X1_shareAnew : GoodIn wsL_law wsX1_shareAnew := goodIn_r _ [579, 561, 562, 563, 5, 564, 69, 34, 40, 296, 297, 298, 299, 46, 70, 71, 72, 113, 114, 115, 116, 117, 118, 119, 592, 593, 594, 595, 596, 597, 598, 599, 600, 601, 602] (by decide +kernel) (by decide +kernel)
set_option maxRecDepth 20000 in
theorem gL_law_X1_shareAnew : GoodIn wsL_law (wsV RL 175 RX1 yX1_shareAnew wsX1_shareAnew) := goodIn_app (goodIn_of _ (by decide +kernel)) ggL_law_X1_shareAnew
end
section
theorem dL_law_0 : decode cL_law 0 = .ok (.new 8, 3) := by decide +kernel
theorem dL_law_3 : decode cL_law 3 = .ok (.dup, 1) := by decide +kernel
theorem dL_law_4 : decode cL_law 4 = .ok (.invokespecial 87, 3) := by decide +kernel
theorem dL_law_7 : decode cL_law 7 = .ok (.astore_n 1, 1) := by decide +kernel
theorem dL_law_8 : decode cL_law 8 = .ok (.new 88, 3) := by decide +kernel
theorem dL_law_11 : decode cL_law 11 = .ok (.dup, 1) := by decide +kernel
theorem dL_law_12 : decode cL_law 12 = .ok (.invokespecial 90, 3) := by decide +kernel
theorem dL_law_15 : decode cL_law 15 = .ok (.astore_n 2, 1) := by decide +kernel
theorem dL_law_16 : decode cL_law 16 = .ok (.iconst 1, 1) := by decide +kernel
theorem dL_law_17 : decode cL_law 17 = .ok (.newarray .long, 2) := by decide +kernel
theorem dL_law_19 : decode cL_law 19 = .ok (.astore_n 3, 1) := by decide +kernel
theorem dL_law_20 : decode cL_law 20 = .ok (.iconst 0, 1) := by decide +kernel
theorem dL_law_21 : decode cL_law 21 = .ok (.istore 4, 2) := by decide +kernel
theorem dL_law_23 : decode cL_law 23 = .ok (.iload 4, 2) := by decide +kernel
theorem dL_law_25 : decode cL_law 25 = .ok (.aload_n 0, 1) := by decide +kernel
theorem dL_law_26 : decode cL_law 26 = .ok (.arraylength, 1) := by decide +kernel
theorem dL_law_27 : decode cL_law 27 = .ok (.iconst 4, 1) := by decide +kernel
theorem dL_law_28 : decode cL_law 28 = .ok (.isub, 1) := by decide +kernel
theorem dL_law_29 : decode cL_law 29 = .ok (.if_icmp .gt 1692, 3) := by decide +kernel
theorem dL_law_32 : decode cL_law 32 = .ok (.aload_n 0, 1) := by decide +kernel
theorem dL_law_33 : decode cL_law 33 = .ok (.iload 4, 2) := by decide +kernel
theorem dL_law_35 : decode cL_law 35 = .ok (.iaload, 1) := by decide +kernel
theorem dL_law_36 : decode cL_law 36 = .ok (.bipush 31, 2) := by decide +kernel
theorem dL_law_38 : decode cL_law 38 = .ok (.iand, 1) := by decide +kernel
theorem dL_law_39 : decode cL_law 39 = .ok (.tableswitch 1676 0 23 #[109, 165, 268, 348, 428, 508, 576, 632, 700, 768, 836, 904, 967, 1030, 1086, 1170, 1254, 1310, 1378, 1446, 1514, 1527, 1540, 1608], 109) := by decide +kernel
theorem dL_law_148 : decode cL_law 148 = .ok (.aload_n 1, 1) := by decide +kernel
theorem dL_law_149 : decode cL_law 149 = .ok (.aload_n 0, 1) := by decide +kernel
theorem dL_law_150 : decode cL_law 150 = .ok (.iload 4, 2) := by decide +kernel
theorem dL_law_152 : decode cL_law 152 = .ok (.iconst 1, 1) := by decide +kernel
theorem dL_law_153 : decode cL_law 153 = .ok (.iadd, 1) := by decide +kernel
theorem dL_law_154 : decode cL_law 154 = .ok (.iaload, 1) := by decide +kernel
theorem dL_law_155 : decode cL_law 155 = .ok (.aload_n 3, 1) := by decide +kernel
theorem dL_law_156 : decode cL_law 156 = .ok (.invokestatic 91, 3) := by decide +kernel
theorem dL_law_159 : decode cL_law 159 = .ok (.istore 5, 2) := by decide +kernel
theorem dL_law_161 : decode cL_law 161 = .ok (.aload_n 2, 1) := by decide +kernel
theorem dL_law_162 : decode cL_law 162 = .ok (.aload_n 0, 1) := by decide +kernel
theorem dL_law_163 : decode cL_law 163 = .ok (.iload 4, 2) := by decide +kernel
theorem dL_law_165 : decode cL_law 165 = .ok (.iconst 1, 1) := by decide +kernel
theorem dL_law_166 : decode cL_law 166 = .ok (.iadd, 1) := by decide +kernel
theorem dL_law_167 : decode cL_law 167 = .ok (.iaload, 1) := by decide +kernel
theorem dL_law_168 : decode cL_law 168 = .ok (.invokevirtual 96, 3) := by decide +kernel
theorem dL_law_171 : decode cL_law 171 = .ok (.istore 6, 2) := by decide +kernel
theorem dL_law_173 : decode cL_law 173 = .ok (.aload_n 2, 1) := by decide +kernel
theorem dL_law_174 : decode cL_law 174 = .ok (.invokevirtual 97, 3) := by decide +kernel
theorem dL_law_177 : decode cL_law 177 = .ok (.iload 5, 2) := by decide +kernel
theorem dL_law_179 : decode cL_law 179 = .ok (.if_icmp .eq 5, 3) := by decide +kernel
theorem dL_law_182 : decode cL_law 182 = .ok (.iconst 0, 1) := by decide +kernel
theorem dL_law_183 : decode cL_law 183 = .ok (.ireturn, 1) := by decide +kernel
theorem dL_law_184 : decode cL_law 184 = .ok (.iload 5, 2) := by decide +kernel
theorem dL_law_186 : decode cL_law 186 = .ok (.ifCond .ne 15, 3) := by decide +kernel
theorem dL_law_189 : decode cL_law 189 = .ok (.aload_n 3, 1) := by decide +kernel
theorem dL_law_190 : decode cL_law 190 = .ok (.iconst 0, 1) := by decide +kernel
theorem dL_law_191 : decode cL_law 191 = .ok (.laload, 1) := by decide +kernel
theorem dL_law_192 : decode cL_law 192 = .ok (.iload 6, 2) := by decide +kernel
theorem dL_law_194 : decode cL_law 194 = .ok (.i2l, 1) := by decide +kernel
theorem dL_law_195 : decode cL_law 195 = .ok (.lcmp, 1) := by decide +kernel
theorem dL_law_196 : decode cL_law 196 = .ok (.ifCond .eq 5, 3) := by decide +kernel
theorem dL_law_199 : decode cL_law 199 = .ok (.iconst 0, 1) := by decide +kernel
theorem dL_law_200 : decode cL_law 200 = .ok (.ireturn, 1) := by decide +kernel
theorem dL_law_201 : decode cL_law 201 = .ok (.goto 1514, 3) := by decide +kernel
theorem dL_law_204 : decode cL_law 204 = .ok (.aload_n 1, 1) := by decide +kernel
theorem dL_law_205 : decode cL_law 205 = .ok (.aload_n 0, 1) := by decide +kernel
theorem dL_law_206 : decode cL_law 206 = .ok (.iload 4, 2) := by decide +kernel
theorem dL_law_208 : decode cL_law 208 = .ok (.iconst 1, 1) := by decide +kernel
theorem dL_law_209 : decode cL_law 209 = .ok (.iadd, 1) := by decide +kernel
theorem dL_law_210 : decode cL_law 210 = .ok (.iaload, 1) := by decide +kernel
theorem dL_law_211 : decode cL_law 211 = .ok (.aload_n 0, 1) := by decide +kernel
theorem dL_law_212 : decode cL_law 212 = .ok (.iload 4, 2) := by decide +kernel
theorem dL_law_214 : decode cL_law 214 = .ok (.iconst 2, 1) := by decide +kernel
theorem dL_law_215 : decode cL_law 215 = .ok (.iadd, 1) := by decide +kernel
theorem dL_law_216 : decode cL_law 216 = .ok (.iaload, 1) := by decide +kernel
theorem dL_law_217 : decode cL_law 217 = .ok (.aload_n 0, 1) := by decide +kernel
theorem dL_law_218 : decode cL_law 218 = .ok (.iload 4, 2) := by decide +kernel
theorem dL_law_220 : decode cL_law 220 = .ok (.iconst 3, 1) := by decide +kernel
theorem dL_law_221 : decode cL_law 221 = .ok (.iadd, 1) := by decide +kernel
theorem dL_law_222 : decode cL_law 222 = .ok (.iaload, 1) := by decide +kernel
theorem dL_law_223 : decode cL_law 223 = .ok (.ifCond .eq 7, 3) := by decide +kernel
theorem dL_law_226 : decode cL_law 226 = .ok (.iconst 1, 1) := by decide +kernel
theorem dL_law_227 : decode cL_law 227 = .ok (.goto 4, 3) := by decide +kernel
theorem dL_law_230 : decode cL_law 230 = .ok (.iconst 0, 1) := by decide +kernel
theorem dL_law_231 : decode cL_law 231 = .ok (.aload_n 3, 1) := by decide +kernel
theorem dL_law_232 : decode cL_law 232 = .ok (.invokestatic 101, 3) := by decide +kernel
theorem dL_law_235 : decode cL_law 235 = .ok (.istore 5, 2) := by decide +kernel
theorem dL_law_237 : decode cL_law 237 = .ok (.aload_n 2, 1) := by decide +kernel
theorem dL_law_238 : decode cL_law 238 = .ok (.aload_n 0, 1) := by decide +kernel
theorem dL_law_239 : decode cL_law 239 = .ok (.iload 4, 2) := by decide +kernel
theorem dL_law_241 : decode cL_law 241 = .ok (.iconst 1, 1) := by decide +kernel
theorem dL_law_242 : decode cL_law 242 = .ok (.iadd, 1) := by decide +kernel
theorem dL_law_243 : decode cL_law 243 = .ok (.iaload, 1) := by decide +kernel
theorem dL_law_244 : decode cL_law 244 = .ok (.aload_n 0, 1) := by decide +kernel
theorem dL_law_245 : decode cL_law 245 = .ok (.iload 4, 2) := by decide +kernel
theorem dL_law_247 : decode cL_law 247 = .ok (.iconst 2, 1) := by decide +kernel
theorem dL_law_248 : decode cL_law 248 = .ok (.iadd, 1) := by decide +kernel
theorem dL_law_249 : decode cL_law 249 = .ok (.iaload, 1) := by decide +kernel
theorem dL_law_250 : decode cL_law 250 = .ok (.aload_n 0, 1) := by decide +kernel
theorem dL_law_251 : decode cL_law 251 = .ok (.iload 4, 2) := by decide +kernel
theorem dL_law_253 : decode cL_law 253 = .ok (.iconst 3, 1) := by decide +kernel
theorem dL_law_254 : decode cL_law 254 = .ok (.iadd, 1) := by decide +kernel
theorem dL_law_255 : decode cL_law 255 = .ok (.iaload, 1) := by decide +kernel
theorem dL_law_256 : decode cL_law 256 = .ok (.ifCond .eq 7, 3) := by decide +kernel
theorem dL_law_259 : decode cL_law 259 = .ok (.iconst 1, 1) := by decide +kernel
theorem dL_law_260 : decode cL_law 260 = .ok (.goto 4, 3) := by decide +kernel
theorem dL_law_263 : decode cL_law 263 = .ok (.iconst 0, 1) := by decide +kernel
theorem dL_law_264 : decode cL_law 264 = .ok (.invokevirtual 104, 3) := by decide +kernel
theorem dL_law_267 : decode cL_law 267 = .ok (.istore 6, 2) := by decide +kernel
theorem dL_law_269 : decode cL_law 269 = .ok (.aload_n 2, 1) := by decide +kernel
theorem dL_law_270 : decode cL_law 270 = .ok (.invokevirtual 97, 3) := by decide +kernel
theorem dL_law_273 : decode cL_law 273 = .ok (.iload 5, 2) := by decide +kernel
theorem dL_law_275 : decode cL_law 275 = .ok (.if_icmp .eq 5, 3) := by decide +kernel
theorem dL_law_278 : decode cL_law 278 = .ok (.iconst 0, 1) := by decide +kernel
theorem dL_law_279 : decode cL_law 279 = .ok (.ireturn, 1) := by decide +kernel
theorem dL_law_280 : decode cL_law 280 = .ok (.iload 5, 2) := by decide +kernel
theorem dL_law_282 : decode cL_law 282 = .ok (.ifCond .ne 22, 3) := by decide +kernel
theorem dL_law_285 : decode cL_law 285 = .ok (.aload_n 3, 1) := by decide +kernel
theorem dL_law_286 : decode cL_law 286 = .ok (.iconst 0, 1) := by decide +kernel
theorem dL_law_287 : decode cL_law 287 = .ok (.laload, 1) := by decide +kernel
theorem dL_law_288 : decode cL_law 288 = .ok (.iload 6, 2) := by decide +kernel
theorem dL_law_290 : decode cL_law 290 = .ok (.ifCond .eq 7, 3) := by decide +kernel
theorem dL_law_293 : decode cL_law 293 = .ok (.lconst 1, 1) := by decide +kernel
theorem dL_law_294 : decode cL_law 294 = .ok (.goto 4, 3) := by decide +kernel
theorem dL_law_297 : decode cL_law 297 = .ok (.lconst 0, 1) := by decide +kernel
theorem dL_law_298 : decode cL_law 298 = .ok (.lcmp, 1) := by decide +kernel
theorem dL_law_299 : decode cL_law 299 = .ok (.ifCond .eq 5, 3) := by decide +kernel
theorem dL_law_302 : decode cL_law 302 = .ok (.iconst 0, 1) := by decide +kernel
theorem dL_law_303 : decode cL_law 303 = .ok (.ireturn, 1) := by decide +kernel
theorem dL_law_304 : decode cL_law 304 = .ok (.goto 1411, 3) := by decide +kernel
theorem dL_law_307 : decode cL_law 307 = .ok (.aload_n 1, 1) := by decide +kernel
theorem dL_law_308 : decode cL_law 308 = .ok (.aload_n 0, 1) := by decide +kernel
theorem dL_law_309 : decode cL_law 309 = .ok (.iload 4, 2) := by decide +kernel
theorem dL_law_311 : decode cL_law 311 = .ok (.iconst 1, 1) := by decide +kernel
theorem dL_law_312 : decode cL_law 312 = .ok (.iadd, 1) := by decide +kernel
theorem dL_law_313 : decode cL_law 313 = .ok (.iaload, 1) := by decide +kernel
theorem dL_law_314 : decode cL_law 314 = .ok (.aload_n 0, 1) := by decide +kernel
theorem dL_law_315 : decode cL_law 315 = .ok (.iload 4, 2) := by decide +kernel
theorem dL_law_317 : decode cL_law 317 = .ok (.iconst 2, 1) := by decide +kernel
theorem dL_law_318 : decode cL_law 318 = .ok (.iadd, 1) := by decide +kernel
theorem dL_law_319 : decode cL_law 319 = .ok (.iaload, 1) := by decide +kernel
theorem dL_law_320 : decode cL_law 320 = .ok (.aload_n 0, 1) := by decide +kernel
theorem dL_law_321 : decode cL_law 321 = .ok (.iload 4, 2) := by decide +kernel
theorem dL_law_323 : decode cL_law 323 = .ok (.iconst 3, 1) := by decide +kernel
theorem dL_law_324 : decode cL_law 324 = .ok (.iadd, 1) := by decide +kernel
theorem dL_law_325 : decode cL_law 325 = .ok (.iaload, 1) := by decide +kernel
theorem dL_law_326 : decode cL_law 326 = .ok (.aload_n 3, 1) := by decide +kernel
theorem dL_law_327 : decode cL_law 327 = .ok (.invokestatic 105, 3) := by decide +kernel
theorem dL_law_330 : decode cL_law 330 = .ok (.istore 5, 2) := by decide +kernel
theorem dL_law_332 : decode cL_law 332 = .ok (.aload_n 2, 1) := by decide +kernel
theorem dL_law_333 : decode cL_law 333 = .ok (.aload_n 0, 1) := by decide +kernel
theorem dL_law_334 : decode cL_law 334 = .ok (.iload 4, 2) := by decide +kernel
theorem dL_law_336 : decode cL_law 336 = .ok (.iconst 1, 1) := by decide +kernel
theorem dL_law_337 : decode cL_law 337 = .ok (.iadd, 1) := by decide +kernel
theorem dL_law_338 : decode cL_law 338 = .ok (.iaload, 1) := by decide +kernel
theorem dL_law_339 : decode cL_law 339 = .ok (.aload_n 0, 1) := by decide +kernel
theorem dL_law_340 : decode cL_law 340 = .ok (.iload 4, 2) := by decide +kernel
theorem dL_law_342 : decode cL_law 342 = .ok (.iconst 2, 1) := by decide +kernel
theorem dL_law_343 : decode cL_law 343 = .ok (.iadd, 1) := by decide +kernel
theorem dL_law_344 : decode cL_law 344 = .ok (.iaload, 1) := by decide +kernel
theorem dL_law_345 : decode cL_law 345 = .ok (.aload_n 0, 1) := by decide +kernel
theorem dL_law_346 : decode cL_law 346 = .ok (.iload 4, 2) := by decide +kernel
theorem dL_law_348 : decode cL_law 348 = .ok (.iconst 3, 1) := by decide +kernel
theorem dL_law_349 : decode cL_law 349 = .ok (.iadd, 1) := by decide +kernel
theorem dL_law_350 : decode cL_law 350 = .ok (.iaload, 1) := by decide +kernel
theorem dL_law_351 : decode cL_law 351 = .ok (.invokevirtual 108, 3) := by decide +kernel
theorem dL_law_354 : decode cL_law 354 = .ok (.istore 6, 2) := by decide +kernel
theorem dL_law_356 : decode cL_law 356 = .ok (.aload_n 2, 1) := by decide +kernel
theorem dL_law_357 : decode cL_law 357 = .ok (.invokevirtual 97, 3) := by decide +kernel
theorem dL_law_360 : decode cL_law 360 = .ok (.iload 5, 2) := by decide +kernel
theorem dL_law_362 : decode cL_law 362 = .ok (.if_icmp .eq 5, 3) := by decide +kernel
theorem dL_law_365 : decode cL_law 365 = .ok (.iconst 0, 1) := by decide +kernel
theorem dL_law_366 : decode cL_law 366 = .ok (.ireturn, 1) := by decide +kernel
theorem dL_law_367 : decode cL_law 367 = .ok (.iload 5, 2) := by decide +kernel
theorem dL_law_369 : decode cL_law 369 = .ok (.ifCond .ne 15, 3) := by decide +kernel
theorem dL_law_372 : decode cL_law 372 = .ok (.aload_n 3, 1) := by decide +kernel
theorem dL_law_373 : decode cL_law 373 = .ok (.iconst 0, 1) := by decide +kernel
theorem dL_law_374 : decode cL_law 374 = .ok (.laload, 1) := by decide +kernel
theorem dL_law_375 : decode cL_law 375 = .ok (.iload 6, 2) := by decide +kernel
theorem dL_law_377 : decode cL_law 377 = .ok (.i2l, 1) := by decide +kernel
theorem dL_law_378 : decode cL_law 378 = .ok (.lcmp, 1) := by decide +kernel
theorem dL_law_379 : decode cL_law 379 = .ok (.ifCond .eq 5, 3) := by decide +kernel
theorem dL_law_382 : decode cL_law 382 = .ok (.iconst 0, 1) := by decide +kernel
theorem dL_law_383 : decode cL_law 383 = .ok (.ireturn, 1) := by decide +kernel
theorem dL_law_384 : decode cL_law 384 = .ok (.goto 1331, 3) := by decide +kernel
theorem dL_law_387 : decode cL_law 387 = .ok (.aload_n 1, 1) := by decide +kernel
theorem dL_law_388 : decode cL_law 388 = .ok (.aload_n 0, 1) := by decide +kernel
theorem dL_law_389 : decode cL_law 389 = .ok (.iload 4, 2) := by decide +kernel
theorem dL_law_391 : decode cL_law 391 = .ok (.iconst 1, 1) := by decide +kernel
theorem dL_law_392 : decode cL_law 392 = .ok (.iadd, 1) := by decide +kernel
theorem dL_law_393 : decode cL_law 393 = .ok (.iaload, 1) := by decide +kernel
theorem dL_law_394 : decode cL_law 394 = .ok (.aload_n 0, 1) := by decide +kernel
theorem dL_law_395 : decode cL_law 395 = .ok (.iload 4, 2) := by decide +kernel
theorem dL_law_397 : decode cL_law 397 = .ok (.iconst 2, 1) := by decide +kernel
theorem dL_law_398 : decode cL_law 398 = .ok (.iadd, 1) := by decide +kernel
theorem dL_law_399 : decode cL_law 399 = .ok (.iaload, 1) := by decide +kernel
theorem dL_law_400 : decode cL_law 400 = .ok (.aload_n 0, 1) := by decide +kernel
theorem dL_law_401 : decode cL_law 401 = .ok (.iload 4, 2) := by decide +kernel
theorem dL_law_403 : decode cL_law 403 = .ok (.iconst 3, 1) := by decide +kernel
theorem dL_law_404 : decode cL_law 404 = .ok (.iadd, 1) := by decide +kernel
theorem dL_law_405 : decode cL_law 405 = .ok (.iaload, 1) := by decide +kernel
theorem dL_law_406 : decode cL_law 406 = .ok (.aload_n 3, 1) := by decide +kernel
theorem dL_law_407 : decode cL_law 407 = .ok (.invokestatic 109, 3) := by decide +kernel
theorem dL_law_410 : decode cL_law 410 = .ok (.istore 5, 2) := by decide +kernel
theorem dL_law_412 : decode cL_law 412 = .ok (.aload_n 2, 1) := by decide +kernel
theorem dL_law_413 : decode cL_law 413 = .ok (.aload_n 0, 1) := by decide +kernel
theorem dL_law_414 : decode cL_law 414 = .ok (.iload 4, 2) := by decide +kernel
theorem dL_law_416 : decode cL_law 416 = .ok (.iconst 1, 1) := by decide +kernel
theorem dL_law_417 : decode cL_law 417 = .ok (.iadd, 1) := by decide +kernel
theorem dL_law_418 : decode cL_law 418 = .ok (.iaload, 1) := by decide +kernel
theorem dL_law_419 : decode cL_law 419 = .ok (.aload_n 0, 1) := by decide +kernel
theorem dL_law_420 : decode cL_law 420 = .ok (.iload 4, 2) := by decide +kernel
theorem dL_law_422 : decode cL_law 422 = .ok (.iconst 2, 1) := by decide +kernel
theorem dL_law_423 : decode cL_law 423 = .ok (.iadd, 1) := by decide +kernel
theorem dL_law_424 : decode cL_law 424 = .ok (.iaload, 1) := by decide +kernel
theorem dL_law_425 : decode cL_law 425 = .ok (.aload_n 0, 1) := by decide +kernel
theorem dL_law_426 : decode cL_law 426 = .ok (.iload 4, 2) := by decide +kernel
theorem dL_law_428 : decode cL_law 428 = .ok (.iconst 3, 1) := by decide +kernel
theorem dL_law_429 : decode cL_law 429 = .ok (.iadd, 1) := by decide +kernel
theorem dL_law_430 : decode cL_law 430 = .ok (.iaload, 1) := by decide +kernel
theorem dL_law_431 : decode cL_law 431 = .ok (.invokevirtual 111, 3) := by decide +kernel
theorem dL_law_434 : decode cL_law 434 = .ok (.istore 6, 2) := by decide +kernel
theorem dL_law_436 : decode cL_law 436 = .ok (.aload_n 2, 1) := by decide +kernel
theorem dL_law_437 : decode cL_law 437 = .ok (.invokevirtual 97, 3) := by decide +kernel
theorem dL_law_440 : decode cL_law 440 = .ok (.iload 5, 2) := by decide +kernel
theorem dL_law_442 : decode cL_law 442 = .ok (.if_icmp .eq 5, 3) := by decide +kernel
theorem dL_law_445 : decode cL_law 445 = .ok (.iconst 0, 1) := by decide +kernel
theorem dL_law_446 : decode cL_law 446 = .ok (.ireturn, 1) := by decide +kernel
theorem dL_law_447 : decode cL_law 447 = .ok (.iload 5, 2) := by decide +kernel
theorem dL_law_449 : decode cL_law 449 = .ok (.ifCond .ne 15, 3) := by decide +kernel
theorem dL_law_452 : decode cL_law 452 = .ok (.aload_n 3, 1) := by decide +kernel
theorem dL_law_453 : decode cL_law 453 = .ok (.iconst 0, 1) := by decide +kernel
theorem dL_law_454 : decode cL_law 454 = .ok (.laload, 1) := by decide +kernel
theorem dL_law_455 : decode cL_law 455 = .ok (.iload 6, 2) := by decide +kernel
theorem dL_law_457 : decode cL_law 457 = .ok (.i2l, 1) := by decide +kernel
theorem dL_law_458 : decode cL_law 458 = .ok (.lcmp, 1) := by decide +kernel
theorem dL_law_459 : decode cL_law 459 = .ok (.ifCond .eq 5, 3) := by decide +kernel
theorem dL_law_462 : decode cL_law 462 = .ok (.iconst 0, 1) := by decide +kernel
theorem dL_law_463 : decode cL_law 463 = .ok (.ireturn, 1) := by decide +kernel
theorem dL_law_464 : decode cL_law 464 = .ok (.goto 1251, 3) := by decide +kernel
theorem dL_law_467 : decode cL_law 467 = .ok (.aload_n 1, 1) := by decide +kernel
theorem dL_law_468 : decode cL_law 468 = .ok (.aload_n 0, 1) := by decide +kernel
theorem dL_law_469 : decode cL_law 469 = .ok (.iload 4, 2) := by decide +kernel
theorem dL_law_471 : decode cL_law 471 = .ok (.iconst 1, 1) := by decide +kernel
theorem dL_law_472 : decode cL_law 472 = .ok (.iadd, 1) := by decide +kernel
theorem dL_law_473 : decode cL_law 473 = .ok (.iaload, 1) := by decide +kernel
theorem dL_law_474 : decode cL_law 474 = .ok (.aload_n 0, 1) := by decide +kernel
theorem dL_law_475 : decode cL_law 475 = .ok (.iload 4, 2) := by decide +kernel
theorem dL_law_477 : decode cL_law 477 = .ok (.iconst 2, 1) := by decide +kernel
theorem dL_law_478 : decode cL_law 478 = .ok (.iadd, 1) := by decide +kernel
theorem dL_law_479 : decode cL_law 479 = .ok (.iaload, 1) := by decide +kernel
theorem dL_law_480 : decode cL_law 480 = .ok (.aload_n 0, 1) := by decide +kernel
theorem dL_law_481 : decode cL_law 481 = .ok (.iload 4, 2) := by decide +kernel
theorem dL_law_483 : decode cL_law 483 = .ok (.iconst 3, 1) := by decide +kernel
theorem dL_law_484 : decode cL_law 484 = .ok (.iadd, 1) := by decide +kernel
theorem dL_law_485 : decode cL_law 485 = .ok (.iaload, 1) := by decide +kernel
theorem dL_law_486 : decode cL_law 486 = .ok (.aload_n 3, 1) := by decide +kernel
theorem dL_law_487 : decode cL_law 487 = .ok (.invokestatic 112, 3) := by decide +kernel
theorem dL_law_490 : decode cL_law 490 = .ok (.istore 5, 2) := by decide +kernel
theorem dL_law_492 : decode cL_law 492 = .ok (.aload_n 2, 1) := by decide +kernel
theorem dL_law_493 : decode cL_law 493 = .ok (.aload_n 0, 1) := by decide +kernel
theorem dL_law_494 : decode cL_law 494 = .ok (.iload 4, 2) := by decide +kernel
theorem dL_law_496 : decode cL_law 496 = .ok (.iconst 1, 1) := by decide +kernel
theorem dL_law_497 : decode cL_law 497 = .ok (.iadd, 1) := by decide +kernel
theorem dL_law_498 : decode cL_law 498 = .ok (.iaload, 1) := by decide +kernel
theorem dL_law_499 : decode cL_law 499 = .ok (.aload_n 0, 1) := by decide +kernel
theorem dL_law_500 : decode cL_law 500 = .ok (.iload 4, 2) := by decide +kernel
theorem dL_law_502 : decode cL_law 502 = .ok (.iconst 2, 1) := by decide +kernel
theorem dL_law_503 : decode cL_law 503 = .ok (.iadd, 1) := by decide +kernel
theorem dL_law_504 : decode cL_law 504 = .ok (.iaload, 1) := by decide +kernel
theorem dL_law_505 : decode cL_law 505 = .ok (.aload_n 0, 1) := by decide +kernel
theorem dL_law_506 : decode cL_law 506 = .ok (.iload 4, 2) := by decide +kernel
theorem dL_law_508 : decode cL_law 508 = .ok (.iconst 3, 1) := by decide +kernel
theorem dL_law_509 : decode cL_law 509 = .ok (.iadd, 1) := by decide +kernel
theorem dL_law_510 : decode cL_law 510 = .ok (.iaload, 1) := by decide +kernel
theorem dL_law_511 : decode cL_law 511 = .ok (.invokevirtual 114, 3) := by decide +kernel
theorem dL_law_514 : decode cL_law 514 = .ok (.istore 6, 2) := by decide +kernel
theorem dL_law_516 : decode cL_law 516 = .ok (.aload_n 2, 1) := by decide +kernel
theorem dL_law_517 : decode cL_law 517 = .ok (.invokevirtual 97, 3) := by decide +kernel
theorem dL_law_520 : decode cL_law 520 = .ok (.iload 5, 2) := by decide +kernel
theorem dL_law_522 : decode cL_law 522 = .ok (.if_icmp .eq 5, 3) := by decide +kernel
theorem dL_law_525 : decode cL_law 525 = .ok (.iconst 0, 1) := by decide +kernel
theorem dL_law_526 : decode cL_law 526 = .ok (.ireturn, 1) := by decide +kernel
theorem dL_law_527 : decode cL_law 527 = .ok (.iload 5, 2) := by decide +kernel
theorem dL_law_529 : decode cL_law 529 = .ok (.ifCond .ne 15, 3) := by decide +kernel
theorem dL_law_532 : decode cL_law 532 = .ok (.aload_n 3, 1) := by decide +kernel
theorem dL_law_533 : decode cL_law 533 = .ok (.iconst 0, 1) := by decide +kernel
theorem dL_law_534 : decode cL_law 534 = .ok (.laload, 1) := by decide +kernel
theorem dL_law_535 : decode cL_law 535 = .ok (.iload 6, 2) := by decide +kernel
theorem dL_law_537 : decode cL_law 537 = .ok (.i2l, 1) := by decide +kernel
theorem dL_law_538 : decode cL_law 538 = .ok (.lcmp, 1) := by decide +kernel
theorem dL_law_539 : decode cL_law 539 = .ok (.ifCond .eq 5, 3) := by decide +kernel
theorem dL_law_542 : decode cL_law 542 = .ok (.iconst 0, 1) := by decide +kernel
theorem dL_law_543 : decode cL_law 543 = .ok (.ireturn, 1) := by decide +kernel
theorem dL_law_544 : decode cL_law 544 = .ok (.goto 1171, 3) := by decide +kernel
theorem dL_law_547 : decode cL_law 547 = .ok (.aload_n 1, 1) := by decide +kernel
theorem dL_law_548 : decode cL_law 548 = .ok (.aload_n 0, 1) := by decide +kernel
theorem dL_law_549 : decode cL_law 549 = .ok (.iload 4, 2) := by decide +kernel
theorem dL_law_551 : decode cL_law 551 = .ok (.iconst 1, 1) := by decide +kernel
theorem dL_law_552 : decode cL_law 552 = .ok (.iadd, 1) := by decide +kernel
theorem dL_law_553 : decode cL_law 553 = .ok (.iaload, 1) := by decide +kernel
theorem dL_law_554 : decode cL_law 554 = .ok (.aload_n 0, 1) := by decide +kernel
theorem dL_law_555 : decode cL_law 555 = .ok (.iload 4, 2) := by decide +kernel
theorem dL_law_557 : decode cL_law 557 = .ok (.iconst 2, 1) := by decide +kernel
theorem dL_law_558 : decode cL_law 558 = .ok (.iadd, 1) := by decide +kernel
theorem dL_law_559 : decode cL_law 559 = .ok (.iaload, 1) := by decide +kernel
theorem dL_law_560 : decode cL_law 560 = .ok (.aload_n 3, 1) := by decide +kernel
theorem dL_law_561 : decode cL_law 561 = .ok (.invokestatic 115, 3) := by decide +kernel
theorem dL_law_564 : decode cL_law 564 = .ok (.istore 5, 2) := by decide +kernel
theorem dL_law_566 : decode cL_law 566 = .ok (.aload_n 2, 1) := by decide +kernel
theorem dL_law_567 : decode cL_law 567 = .ok (.aload_n 0, 1) := by decide +kernel
theorem dL_law_568 : decode cL_law 568 = .ok (.iload 4, 2) := by decide +kernel
theorem dL_law_570 : decode cL_law 570 = .ok (.iconst 1, 1) := by decide +kernel
theorem dL_law_571 : decode cL_law 571 = .ok (.iadd, 1) := by decide +kernel
theorem dL_law_572 : decode cL_law 572 = .ok (.iaload, 1) := by decide +kernel
theorem dL_law_573 : decode cL_law 573 = .ok (.aload_n 0, 1) := by decide +kernel
theorem dL_law_574 : decode cL_law 574 = .ok (.iload 4, 2) := by decide +kernel
theorem dL_law_576 : decode cL_law 576 = .ok (.iconst 2, 1) := by decide +kernel
theorem dL_law_577 : decode cL_law 577 = .ok (.iadd, 1) := by decide +kernel
theorem dL_law_578 : decode cL_law 578 = .ok (.iaload, 1) := by decide +kernel
theorem dL_law_579 : decode cL_law 579 = .ok (.invokevirtual 118, 3) := by decide +kernel
theorem dL_law_582 : decode cL_law 582 = .ok (.istore 6, 2) := by decide +kernel
theorem dL_law_584 : decode cL_law 584 = .ok (.aload_n 2, 1) := by decide +kernel
theorem dL_law_585 : decode cL_law 585 = .ok (.invokevirtual 97, 3) := by decide +kernel
theorem dL_law_588 : decode cL_law 588 = .ok (.iload 5, 2) := by decide +kernel
theorem dL_law_590 : decode cL_law 590 = .ok (.if_icmp .eq 5, 3) := by decide +kernel
theorem dL_law_593 : decode cL_law 593 = .ok (.iconst 0, 1) := by decide +kernel
theorem dL_law_594 : decode cL_law 594 = .ok (.ireturn, 1) := by decide +kernel
theorem dL_law_595 : decode cL_law 595 = .ok (.iload 5, 2) := by decide +kernel
theorem dL_law_597 : decode cL_law 597 = .ok (.ifCond .ne 15, 3) := by decide +kernel
theorem dL_law_600 : decode cL_law 600 = .ok (.aload_n 3, 1) := by decide +kernel
theorem dL_law_601 : decode cL_law 601 = .ok (.iconst 0, 1) := by decide +kernel
theorem dL_law_602 : decode cL_law 602 = .ok (.laload, 1) := by decide +kernel
theorem dL_law_603 : decode cL_law 603 = .ok (.iload 6, 2) := by decide +kernel
theorem dL_law_605 : decode cL_law 605 = .ok (.i2l, 1) := by decide +kernel
theorem dL_law_606 : decode cL_law 606 = .ok (.lcmp, 1) := by decide +kernel
theorem dL_law_607 : decode cL_law 607 = .ok (.ifCond .eq 5, 3) := by decide +kernel
theorem dL_law_610 : decode cL_law 610 = .ok (.iconst 0, 1) := by decide +kernel
theorem dL_law_611 : decode cL_law 611 = .ok (.ireturn, 1) := by decide +kernel
theorem dL_law_612 : decode cL_law 612 = .ok (.goto 1103, 3) := by decide +kernel
theorem dL_law_615 : decode cL_law 615 = .ok (.aload_n 1, 1) := by decide +kernel
theorem dL_law_616 : decode cL_law 616 = .ok (.aload_n 0, 1) := by decide +kernel
theorem dL_law_617 : decode cL_law 617 = .ok (.iload 4, 2) := by decide +kernel
theorem dL_law_619 : decode cL_law 619 = .ok (.iconst 1, 1) := by decide +kernel
theorem dL_law_620 : decode cL_law 620 = .ok (.iadd, 1) := by decide +kernel
theorem dL_law_621 : decode cL_law 621 = .ok (.iaload, 1) := by decide +kernel
theorem dL_law_622 : decode cL_law 622 = .ok (.aload_n 3, 1) := by decide +kernel
theorem dL_law_623 : decode cL_law 623 = .ok (.invokestatic 119, 3) := by decide +kernel
theorem dL_law_626 : decode cL_law 626 = .ok (.istore 5, 2) := by decide +kernel
theorem dL_law_628 : decode cL_law 628 = .ok (.aload_n 2, 1) := by decide +kernel
theorem dL_law_629 : decode cL_law 629 = .ok (.aload_n 0, 1) := by decide +kernel
theorem dL_law_630 : decode cL_law 630 = .ok (.iload 4, 2) := by decide +kernel
theorem dL_law_632 : decode cL_law 632 = .ok (.iconst 1, 1) := by decide +kernel
theorem dL_law_633 : decode cL_law 633 = .ok (.iadd, 1) := by decide +kernel
theorem dL_law_634 : decode cL_law 634 = .ok (.iaload, 1) := by decide +kernel
theorem dL_law_635 : decode cL_law 635 = .ok (.invokevirtual 121, 3) := by decide +kernel
theorem dL_law_638 : decode cL_law 638 = .ok (.istore 6, 2) := by decide +kernel
theorem dL_law_640 : decode cL_law 640 = .ok (.aload_n 2, 1) := by decide +kernel
theorem dL_law_641 : decode cL_law 641 = .ok (.invokevirtual 97, 3) := by decide +kernel
theorem dL_law_644 : decode cL_law 644 = .ok (.iload 5, 2) := by decide +kernel
theorem dL_law_646 : decode cL_law 646 = .ok (.if_icmp .eq 5, 3) := by decide +kernel
theorem dL_law_649 : decode cL_law 649 = .ok (.iconst 0, 1) := by decide +kernel
theorem dL_law_650 : decode cL_law 650 = .ok (.ireturn, 1) := by decide +kernel
theorem dL_law_651 : decode cL_law 651 = .ok (.iload 5, 2) := by decide +kernel
theorem dL_law_653 : decode cL_law 653 = .ok (.ifCond .ne 15, 3) := by decide +kernel
theorem dL_law_656 : decode cL_law 656 = .ok (.aload_n 3, 1) := by decide +kernel
theorem dL_law_657 : decode cL_law 657 = .ok (.iconst 0, 1) := by decide +kernel
theorem dL_law_658 : decode cL_law 658 = .ok (.laload, 1) := by decide +kernel
theorem dL_law_659 : decode cL_law 659 = .ok (.iload 6, 2) := by decide +kernel
theorem dL_law_661 : decode cL_law 661 = .ok (.i2l, 1) := by decide +kernel
theorem dL_law_662 : decode cL_law 662 = .ok (.lcmp, 1) := by decide +kernel
theorem dL_law_663 : decode cL_law 663 = .ok (.ifCond .eq 5, 3) := by decide +kernel
theorem dL_law_666 : decode cL_law 666 = .ok (.iconst 0, 1) := by decide +kernel
theorem dL_law_667 : decode cL_law 667 = .ok (.ireturn, 1) := by decide +kernel
theorem dL_law_668 : decode cL_law 668 = .ok (.goto 1047, 3) := by decide +kernel
theorem dL_law_671 : decode cL_law 671 = .ok (.aload_n 1, 1) := by decide +kernel
theorem dL_law_672 : decode cL_law 672 = .ok (.aload_n 0, 1) := by decide +kernel
theorem dL_law_673 : decode cL_law 673 = .ok (.iload 4, 2) := by decide +kernel
theorem dL_law_675 : decode cL_law 675 = .ok (.iconst 1, 1) := by decide +kernel
theorem dL_law_676 : decode cL_law 676 = .ok (.iadd, 1) := by decide +kernel
theorem dL_law_677 : decode cL_law 677 = .ok (.iaload, 1) := by decide +kernel
theorem dL_law_678 : decode cL_law 678 = .ok (.aload_n 0, 1) := by decide +kernel
theorem dL_law_679 : decode cL_law 679 = .ok (.iload 4, 2) := by decide +kernel
theorem dL_law_681 : decode cL_law 681 = .ok (.iconst 2, 1) := by decide +kernel
theorem dL_law_682 : decode cL_law 682 = .ok (.iadd, 1) := by decide +kernel
theorem dL_law_683 : decode cL_law 683 = .ok (.iaload, 1) := by decide +kernel
theorem dL_law_684 : decode cL_law 684 = .ok (.aload_n 3, 1) := by decide +kernel
theorem dL_law_685 : decode cL_law 685 = .ok (.invokestatic 122, 3) := by decide +kernel
theorem dL_law_688 : decode cL_law 688 = .ok (.istore 5, 2) := by decide +kernel
theorem dL_law_690 : decode cL_law 690 = .ok (.aload_n 2, 1) := by decide +kernel
theorem dL_law_691 : decode cL_law 691 = .ok (.aload_n 0, 1) := by decide +kernel
theorem dL_law_692 : decode cL_law 692 = .ok (.iload 4, 2) := by decide +kernel
theorem dL_law_694 : decode cL_law 694 = .ok (.iconst 1, 1) := by decide +kernel
theorem dL_law_695 : decode cL_law 695 = .ok (.iadd, 1) := by decide +kernel
theorem dL_law_696 : decode cL_law 696 = .ok (.iaload, 1) := by decide +kernel
theorem dL_law_697 : decode cL_law 697 = .ok (.aload_n 0, 1) := by decide +kernel
theorem dL_law_698 : decode cL_law 698 = .ok (.iload 4, 2) := by decide +kernel
theorem dL_law_700 : decode cL_law 700 = .ok (.iconst 2, 1) := by decide +kernel
theorem dL_law_701 : decode cL_law 701 = .ok (.iadd, 1) := by decide +kernel
theorem dL_law_702 : decode cL_law 702 = .ok (.iaload, 1) := by decide +kernel
theorem dL_law_703 : decode cL_law 703 = .ok (.invokevirtual 124, 3) := by decide +kernel
theorem dL_law_706 : decode cL_law 706 = .ok (.istore 6, 2) := by decide +kernel
theorem dL_law_708 : decode cL_law 708 = .ok (.aload_n 2, 1) := by decide +kernel
theorem dL_law_709 : decode cL_law 709 = .ok (.invokevirtual 97, 3) := by decide +kernel
theorem dL_law_712 : decode cL_law 712 = .ok (.iload 5, 2) := by decide +kernel
theorem dL_law_714 : decode cL_law 714 = .ok (.if_icmp .eq 5, 3) := by decide +kernel
theorem dL_law_717 : decode cL_law 717 = .ok (.iconst 0, 1) := by decide +kernel
theorem dL_law_718 : decode cL_law 718 = .ok (.ireturn, 1) := by decide +kernel
theorem dL_law_719 : decode cL_law 719 = .ok (.iload 5, 2) := by decide +kernel
theorem dL_law_721 : decode cL_law 721 = .ok (.ifCond .ne 15, 3) := by decide +kernel
theorem dL_law_724 : decode cL_law 724 = .ok (.aload_n 3, 1) := by decide +kernel
theorem dL_law_725 : decode cL_law 725 = .ok (.iconst 0, 1) := by decide +kernel
theorem dL_law_726 : decode cL_law 726 = .ok (.laload, 1) := by decide +kernel
theorem dL_law_727 : decode cL_law 727 = .ok (.iload 6, 2) := by decide +kernel
theorem dL_law_729 : decode cL_law 729 = .ok (.i2l, 1) := by decide +kernel
theorem dL_law_730 : decode cL_law 730 = .ok (.lcmp, 1) := by decide +kernel
theorem dL_law_731 : decode cL_law 731 = .ok (.ifCond .eq 5, 3) := by decide +kernel
theorem dL_law_734 : decode cL_law 734 = .ok (.iconst 0, 1) := by decide +kernel
theorem dL_law_735 : decode cL_law 735 = .ok (.ireturn, 1) := by decide +kernel
theorem dL_law_736 : decode cL_law 736 = .ok (.goto 979, 3) := by decide +kernel
theorem dL_law_739 : decode cL_law 739 = .ok (.aload_n 1, 1) := by decide +kernel
theorem dL_law_740 : decode cL_law 740 = .ok (.aload_n 0, 1) := by decide +kernel
theorem dL_law_741 : decode cL_law 741 = .ok (.iload 4, 2) := by decide +kernel
theorem dL_law_743 : decode cL_law 743 = .ok (.iconst 1, 1) := by decide +kernel
theorem dL_law_744 : decode cL_law 744 = .ok (.iadd, 1) := by decide +kernel
theorem dL_law_745 : decode cL_law 745 = .ok (.iaload, 1) := by decide +kernel
theorem dL_law_746 : decode cL_law 746 = .ok (.aload_n 0, 1) := by decide +kernel
theorem dL_law_747 : decode cL_law 747 = .ok (.iload 4, 2) := by decide +kernel
theorem dL_law_749 : decode cL_law 749 = .ok (.iconst 2, 1) := by decide +kernel
theorem dL_law_750 : decode cL_law 750 = .ok (.iadd, 1) := by decide +kernel
theorem dL_law_751 : decode cL_law 751 = .ok (.iaload, 1) := by decide +kernel
theorem dL_law_752 : decode cL_law 752 = .ok (.aload_n 3, 1) := by decide +kernel
theorem dL_law_753 : decode cL_law 753 = .ok (.invokestatic 125, 3) := by decide +kernel
theorem dL_law_756 : decode cL_law 756 = .ok (.istore 5, 2) := by decide +kernel
theorem dL_law_758 : decode cL_law 758 = .ok (.aload_n 2, 1) := by decide +kernel
theorem dL_law_759 : decode cL_law 759 = .ok (.aload_n 0, 1) := by decide +kernel
theorem dL_law_760 : decode cL_law 760 = .ok (.iload 4, 2) := by decide +kernel
theorem dL_law_762 : decode cL_law 762 = .ok (.iconst 1, 1) := by decide +kernel
theorem dL_law_763 : decode cL_law 763 = .ok (.iadd, 1) := by decide +kernel
theorem dL_law_764 : decode cL_law 764 = .ok (.iaload, 1) := by decide +kernel
theorem dL_law_765 : decode cL_law 765 = .ok (.aload_n 0, 1) := by decide +kernel
theorem dL_law_766 : decode cL_law 766 = .ok (.iload 4, 2) := by decide +kernel
theorem dL_law_768 : decode cL_law 768 = .ok (.iconst 2, 1) := by decide +kernel
theorem dL_law_769 : decode cL_law 769 = .ok (.iadd, 1) := by decide +kernel
theorem dL_law_770 : decode cL_law 770 = .ok (.iaload, 1) := by decide +kernel
theorem dL_law_771 : decode cL_law 771 = .ok (.invokevirtual 127, 3) := by decide +kernel
theorem dL_law_774 : decode cL_law 774 = .ok (.istore 6, 2) := by decide +kernel
theorem dL_law_776 : decode cL_law 776 = .ok (.aload_n 2, 1) := by decide +kernel
theorem dL_law_777 : decode cL_law 777 = .ok (.invokevirtual 97, 3) := by decide +kernel
theorem dL_law_780 : decode cL_law 780 = .ok (.iload 5, 2) := by decide +kernel
theorem dL_law_782 : decode cL_law 782 = .ok (.if_icmp .eq 5, 3) := by decide +kernel
theorem dL_law_785 : decode cL_law 785 = .ok (.iconst 0, 1) := by decide +kernel
theorem dL_law_786 : decode cL_law 786 = .ok (.ireturn, 1) := by decide +kernel
theorem dL_law_787 : decode cL_law 787 = .ok (.iload 5, 2) := by decide +kernel
theorem dL_law_789 : decode cL_law 789 = .ok (.ifCond .ne 15, 3) := by decide +kernel
theorem dL_law_792 : decode cL_law 792 = .ok (.aload_n 3, 1) := by decide +kernel
theorem dL_law_793 : decode cL_law 793 = .ok (.iconst 0, 1) := by decide +kernel
theorem dL_law_794 : decode cL_law 794 = .ok (.laload, 1) := by decide +kernel
theorem dL_law_795 : decode cL_law 795 = .ok (.iload 6, 2) := by decide +kernel
theorem dL_law_797 : decode cL_law 797 = .ok (.i2l, 1) := by decide +kernel
theorem dL_law_798 : decode cL_law 798 = .ok (.lcmp, 1) := by decide +kernel
theorem dL_law_799 : decode cL_law 799 = .ok (.ifCond .eq 5, 3) := by decide +kernel
theorem dL_law_802 : decode cL_law 802 = .ok (.iconst 0, 1) := by decide +kernel
theorem dL_law_803 : decode cL_law 803 = .ok (.ireturn, 1) := by decide +kernel
theorem dL_law_804 : decode cL_law 804 = .ok (.goto 911, 3) := by decide +kernel
theorem dL_law_807 : decode cL_law 807 = .ok (.aload_n 1, 1) := by decide +kernel
theorem dL_law_808 : decode cL_law 808 = .ok (.aload_n 0, 1) := by decide +kernel
theorem dL_law_809 : decode cL_law 809 = .ok (.iload 4, 2) := by decide +kernel
theorem dL_law_811 : decode cL_law 811 = .ok (.iconst 1, 1) := by decide +kernel
theorem dL_law_812 : decode cL_law 812 = .ok (.iadd, 1) := by decide +kernel
theorem dL_law_813 : decode cL_law 813 = .ok (.iaload, 1) := by decide +kernel
theorem dL_law_814 : decode cL_law 814 = .ok (.aload_n 0, 1) := by decide +kernel
theorem dL_law_815 : decode cL_law 815 = .ok (.iload 4, 2) := by decide +kernel
theorem dL_law_817 : decode cL_law 817 = .ok (.iconst 2, 1) := by decide +kernel
theorem dL_law_818 : decode cL_law 818 = .ok (.iadd, 1) := by decide +kernel
theorem dL_law_819 : decode cL_law 819 = .ok (.iaload, 1) := by decide +kernel
theorem dL_law_820 : decode cL_law 820 = .ok (.aload_n 3, 1) := by decide +kernel
theorem dL_law_821 : decode cL_law 821 = .ok (.invokestatic 128, 3) := by decide +kernel
theorem dL_law_824 : decode cL_law 824 = .ok (.istore 5, 2) := by decide +kernel
theorem dL_law_826 : decode cL_law 826 = .ok (.aload_n 2, 1) := by decide +kernel
theorem dL_law_827 : decode cL_law 827 = .ok (.aload_n 0, 1) := by decide +kernel
theorem dL_law_828 : decode cL_law 828 = .ok (.iload 4, 2) := by decide +kernel
theorem dL_law_830 : decode cL_law 830 = .ok (.iconst 1, 1) := by decide +kernel
theorem dL_law_831 : decode cL_law 831 = .ok (.iadd, 1) := by decide +kernel
theorem dL_law_832 : decode cL_law 832 = .ok (.iaload, 1) := by decide +kernel
theorem dL_law_833 : decode cL_law 833 = .ok (.aload_n 0, 1) := by decide +kernel
theorem dL_law_834 : decode cL_law 834 = .ok (.iload 4, 2) := by decide +kernel
theorem dL_law_836 : decode cL_law 836 = .ok (.iconst 2, 1) := by decide +kernel
theorem dL_law_837 : decode cL_law 837 = .ok (.iadd, 1) := by decide +kernel
theorem dL_law_838 : decode cL_law 838 = .ok (.iaload, 1) := by decide +kernel
theorem dL_law_839 : decode cL_law 839 = .ok (.invokevirtual 130, 3) := by decide +kernel
theorem dL_law_842 : decode cL_law 842 = .ok (.istore 6, 2) := by decide +kernel
theorem dL_law_844 : decode cL_law 844 = .ok (.aload_n 2, 1) := by decide +kernel
theorem dL_law_845 : decode cL_law 845 = .ok (.invokevirtual 97, 3) := by decide +kernel
theorem dL_law_848 : decode cL_law 848 = .ok (.iload 5, 2) := by decide +kernel
theorem dL_law_850 : decode cL_law 850 = .ok (.if_icmp .eq 5, 3) := by decide +kernel
theorem dL_law_853 : decode cL_law 853 = .ok (.iconst 0, 1) := by decide +kernel
theorem dL_law_854 : decode cL_law 854 = .ok (.ireturn, 1) := by decide +kernel
theorem dL_law_855 : decode cL_law 855 = .ok (.iload 5, 2) := by decide +kernel
theorem dL_law_857 : decode cL_law 857 = .ok (.ifCond .ne 15, 3) := by decide +kernel
theorem dL_law_860 : decode cL_law 860 = .ok (.aload_n 3, 1) := by decide +kernel
theorem dL_law_861 : decode cL_law 861 = .ok (.iconst 0, 1) := by decide +kernel
theorem dL_law_862 : decode cL_law 862 = .ok (.laload, 1) := by decide +kernel
theorem dL_law_863 : decode cL_law 863 = .ok (.iload 6, 2) := by decide +kernel
theorem dL_law_865 : decode cL_law 865 = .ok (.i2l, 1) := by decide +kernel
theorem dL_law_866 : decode cL_law 866 = .ok (.lcmp, 1) := by decide +kernel
theorem dL_law_867 : decode cL_law 867 = .ok (.ifCond .eq 5, 3) := by decide +kernel
theorem dL_law_870 : decode cL_law 870 = .ok (.iconst 0, 1) := by decide +kernel
theorem dL_law_871 : decode cL_law 871 = .ok (.ireturn, 1) := by decide +kernel
theorem dL_law_872 : decode cL_law 872 = .ok (.goto 843, 3) := by decide +kernel
theorem dL_law_875 : decode cL_law 875 = .ok (.aload_n 1, 1) := by decide +kernel
theorem dL_law_876 : decode cL_law 876 = .ok (.aload_n 0, 1) := by decide +kernel
theorem dL_law_877 : decode cL_law 877 = .ok (.iload 4, 2) := by decide +kernel
theorem dL_law_879 : decode cL_law 879 = .ok (.iconst 1, 1) := by decide +kernel
theorem dL_law_880 : decode cL_law 880 = .ok (.iadd, 1) := by decide +kernel
theorem dL_law_881 : decode cL_law 881 = .ok (.iaload, 1) := by decide +kernel
theorem dL_law_882 : decode cL_law 882 = .ok (.aload_n 0, 1) := by decide +kernel
theorem dL_law_883 : decode cL_law 883 = .ok (.iload 4, 2) := by decide +kernel
theorem dL_law_885 : decode cL_law 885 = .ok (.iconst 2, 1) := by decide +kernel
theorem dL_law_886 : decode cL_law 886 = .ok (.iadd, 1) := by decide +kernel
theorem dL_law_887 : decode cL_law 887 = .ok (.iaload, 1) := by decide +kernel
theorem dL_law_888 : decode cL_law 888 = .ok (.aload_n 3, 1) := by decide +kernel
theorem dL_law_889 : decode cL_law 889 = .ok (.invokestatic 131, 3) := by decide +kernel
theorem dL_law_892 : decode cL_law 892 = .ok (.istore 5, 2) := by decide +kernel
theorem dL_law_894 : decode cL_law 894 = .ok (.aload_n 2, 1) := by decide +kernel
theorem dL_law_895 : decode cL_law 895 = .ok (.aload_n 0, 1) := by decide +kernel
theorem dL_law_896 : decode cL_law 896 = .ok (.iload 4, 2) := by decide +kernel
end
section
theorem dL_law_898 : decode cL_law 898 = .ok (.iconst 1, 1) := by decide +kernel
theorem dL_law_899 : decode cL_law 899 = .ok (.iadd, 1) := by decide +kernel
theorem dL_law_900 : decode cL_law 900 = .ok (.iaload, 1) := by decide +kernel
theorem dL_law_901 : decode cL_law 901 = .ok (.aload_n 0, 1) := by decide +kernel
theorem dL_law_902 : decode cL_law 902 = .ok (.iload 4, 2) := by decide +kernel
theorem dL_law_904 : decode cL_law 904 = .ok (.iconst 2, 1) := by decide +kernel
theorem dL_law_905 : decode cL_law 905 = .ok (.iadd, 1) := by decide +kernel
theorem dL_law_906 : decode cL_law 906 = .ok (.iaload, 1) := by decide +kernel
theorem dL_law_907 : decode cL_law 907 = .ok (.invokevirtual 133, 3) := by decide +kernel
theorem dL_law_910 : decode cL_law 910 = .ok (.istore 6, 2) := by decide +kernel
theorem dL_law_912 : decode cL_law 912 = .ok (.aload_n 2, 1) := by decide +kernel
theorem dL_law_913 : decode cL_law 913 = .ok (.invokevirtual 97, 3) := by decide +kernel
theorem dL_law_916 : decode cL_law 916 = .ok (.iload 5, 2) := by decide +kernel
theorem dL_law_918 : decode cL_law 918 = .ok (.if_icmp .eq 5, 3) := by decide +kernel
theorem dL_law_921 : decode cL_law 921 = .ok (.iconst 0, 1) := by decide +kernel
theorem dL_law_922 : decode cL_law 922 = .ok (.ireturn, 1) := by decide +kernel
theorem dL_law_923 : decode cL_law 923 = .ok (.iload 5, 2) := by decide +kernel
theorem dL_law_925 : decode cL_law 925 = .ok (.ifCond .ne 15, 3) := by decide +kernel
theorem dL_law_928 : decode cL_law 928 = .ok (.aload_n 3, 1) := by decide +kernel
theorem dL_law_929 : decode cL_law 929 = .ok (.iconst 0, 1) := by decide +kernel
theorem dL_law_930 : decode cL_law 930 = .ok (.laload, 1) := by decide +kernel
theorem dL_law_931 : decode cL_law 931 = .ok (.iload 6, 2) := by decide +kernel
theorem dL_law_933 : decode cL_law 933 = .ok (.i2l, 1) := by decide +kernel
theorem dL_law_934 : decode cL_law 934 = .ok (.lcmp, 1) := by decide +kernel
theorem dL_law_935 : decode cL_law 935 = .ok (.ifCond .eq 5, 3) := by decide +kernel
theorem dL_law_938 : decode cL_law 938 = .ok (.iconst 0, 1) := by decide +kernel
theorem dL_law_939 : decode cL_law 939 = .ok (.ireturn, 1) := by decide +kernel
theorem dL_law_940 : decode cL_law 940 = .ok (.goto 775, 3) := by decide +kernel
theorem dL_law_943 : decode cL_law 943 = .ok (.aload_n 1, 1) := by decide +kernel
theorem dL_law_944 : decode cL_law 944 = .ok (.aload_n 0, 1) := by decide +kernel
theorem dL_law_945 : decode cL_law 945 = .ok (.iload 4, 2) := by decide +kernel
theorem dL_law_947 : decode cL_law 947 = .ok (.iconst 1, 1) := by decide +kernel
theorem dL_law_948 : decode cL_law 948 = .ok (.iadd, 1) := by decide +kernel
theorem dL_law_949 : decode cL_law 949 = .ok (.iaload, 1) := by decide +kernel
theorem dL_law_950 : decode cL_law 950 = .ok (.aload_n 3, 1) := by decide +kernel
theorem dL_law_951 : decode cL_law 951 = .ok (.invokestatic 134, 3) := by decide +kernel
theorem dL_law_954 : decode cL_law 954 = .ok (.istore 5, 2) := by decide +kernel
theorem dL_law_956 : decode cL_law 956 = .ok (.aload_n 2, 1) := by decide +kernel
theorem dL_law_957 : decode cL_law 957 = .ok (.aload_n 0, 1) := by decide +kernel
theorem dL_law_958 : decode cL_law 958 = .ok (.iload 4, 2) := by decide +kernel
theorem dL_law_960 : decode cL_law 960 = .ok (.iconst 1, 1) := by decide +kernel
theorem dL_law_961 : decode cL_law 961 = .ok (.iadd, 1) := by decide +kernel
theorem dL_law_962 : decode cL_law 962 = .ok (.iaload, 1) := by decide +kernel
theorem dL_law_963 : decode cL_law 963 = .ok (.invokevirtual 136, 3) := by decide +kernel
theorem dL_law_966 : decode cL_law 966 = .ok (.istore 6, 2) := by decide +kernel
theorem dL_law_968 : decode cL_law 968 = .ok (.aload_n 2, 1) := by decide +kernel
theorem dL_law_969 : decode cL_law 969 = .ok (.invokevirtual 97, 3) := by decide +kernel
theorem dL_law_972 : decode cL_law 972 = .ok (.iload 5, 2) := by decide +kernel
theorem dL_law_974 : decode cL_law 974 = .ok (.if_icmp .eq 5, 3) := by decide +kernel
theorem dL_law_977 : decode cL_law 977 = .ok (.iconst 0, 1) := by decide +kernel
theorem dL_law_978 : decode cL_law 978 = .ok (.ireturn, 1) := by decide +kernel
theorem dL_law_979 : decode cL_law 979 = .ok (.iload 5, 2) := by decide +kernel
theorem dL_law_981 : decode cL_law 981 = .ok (.ifCond .ne 22, 3) := by decide +kernel
theorem dL_law_984 : decode cL_law 984 = .ok (.aload_n 3, 1) := by decide +kernel
theorem dL_law_985 : decode cL_law 985 = .ok (.iconst 0, 1) := by decide +kernel
theorem dL_law_986 : decode cL_law 986 = .ok (.laload, 1) := by decide +kernel
theorem dL_law_987 : decode cL_law 987 = .ok (.iload 6, 2) := by decide +kernel
theorem dL_law_989 : decode cL_law 989 = .ok (.ifCond .eq 7, 3) := by decide +kernel
theorem dL_law_992 : decode cL_law 992 = .ok (.lconst 1, 1) := by decide +kernel
theorem dL_law_993 : decode cL_law 993 = .ok (.goto 4, 3) := by decide +kernel
theorem dL_law_996 : decode cL_law 996 = .ok (.lconst 0, 1) := by decide +kernel
theorem dL_law_997 : decode cL_law 997 = .ok (.lcmp, 1) := by decide +kernel
theorem dL_law_998 : decode cL_law 998 = .ok (.ifCond .eq 5, 3) := by decide +kernel
theorem dL_law_1001 : decode cL_law 1001 = .ok (.iconst 0, 1) := by decide +kernel
theorem dL_law_1002 : decode cL_law 1002 = .ok (.ireturn, 1) := by decide +kernel
theorem dL_law_1003 : decode cL_law 1003 = .ok (.goto 712, 3) := by decide +kernel
theorem dL_law_1006 : decode cL_law 1006 = .ok (.aload_n 1, 1) := by decide +kernel
theorem dL_law_1007 : decode cL_law 1007 = .ok (.aload_n 0, 1) := by decide +kernel
theorem dL_law_1008 : decode cL_law 1008 = .ok (.iload 4, 2) := by decide +kernel
theorem dL_law_1010 : decode cL_law 1010 = .ok (.iconst 1, 1) := by decide +kernel
theorem dL_law_1011 : decode cL_law 1011 = .ok (.iadd, 1) := by decide +kernel
theorem dL_law_1012 : decode cL_law 1012 = .ok (.iaload, 1) := by decide +kernel
theorem dL_law_1013 : decode cL_law 1013 = .ok (.aload_n 3, 1) := by decide +kernel
theorem dL_law_1014 : decode cL_law 1014 = .ok (.invokestatic 137, 3) := by decide +kernel
theorem dL_law_1017 : decode cL_law 1017 = .ok (.istore 5, 2) := by decide +kernel
theorem dL_law_1019 : decode cL_law 1019 = .ok (.aload_n 2, 1) := by decide +kernel
theorem dL_law_1020 : decode cL_law 1020 = .ok (.aload_n 0, 1) := by decide +kernel
theorem dL_law_1021 : decode cL_law 1021 = .ok (.iload 4, 2) := by decide +kernel
theorem dL_law_1023 : decode cL_law 1023 = .ok (.iconst 1, 1) := by decide +kernel
theorem dL_law_1024 : decode cL_law 1024 = .ok (.iadd, 1) := by decide +kernel
theorem dL_law_1025 : decode cL_law 1025 = .ok (.iaload, 1) := by decide +kernel
theorem dL_law_1026 : decode cL_law 1026 = .ok (.invokevirtual 139, 3) := by decide +kernel
theorem dL_law_1029 : decode cL_law 1029 = .ok (.istore 6, 2) := by decide +kernel
theorem dL_law_1031 : decode cL_law 1031 = .ok (.aload_n 2, 1) := by decide +kernel
theorem dL_law_1032 : decode cL_law 1032 = .ok (.invokevirtual 97, 3) := by decide +kernel
theorem dL_law_1035 : decode cL_law 1035 = .ok (.iload 5, 2) := by decide +kernel
theorem dL_law_1037 : decode cL_law 1037 = .ok (.if_icmp .eq 5, 3) := by decide +kernel
theorem dL_law_1040 : decode cL_law 1040 = .ok (.iconst 0, 1) := by decide +kernel
theorem dL_law_1041 : decode cL_law 1041 = .ok (.ireturn, 1) := by decide +kernel
theorem dL_law_1042 : decode cL_law 1042 = .ok (.iload 5, 2) := by decide +kernel
theorem dL_law_1044 : decode cL_law 1044 = .ok (.ifCond .ne 22, 3) := by decide +kernel
theorem dL_law_1047 : decode cL_law 1047 = .ok (.aload_n 3, 1) := by decide +kernel
theorem dL_law_1048 : decode cL_law 1048 = .ok (.iconst 0, 1) := by decide +kernel
theorem dL_law_1049 : decode cL_law 1049 = .ok (.laload, 1) := by decide +kernel
theorem dL_law_1050 : decode cL_law 1050 = .ok (.iload 6, 2) := by decide +kernel
theorem dL_law_1052 : decode cL_law 1052 = .ok (.ifCond .eq 7, 3) := by decide +kernel
theorem dL_law_1055 : decode cL_law 1055 = .ok (.lconst 1, 1) := by decide +kernel
theorem dL_law_1056 : decode cL_law 1056 = .ok (.goto 4, 3) := by decide +kernel
theorem dL_law_1059 : decode cL_law 1059 = .ok (.lconst 0, 1) := by decide +kernel
theorem dL_law_1060 : decode cL_law 1060 = .ok (.lcmp, 1) := by decide +kernel
theorem dL_law_1061 : decode cL_law 1061 = .ok (.ifCond .eq 5, 3) := by decide +kernel
theorem dL_law_1064 : decode cL_law 1064 = .ok (.iconst 0, 1) := by decide +kernel
theorem dL_law_1065 : decode cL_law 1065 = .ok (.ireturn, 1) := by decide +kernel
theorem dL_law_1066 : decode cL_law 1066 = .ok (.goto 649, 3) := by decide +kernel
theorem dL_law_1069 : decode cL_law 1069 = .ok (.aload_n 1, 1) := by decide +kernel
theorem dL_law_1070 : decode cL_law 1070 = .ok (.aload_n 0, 1) := by decide +kernel
theorem dL_law_1071 : decode cL_law 1071 = .ok (.iload 4, 2) := by decide +kernel
theorem dL_law_1073 : decode cL_law 1073 = .ok (.iconst 1, 1) := by decide +kernel
theorem dL_law_1074 : decode cL_law 1074 = .ok (.iadd, 1) := by decide +kernel
theorem dL_law_1075 : decode cL_law 1075 = .ok (.iaload, 1) := by decide +kernel
theorem dL_law_1076 : decode cL_law 1076 = .ok (.aload_n 3, 1) := by decide +kernel
theorem dL_law_1077 : decode cL_law 1077 = .ok (.invokestatic 140, 3) := by decide +kernel
theorem dL_law_1080 : decode cL_law 1080 = .ok (.istore 5, 2) := by decide +kernel
theorem dL_law_1082 : decode cL_law 1082 = .ok (.aload_n 2, 1) := by decide +kernel
theorem dL_law_1083 : decode cL_law 1083 = .ok (.aload_n 0, 1) := by decide +kernel
theorem dL_law_1084 : decode cL_law 1084 = .ok (.iload 4, 2) := by decide +kernel
theorem dL_law_1086 : decode cL_law 1086 = .ok (.iconst 1, 1) := by decide +kernel
theorem dL_law_1087 : decode cL_law 1087 = .ok (.iadd, 1) := by decide +kernel
theorem dL_law_1088 : decode cL_law 1088 = .ok (.iaload, 1) := by decide +kernel
theorem dL_law_1089 : decode cL_law 1089 = .ok (.invokevirtual 142, 3) := by decide +kernel
theorem dL_law_1092 : decode cL_law 1092 = .ok (.istore 6, 2) := by decide +kernel
theorem dL_law_1094 : decode cL_law 1094 = .ok (.aload_n 2, 1) := by decide +kernel
theorem dL_law_1095 : decode cL_law 1095 = .ok (.invokevirtual 97, 3) := by decide +kernel
theorem dL_law_1098 : decode cL_law 1098 = .ok (.iload 5, 2) := by decide +kernel
theorem dL_law_1100 : decode cL_law 1100 = .ok (.if_icmp .eq 5, 3) := by decide +kernel
theorem dL_law_1103 : decode cL_law 1103 = .ok (.iconst 0, 1) := by decide +kernel
theorem dL_law_1104 : decode cL_law 1104 = .ok (.ireturn, 1) := by decide +kernel
theorem dL_law_1105 : decode cL_law 1105 = .ok (.iload 5, 2) := by decide +kernel
theorem dL_law_1107 : decode cL_law 1107 = .ok (.ifCond .ne 15, 3) := by decide +kernel
theorem dL_law_1110 : decode cL_law 1110 = .ok (.aload_n 3, 1) := by decide +kernel
theorem dL_law_1111 : decode cL_law 1111 = .ok (.iconst 0, 1) := by decide +kernel
theorem dL_law_1112 : decode cL_law 1112 = .ok (.laload, 1) := by decide +kernel
theorem dL_law_1113 : decode cL_law 1113 = .ok (.iload 6, 2) := by decide +kernel
theorem dL_law_1115 : decode cL_law 1115 = .ok (.i2l, 1) := by decide +kernel
theorem dL_law_1116 : decode cL_law 1116 = .ok (.lcmp, 1) := by decide +kernel
theorem dL_law_1117 : decode cL_law 1117 = .ok (.ifCond .eq 5, 3) := by decide +kernel
theorem dL_law_1120 : decode cL_law 1120 = .ok (.iconst 0, 1) := by decide +kernel
theorem dL_law_1121 : decode cL_law 1121 = .ok (.ireturn, 1) := by decide +kernel
theorem dL_law_1122 : decode cL_law 1122 = .ok (.goto 593, 3) := by decide +kernel
theorem dL_law_1125 : decode cL_law 1125 = .ok (.aload_n 1, 1) := by decide +kernel
theorem dL_law_1126 : decode cL_law 1126 = .ok (.aload_n 0, 1) := by decide +kernel
theorem dL_law_1127 : decode cL_law 1127 = .ok (.iload 4, 2) := by decide +kernel
theorem dL_law_1129 : decode cL_law 1129 = .ok (.iconst 1, 1) := by decide +kernel
theorem dL_law_1130 : decode cL_law 1130 = .ok (.iadd, 1) := by decide +kernel
theorem dL_law_1131 : decode cL_law 1131 = .ok (.iaload, 1) := by decide +kernel
theorem dL_law_1132 : decode cL_law 1132 = .ok (.aload_n 0, 1) := by decide +kernel
theorem dL_law_1133 : decode cL_law 1133 = .ok (.iload 4, 2) := by decide +kernel
theorem dL_law_1135 : decode cL_law 1135 = .ok (.iconst 2, 1) := by decide +kernel
theorem dL_law_1136 : decode cL_law 1136 = .ok (.iadd, 1) := by decide +kernel
theorem dL_law_1137 : decode cL_law 1137 = .ok (.iaload, 1) := by decide +kernel
theorem dL_law_1138 : decode cL_law 1138 = .ok (.ifCond .eq 7, 3) := by decide +kernel
theorem dL_law_1141 : decode cL_law 1141 = .ok (.iconst 1, 1) := by decide +kernel
theorem dL_law_1142 : decode cL_law 1142 = .ok (.goto 4, 3) := by decide +kernel
theorem dL_law_1145 : decode cL_law 1145 = .ok (.iconst 0, 1) := by decide +kernel
theorem dL_law_1146 : decode cL_law 1146 = .ok (.aload_n 3, 1) := by decide +kernel
theorem dL_law_1147 : decode cL_law 1147 = .ok (.invokestatic 143, 3) := by decide +kernel
theorem dL_law_1150 : decode cL_law 1150 = .ok (.istore 5, 2) := by decide +kernel
theorem dL_law_1152 : decode cL_law 1152 = .ok (.aload_n 2, 1) := by decide +kernel
theorem dL_law_1153 : decode cL_law 1153 = .ok (.aload_n 0, 1) := by decide +kernel
theorem dL_law_1154 : decode cL_law 1154 = .ok (.iload 4, 2) := by decide +kernel
theorem dL_law_1156 : decode cL_law 1156 = .ok (.iconst 1, 1) := by decide +kernel
theorem dL_law_1157 : decode cL_law 1157 = .ok (.iadd, 1) := by decide +kernel
theorem dL_law_1158 : decode cL_law 1158 = .ok (.iaload, 1) := by decide +kernel
theorem dL_law_1159 : decode cL_law 1159 = .ok (.aload_n 0, 1) := by decide +kernel
theorem dL_law_1160 : decode cL_law 1160 = .ok (.iload 4, 2) := by decide +kernel
theorem dL_law_1162 : decode cL_law 1162 = .ok (.iconst 2, 1) := by decide +kernel
theorem dL_law_1163 : decode cL_law 1163 = .ok (.iadd, 1) := by decide +kernel
theorem dL_law_1164 : decode cL_law 1164 = .ok (.iaload, 1) := by decide +kernel
theorem dL_law_1165 : decode cL_law 1165 = .ok (.ifCond .eq 7, 3) := by decide +kernel
theorem dL_law_1168 : decode cL_law 1168 = .ok (.iconst 1, 1) := by decide +kernel
theorem dL_law_1169 : decode cL_law 1169 = .ok (.goto 4, 3) := by decide +kernel
theorem dL_law_1172 : decode cL_law 1172 = .ok (.iconst 0, 1) := by decide +kernel
theorem dL_law_1173 : decode cL_law 1173 = .ok (.invokevirtual 146, 3) := by decide +kernel
theorem dL_law_1176 : decode cL_law 1176 = .ok (.istore 6, 2) := by decide +kernel
theorem dL_law_1178 : decode cL_law 1178 = .ok (.aload_n 2, 1) := by decide +kernel
theorem dL_law_1179 : decode cL_law 1179 = .ok (.invokevirtual 97, 3) := by decide +kernel
theorem dL_law_1182 : decode cL_law 1182 = .ok (.iload 5, 2) := by decide +kernel
theorem dL_law_1184 : decode cL_law 1184 = .ok (.if_icmp .eq 5, 3) := by decide +kernel
theorem dL_law_1187 : decode cL_law 1187 = .ok (.iconst 0, 1) := by decide +kernel
theorem dL_law_1188 : decode cL_law 1188 = .ok (.ireturn, 1) := by decide +kernel
theorem dL_law_1189 : decode cL_law 1189 = .ok (.iload 5, 2) := by decide +kernel
theorem dL_law_1191 : decode cL_law 1191 = .ok (.ifCond .ne 15, 3) := by decide +kernel
theorem dL_law_1194 : decode cL_law 1194 = .ok (.aload_n 3, 1) := by decide +kernel
theorem dL_law_1195 : decode cL_law 1195 = .ok (.iconst 0, 1) := by decide +kernel
theorem dL_law_1196 : decode cL_law 1196 = .ok (.laload, 1) := by decide +kernel
theorem dL_law_1197 : decode cL_law 1197 = .ok (.iload 6, 2) := by decide +kernel
theorem dL_law_1199 : decode cL_law 1199 = .ok (.i2l, 1) := by decide +kernel
theorem dL_law_1200 : decode cL_law 1200 = .ok (.lcmp, 1) := by decide +kernel
theorem dL_law_1201 : decode cL_law 1201 = .ok (.ifCond .eq 5, 3) := by decide +kernel
theorem dL_law_1204 : decode cL_law 1204 = .ok (.iconst 0, 1) := by decide +kernel
theorem dL_law_1205 : decode cL_law 1205 = .ok (.ireturn, 1) := by decide +kernel
theorem dL_law_1206 : decode cL_law 1206 = .ok (.goto 509, 3) := by decide +kernel
theorem dL_law_1209 : decode cL_law 1209 = .ok (.aload_n 1, 1) := by decide +kernel
theorem dL_law_1210 : decode cL_law 1210 = .ok (.aload_n 0, 1) := by decide +kernel
theorem dL_law_1211 : decode cL_law 1211 = .ok (.iload 4, 2) := by decide +kernel
theorem dL_law_1213 : decode cL_law 1213 = .ok (.iconst 1, 1) := by decide +kernel
theorem dL_law_1214 : decode cL_law 1214 = .ok (.iadd, 1) := by decide +kernel
theorem dL_law_1215 : decode cL_law 1215 = .ok (.iaload, 1) := by decide +kernel
theorem dL_law_1216 : decode cL_law 1216 = .ok (.aload_n 0, 1) := by decide +kernel
theorem dL_law_1217 : decode cL_law 1217 = .ok (.iload 4, 2) := by decide +kernel
theorem dL_law_1219 : decode cL_law 1219 = .ok (.iconst 2, 1) := by decide +kernel
theorem dL_law_1220 : decode cL_law 1220 = .ok (.iadd, 1) := by decide +kernel
theorem dL_law_1221 : decode cL_law 1221 = .ok (.iaload, 1) := by decide +kernel
theorem dL_law_1222 : decode cL_law 1222 = .ok (.ifCond .eq 7, 3) := by decide +kernel
theorem dL_law_1225 : decode cL_law 1225 = .ok (.iconst 1, 1) := by decide +kernel
theorem dL_law_1226 : decode cL_law 1226 = .ok (.goto 4, 3) := by decide +kernel
theorem dL_law_1229 : decode cL_law 1229 = .ok (.iconst 0, 1) := by decide +kernel
theorem dL_law_1230 : decode cL_law 1230 = .ok (.aload_n 3, 1) := by decide +kernel
theorem dL_law_1231 : decode cL_law 1231 = .ok (.invokestatic 147, 3) := by decide +kernel
theorem dL_law_1234 : decode cL_law 1234 = .ok (.istore 5, 2) := by decide +kernel
theorem dL_law_1236 : decode cL_law 1236 = .ok (.aload_n 2, 1) := by decide +kernel
theorem dL_law_1237 : decode cL_law 1237 = .ok (.aload_n 0, 1) := by decide +kernel
theorem dL_law_1238 : decode cL_law 1238 = .ok (.iload 4, 2) := by decide +kernel
theorem dL_law_1240 : decode cL_law 1240 = .ok (.iconst 1, 1) := by decide +kernel
theorem dL_law_1241 : decode cL_law 1241 = .ok (.iadd, 1) := by decide +kernel
theorem dL_law_1242 : decode cL_law 1242 = .ok (.iaload, 1) := by decide +kernel
theorem dL_law_1243 : decode cL_law 1243 = .ok (.aload_n 0, 1) := by decide +kernel
theorem dL_law_1244 : decode cL_law 1244 = .ok (.iload 4, 2) := by decide +kernel
theorem dL_law_1246 : decode cL_law 1246 = .ok (.iconst 2, 1) := by decide +kernel
theorem dL_law_1247 : decode cL_law 1247 = .ok (.iadd, 1) := by decide +kernel
theorem dL_law_1248 : decode cL_law 1248 = .ok (.iaload, 1) := by decide +kernel
theorem dL_law_1249 : decode cL_law 1249 = .ok (.ifCond .eq 7, 3) := by decide +kernel
theorem dL_law_1252 : decode cL_law 1252 = .ok (.iconst 1, 1) := by decide +kernel
theorem dL_law_1253 : decode cL_law 1253 = .ok (.goto 4, 3) := by decide +kernel
theorem dL_law_1256 : decode cL_law 1256 = .ok (.iconst 0, 1) := by decide +kernel
theorem dL_law_1257 : decode cL_law 1257 = .ok (.invokevirtual 149, 3) := by decide +kernel
theorem dL_law_1260 : decode cL_law 1260 = .ok (.istore 6, 2) := by decide +kernel
theorem dL_law_1262 : decode cL_law 1262 = .ok (.aload_n 2, 1) := by decide +kernel
theorem dL_law_1263 : decode cL_law 1263 = .ok (.invokevirtual 97, 3) := by decide +kernel
theorem dL_law_1266 : decode cL_law 1266 = .ok (.iload 5, 2) := by decide +kernel
theorem dL_law_1268 : decode cL_law 1268 = .ok (.if_icmp .eq 5, 3) := by decide +kernel
theorem dL_law_1271 : decode cL_law 1271 = .ok (.iconst 0, 1) := by decide +kernel
theorem dL_law_1272 : decode cL_law 1272 = .ok (.ireturn, 1) := by decide +kernel
theorem dL_law_1273 : decode cL_law 1273 = .ok (.iload 5, 2) := by decide +kernel
theorem dL_law_1275 : decode cL_law 1275 = .ok (.ifCond .ne 15, 3) := by decide +kernel
theorem dL_law_1278 : decode cL_law 1278 = .ok (.aload_n 3, 1) := by decide +kernel
theorem dL_law_1279 : decode cL_law 1279 = .ok (.iconst 0, 1) := by decide +kernel
theorem dL_law_1280 : decode cL_law 1280 = .ok (.laload, 1) := by decide +kernel
theorem dL_law_1281 : decode cL_law 1281 = .ok (.iload 6, 2) := by decide +kernel
theorem dL_law_1283 : decode cL_law 1283 = .ok (.i2l, 1) := by decide +kernel
theorem dL_law_1284 : decode cL_law 1284 = .ok (.lcmp, 1) := by decide +kernel
theorem dL_law_1285 : decode cL_law 1285 = .ok (.ifCond .eq 5, 3) := by decide +kernel
theorem dL_law_1288 : decode cL_law 1288 = .ok (.iconst 0, 1) := by decide +kernel
theorem dL_law_1289 : decode cL_law 1289 = .ok (.ireturn, 1) := by decide +kernel
theorem dL_law_1290 : decode cL_law 1290 = .ok (.goto 425, 3) := by decide +kernel
theorem dL_law_1293 : decode cL_law 1293 = .ok (.aload_n 1, 1) := by decide +kernel
theorem dL_law_1294 : decode cL_law 1294 = .ok (.aload_n 0, 1) := by decide +kernel
theorem dL_law_1295 : decode cL_law 1295 = .ok (.iload 4, 2) := by decide +kernel
theorem dL_law_1297 : decode cL_law 1297 = .ok (.iconst 1, 1) := by decide +kernel
theorem dL_law_1298 : decode cL_law 1298 = .ok (.iadd, 1) := by decide +kernel
theorem dL_law_1299 : decode cL_law 1299 = .ok (.iaload, 1) := by decide +kernel
theorem dL_law_1300 : decode cL_law 1300 = .ok (.aload_n 3, 1) := by decide +kernel
theorem dL_law_1301 : decode cL_law 1301 = .ok (.invokestatic 150, 3) := by decide +kernel
theorem dL_law_1304 : decode cL_law 1304 = .ok (.istore 5, 2) := by decide +kernel
theorem dL_law_1306 : decode cL_law 1306 = .ok (.aload_n 2, 1) := by decide +kernel
theorem dL_law_1307 : decode cL_law 1307 = .ok (.aload_n 0, 1) := by decide +kernel
theorem dL_law_1308 : decode cL_law 1308 = .ok (.iload 4, 2) := by decide +kernel
theorem dL_law_1310 : decode cL_law 1310 = .ok (.iconst 1, 1) := by decide +kernel
theorem dL_law_1311 : decode cL_law 1311 = .ok (.iadd, 1) := by decide +kernel
theorem dL_law_1312 : decode cL_law 1312 = .ok (.iaload, 1) := by decide +kernel
theorem dL_law_1313 : decode cL_law 1313 = .ok (.invokevirtual 152, 3) := by decide +kernel
theorem dL_law_1316 : decode cL_law 1316 = .ok (.istore 6, 2) := by decide +kernel
theorem dL_law_1318 : decode cL_law 1318 = .ok (.aload_n 2, 1) := by decide +kernel
theorem dL_law_1319 : decode cL_law 1319 = .ok (.invokevirtual 97, 3) := by decide +kernel
theorem dL_law_1322 : decode cL_law 1322 = .ok (.iload 5, 2) := by decide +kernel
theorem dL_law_1324 : decode cL_law 1324 = .ok (.if_icmp .eq 5, 3) := by decide +kernel
theorem dL_law_1327 : decode cL_law 1327 = .ok (.iconst 0, 1) := by decide +kernel
theorem dL_law_1328 : decode cL_law 1328 = .ok (.ireturn, 1) := by decide +kernel
theorem dL_law_1329 : decode cL_law 1329 = .ok (.iload 5, 2) := by decide +kernel
theorem dL_law_1331 : decode cL_law 1331 = .ok (.ifCond .ne 15, 3) := by decide +kernel
theorem dL_law_1334 : decode cL_law 1334 = .ok (.aload_n 3, 1) := by decide +kernel
theorem dL_law_1335 : decode cL_law 1335 = .ok (.iconst 0, 1) := by decide +kernel
theorem dL_law_1336 : decode cL_law 1336 = .ok (.laload, 1) := by decide +kernel
theorem dL_law_1337 : decode cL_law 1337 = .ok (.iload 6, 2) := by decide +kernel
theorem dL_law_1339 : decode cL_law 1339 = .ok (.i2l, 1) := by decide +kernel
theorem dL_law_1340 : decode cL_law 1340 = .ok (.lcmp, 1) := by decide +kernel
theorem dL_law_1341 : decode cL_law 1341 = .ok (.ifCond .eq 5, 3) := by decide +kernel
theorem dL_law_1344 : decode cL_law 1344 = .ok (.iconst 0, 1) := by decide +kernel
theorem dL_law_1345 : decode cL_law 1345 = .ok (.ireturn, 1) := by decide +kernel
theorem dL_law_1346 : decode cL_law 1346 = .ok (.goto 369, 3) := by decide +kernel
theorem dL_law_1349 : decode cL_law 1349 = .ok (.aload_n 1, 1) := by decide +kernel
theorem dL_law_1350 : decode cL_law 1350 = .ok (.aload_n 0, 1) := by decide +kernel
theorem dL_law_1351 : decode cL_law 1351 = .ok (.iload 4, 2) := by decide +kernel
theorem dL_law_1353 : decode cL_law 1353 = .ok (.iconst 1, 1) := by decide +kernel
theorem dL_law_1354 : decode cL_law 1354 = .ok (.iadd, 1) := by decide +kernel
theorem dL_law_1355 : decode cL_law 1355 = .ok (.iaload, 1) := by decide +kernel
theorem dL_law_1356 : decode cL_law 1356 = .ok (.aload_n 0, 1) := by decide +kernel
theorem dL_law_1357 : decode cL_law 1357 = .ok (.iload 4, 2) := by decide +kernel
theorem dL_law_1359 : decode cL_law 1359 = .ok (.iconst 2, 1) := by decide +kernel
theorem dL_law_1360 : decode cL_law 1360 = .ok (.iadd, 1) := by decide +kernel
theorem dL_law_1361 : decode cL_law 1361 = .ok (.iaload, 1) := by decide +kernel
theorem dL_law_1362 : decode cL_law 1362 = .ok (.aload_n 3, 1) := by decide +kernel
theorem dL_law_1363 : decode cL_law 1363 = .ok (.invokestatic 153, 3) := by decide +kernel
theorem dL_law_1366 : decode cL_law 1366 = .ok (.istore 5, 2) := by decide +kernel
theorem dL_law_1368 : decode cL_law 1368 = .ok (.aload_n 2, 1) := by decide +kernel
theorem dL_law_1369 : decode cL_law 1369 = .ok (.aload_n 0, 1) := by decide +kernel
theorem dL_law_1370 : decode cL_law 1370 = .ok (.iload 4, 2) := by decide +kernel
theorem dL_law_1372 : decode cL_law 1372 = .ok (.iconst 1, 1) := by decide +kernel
theorem dL_law_1373 : decode cL_law 1373 = .ok (.iadd, 1) := by decide +kernel
theorem dL_law_1374 : decode cL_law 1374 = .ok (.iaload, 1) := by decide +kernel
theorem dL_law_1375 : decode cL_law 1375 = .ok (.aload_n 0, 1) := by decide +kernel
theorem dL_law_1376 : decode cL_law 1376 = .ok (.iload 4, 2) := by decide +kernel
theorem dL_law_1378 : decode cL_law 1378 = .ok (.iconst 2, 1) := by decide +kernel
theorem dL_law_1379 : decode cL_law 1379 = .ok (.iadd, 1) := by decide +kernel
theorem dL_law_1380 : decode cL_law 1380 = .ok (.iaload, 1) := by decide +kernel
theorem dL_law_1381 : decode cL_law 1381 = .ok (.invokevirtual 155, 3) := by decide +kernel
theorem dL_law_1384 : decode cL_law 1384 = .ok (.istore 6, 2) := by decide +kernel
theorem dL_law_1386 : decode cL_law 1386 = .ok (.aload_n 2, 1) := by decide +kernel
theorem dL_law_1387 : decode cL_law 1387 = .ok (.invokevirtual 97, 3) := by decide +kernel
theorem dL_law_1390 : decode cL_law 1390 = .ok (.iload 5, 2) := by decide +kernel
theorem dL_law_1392 : decode cL_law 1392 = .ok (.if_icmp .eq 5, 3) := by decide +kernel
theorem dL_law_1395 : decode cL_law 1395 = .ok (.iconst 0, 1) := by decide +kernel
theorem dL_law_1396 : decode cL_law 1396 = .ok (.ireturn, 1) := by decide +kernel
theorem dL_law_1397 : decode cL_law 1397 = .ok (.iload 5, 2) := by decide +kernel
theorem dL_law_1399 : decode cL_law 1399 = .ok (.ifCond .ne 15, 3) := by decide +kernel
theorem dL_law_1402 : decode cL_law 1402 = .ok (.aload_n 3, 1) := by decide +kernel
theorem dL_law_1403 : decode cL_law 1403 = .ok (.iconst 0, 1) := by decide +kernel
theorem dL_law_1404 : decode cL_law 1404 = .ok (.laload, 1) := by decide +kernel
theorem dL_law_1405 : decode cL_law 1405 = .ok (.iload 6, 2) := by decide +kernel
theorem dL_law_1407 : decode cL_law 1407 = .ok (.i2l, 1) := by decide +kernel
theorem dL_law_1408 : decode cL_law 1408 = .ok (.lcmp, 1) := by decide +kernel
theorem dL_law_1409 : decode cL_law 1409 = .ok (.ifCond .eq 5, 3) := by decide +kernel
theorem dL_law_1412 : decode cL_law 1412 = .ok (.iconst 0, 1) := by decide +kernel
theorem dL_law_1413 : decode cL_law 1413 = .ok (.ireturn, 1) := by decide +kernel
theorem dL_law_1414 : decode cL_law 1414 = .ok (.goto 301, 3) := by decide +kernel
theorem dL_law_1417 : decode cL_law 1417 = .ok (.aload_n 1, 1) := by decide +kernel
theorem dL_law_1418 : decode cL_law 1418 = .ok (.aload_n 0, 1) := by decide +kernel
theorem dL_law_1419 : decode cL_law 1419 = .ok (.iload 4, 2) := by decide +kernel
theorem dL_law_1421 : decode cL_law 1421 = .ok (.iconst 1, 1) := by decide +kernel
theorem dL_law_1422 : decode cL_law 1422 = .ok (.iadd, 1) := by decide +kernel
theorem dL_law_1423 : decode cL_law 1423 = .ok (.iaload, 1) := by decide +kernel
theorem dL_law_1424 : decode cL_law 1424 = .ok (.aload_n 0, 1) := by decide +kernel
theorem dL_law_1425 : decode cL_law 1425 = .ok (.iload 4, 2) := by decide +kernel
theorem dL_law_1427 : decode cL_law 1427 = .ok (.iconst 2, 1) := by decide +kernel
theorem dL_law_1428 : decode cL_law 1428 = .ok (.iadd, 1) := by decide +kernel
theorem dL_law_1429 : decode cL_law 1429 = .ok (.iaload, 1) := by decide +kernel
theorem dL_law_1430 : decode cL_law 1430 = .ok (.aload_n 3, 1) := by decide +kernel
theorem dL_law_1431 : decode cL_law 1431 = .ok (.invokestatic 156, 3) := by decide +kernel
theorem dL_law_1434 : decode cL_law 1434 = .ok (.istore 5, 2) := by decide +kernel
theorem dL_law_1436 : decode cL_law 1436 = .ok (.aload_n 2, 1) := by decide +kernel
theorem dL_law_1437 : decode cL_law 1437 = .ok (.aload_n 0, 1) := by decide +kernel
theorem dL_law_1438 : decode cL_law 1438 = .ok (.iload 4, 2) := by decide +kernel
theorem dL_law_1440 : decode cL_law 1440 = .ok (.iconst 1, 1) := by decide +kernel
theorem dL_law_1441 : decode cL_law 1441 = .ok (.iadd, 1) := by decide +kernel
theorem dL_law_1442 : decode cL_law 1442 = .ok (.iaload, 1) := by decide +kernel
theorem dL_law_1443 : decode cL_law 1443 = .ok (.aload_n 0, 1) := by decide +kernel
theorem dL_law_1444 : decode cL_law 1444 = .ok (.iload 4, 2) := by decide +kernel
theorem dL_law_1446 : decode cL_law 1446 = .ok (.iconst 2, 1) := by decide +kernel
theorem dL_law_1447 : decode cL_law 1447 = .ok (.iadd, 1) := by decide +kernel
theorem dL_law_1448 : decode cL_law 1448 = .ok (.iaload, 1) := by decide +kernel
theorem dL_law_1449 : decode cL_law 1449 = .ok (.invokevirtual 158, 3) := by decide +kernel
theorem dL_law_1452 : decode cL_law 1452 = .ok (.istore 6, 2) := by decide +kernel
theorem dL_law_1454 : decode cL_law 1454 = .ok (.aload_n 2, 1) := by decide +kernel
theorem dL_law_1455 : decode cL_law 1455 = .ok (.invokevirtual 97, 3) := by decide +kernel
theorem dL_law_1458 : decode cL_law 1458 = .ok (.iload 5, 2) := by decide +kernel
theorem dL_law_1460 : decode cL_law 1460 = .ok (.if_icmp .eq 5, 3) := by decide +kernel
theorem dL_law_1463 : decode cL_law 1463 = .ok (.iconst 0, 1) := by decide +kernel
theorem dL_law_1464 : decode cL_law 1464 = .ok (.ireturn, 1) := by decide +kernel
theorem dL_law_1465 : decode cL_law 1465 = .ok (.iload 5, 2) := by decide +kernel
theorem dL_law_1467 : decode cL_law 1467 = .ok (.ifCond .ne 15, 3) := by decide +kernel
theorem dL_law_1470 : decode cL_law 1470 = .ok (.aload_n 3, 1) := by decide +kernel
theorem dL_law_1471 : decode cL_law 1471 = .ok (.iconst 0, 1) := by decide +kernel
theorem dL_law_1472 : decode cL_law 1472 = .ok (.laload, 1) := by decide +kernel
theorem dL_law_1473 : decode cL_law 1473 = .ok (.iload 6, 2) := by decide +kernel
theorem dL_law_1475 : decode cL_law 1475 = .ok (.i2l, 1) := by decide +kernel
theorem dL_law_1476 : decode cL_law 1476 = .ok (.lcmp, 1) := by decide +kernel
theorem dL_law_1477 : decode cL_law 1477 = .ok (.ifCond .eq 5, 3) := by decide +kernel
theorem dL_law_1480 : decode cL_law 1480 = .ok (.iconst 0, 1) := by decide +kernel
theorem dL_law_1481 : decode cL_law 1481 = .ok (.ireturn, 1) := by decide +kernel
theorem dL_law_1482 : decode cL_law 1482 = .ok (.goto 233, 3) := by decide +kernel
theorem dL_law_1485 : decode cL_law 1485 = .ok (.aload_n 1, 1) := by decide +kernel
theorem dL_law_1486 : decode cL_law 1486 = .ok (.aload_n 0, 1) := by decide +kernel
theorem dL_law_1487 : decode cL_law 1487 = .ok (.iload 4, 2) := by decide +kernel
theorem dL_law_1489 : decode cL_law 1489 = .ok (.iconst 1, 1) := by decide +kernel
theorem dL_law_1490 : decode cL_law 1490 = .ok (.iadd, 1) := by decide +kernel
theorem dL_law_1491 : decode cL_law 1491 = .ok (.iaload, 1) := by decide +kernel
theorem dL_law_1492 : decode cL_law 1492 = .ok (.aload_n 0, 1) := by decide +kernel
theorem dL_law_1493 : decode cL_law 1493 = .ok (.iload 4, 2) := by decide +kernel
theorem dL_law_1495 : decode cL_law 1495 = .ok (.iconst 2, 1) := by decide +kernel
theorem dL_law_1496 : decode cL_law 1496 = .ok (.iadd, 1) := by decide +kernel
theorem dL_law_1497 : decode cL_law 1497 = .ok (.iaload, 1) := by decide +kernel
theorem dL_law_1498 : decode cL_law 1498 = .ok (.aload_n 3, 1) := by decide +kernel
theorem dL_law_1499 : decode cL_law 1499 = .ok (.invokestatic 159, 3) := by decide +kernel
theorem dL_law_1502 : decode cL_law 1502 = .ok (.istore 5, 2) := by decide +kernel
theorem dL_law_1504 : decode cL_law 1504 = .ok (.aload_n 2, 1) := by decide +kernel
theorem dL_law_1505 : decode cL_law 1505 = .ok (.aload_n 0, 1) := by decide +kernel
theorem dL_law_1506 : decode cL_law 1506 = .ok (.iload 4, 2) := by decide +kernel
theorem dL_law_1508 : decode cL_law 1508 = .ok (.iconst 1, 1) := by decide +kernel
theorem dL_law_1509 : decode cL_law 1509 = .ok (.iadd, 1) := by decide +kernel
theorem dL_law_1510 : decode cL_law 1510 = .ok (.iaload, 1) := by decide +kernel
theorem dL_law_1511 : decode cL_law 1511 = .ok (.aload_n 0, 1) := by decide +kernel
theorem dL_law_1512 : decode cL_law 1512 = .ok (.iload 4, 2) := by decide +kernel
theorem dL_law_1514 : decode cL_law 1514 = .ok (.iconst 2, 1) := by decide +kernel
theorem dL_law_1515 : decode cL_law 1515 = .ok (.iadd, 1) := by decide +kernel
theorem dL_law_1516 : decode cL_law 1516 = .ok (.iaload, 1) := by decide +kernel
theorem dL_law_1517 : decode cL_law 1517 = .ok (.invokevirtual 161, 3) := by decide +kernel
theorem dL_law_1520 : decode cL_law 1520 = .ok (.istore 6, 2) := by decide +kernel
theorem dL_law_1522 : decode cL_law 1522 = .ok (.aload_n 2, 1) := by decide +kernel
theorem dL_law_1523 : decode cL_law 1523 = .ok (.invokevirtual 97, 3) := by decide +kernel
theorem dL_law_1526 : decode cL_law 1526 = .ok (.iload 5, 2) := by decide +kernel
theorem dL_law_1528 : decode cL_law 1528 = .ok (.if_icmp .eq 5, 3) := by decide +kernel
theorem dL_law_1531 : decode cL_law 1531 = .ok (.iconst 0, 1) := by decide +kernel
theorem dL_law_1532 : decode cL_law 1532 = .ok (.ireturn, 1) := by decide +kernel
theorem dL_law_1533 : decode cL_law 1533 = .ok (.iload 5, 2) := by decide +kernel
theorem dL_law_1535 : decode cL_law 1535 = .ok (.ifCond .ne 15, 3) := by decide +kernel
theorem dL_law_1538 : decode cL_law 1538 = .ok (.aload_n 3, 1) := by decide +kernel
theorem dL_law_1539 : decode cL_law 1539 = .ok (.iconst 0, 1) := by decide +kernel
theorem dL_law_1540 : decode cL_law 1540 = .ok (.laload, 1) := by decide +kernel
theorem dL_law_1541 : decode cL_law 1541 = .ok (.iload 6, 2) := by decide +kernel
theorem dL_law_1543 : decode cL_law 1543 = .ok (.i2l, 1) := by decide +kernel
theorem dL_law_1544 : decode cL_law 1544 = .ok (.lcmp, 1) := by decide +kernel
theorem dL_law_1545 : decode cL_law 1545 = .ok (.ifCond .eq 5, 3) := by decide +kernel
theorem dL_law_1548 : decode cL_law 1548 = .ok (.iconst 0, 1) := by decide +kernel
theorem dL_law_1549 : decode cL_law 1549 = .ok (.ireturn, 1) := by decide +kernel
theorem dL_law_1550 : decode cL_law 1550 = .ok (.goto 165, 3) := by decide +kernel
theorem dL_law_1553 : decode cL_law 1553 = .ok (.aload_n 1, 1) := by decide +kernel
theorem dL_law_1554 : decode cL_law 1554 = .ok (.invokevirtual 162, 3) := by decide +kernel
theorem dL_law_1557 : decode cL_law 1557 = .ok (.aload_n 2, 1) := by decide +kernel
theorem dL_law_1558 : decode cL_law 1558 = .ok (.invokevirtual 165, 3) := by decide +kernel
theorem dL_law_1561 : decode cL_law 1561 = .ok (.if_icmp .eq 154, 3) := by decide +kernel
theorem dL_law_1564 : decode cL_law 1564 = .ok (.iconst 0, 1) := by decide +kernel
theorem dL_law_1565 : decode cL_law 1565 = .ok (.ireturn, 1) := by decide +kernel
theorem dL_law_1566 : decode cL_law 1566 = .ok (.aload_n 1, 1) := by decide +kernel
theorem dL_law_1567 : decode cL_law 1567 = .ok (.invokevirtual 166, 3) := by decide +kernel
theorem dL_law_1570 : decode cL_law 1570 = .ok (.aload_n 2, 1) := by decide +kernel
theorem dL_law_1571 : decode cL_law 1571 = .ok (.invokevirtual 169, 3) := by decide +kernel
theorem dL_law_1574 : decode cL_law 1574 = .ok (.if_icmp .eq 141, 3) := by decide +kernel
theorem dL_law_1577 : decode cL_law 1577 = .ok (.iconst 0, 1) := by decide +kernel
theorem dL_law_1578 : decode cL_law 1578 = .ok (.ireturn, 1) := by decide +kernel
theorem dL_law_1579 : decode cL_law 1579 = .ok (.aload_n 1, 1) := by decide +kernel
theorem dL_law_1580 : decode cL_law 1580 = .ok (.aload_n 0, 1) := by decide +kernel
theorem dL_law_1581 : decode cL_law 1581 = .ok (.iload 4, 2) := by decide +kernel
theorem dL_law_1583 : decode cL_law 1583 = .ok (.iconst 1, 1) := by decide +kernel
theorem dL_law_1584 : decode cL_law 1584 = .ok (.iadd, 1) := by decide +kernel
theorem dL_law_1585 : decode cL_law 1585 = .ok (.iaload, 1) := by decide +kernel
theorem dL_law_1586 : decode cL_law 1586 = .ok (.aload_n 0, 1) := by decide +kernel
theorem dL_law_1587 : decode cL_law 1587 = .ok (.iload 4, 2) := by decide +kernel
theorem dL_law_1589 : decode cL_law 1589 = .ok (.iconst 2, 1) := by decide +kernel
theorem dL_law_1590 : decode cL_law 1590 = .ok (.iadd, 1) := by decide +kernel
theorem dL_law_1591 : decode cL_law 1591 = .ok (.iaload, 1) := by decide +kernel
theorem dL_law_1592 : decode cL_law 1592 = .ok (.aload_n 3, 1) := by decide +kernel
theorem dL_law_1593 : decode cL_law 1593 = .ok (.invokestatic 170, 3) := by decide +kernel
theorem dL_law_1596 : decode cL_law 1596 = .ok (.istore 5, 2) := by decide +kernel
theorem dL_law_1598 : decode cL_law 1598 = .ok (.aload_n 2, 1) := by decide +kernel
theorem dL_law_1599 : decode cL_law 1599 = .ok (.aload_n 0, 1) := by decide +kernel
theorem dL_law_1600 : decode cL_law 1600 = .ok (.iload 4, 2) := by decide +kernel
theorem dL_law_1602 : decode cL_law 1602 = .ok (.iconst 1, 1) := by decide +kernel
theorem dL_law_1603 : decode cL_law 1603 = .ok (.iadd, 1) := by decide +kernel
theorem dL_law_1604 : decode cL_law 1604 = .ok (.iaload, 1) := by decide +kernel
theorem dL_law_1605 : decode cL_law 1605 = .ok (.aload_n 0, 1) := by decide +kernel
theorem dL_law_1606 : decode cL_law 1606 = .ok (.iload 4, 2) := by decide +kernel
theorem dL_law_1608 : decode cL_law 1608 = .ok (.iconst 2, 1) := by decide +kernel
theorem dL_law_1609 : decode cL_law 1609 = .ok (.iadd, 1) := by decide +kernel
theorem dL_law_1610 : decode cL_law 1610 = .ok (.iaload, 1) := by decide +kernel
theorem dL_law_1611 : decode cL_law 1611 = .ok (.invokevirtual 172, 3) := by decide +kernel
theorem dL_law_1614 : decode cL_law 1614 = .ok (.istore 6, 2) := by decide +kernel
theorem dL_law_1616 : decode cL_law 1616 = .ok (.aload_n 2, 1) := by decide +kernel
theorem dL_law_1617 : decode cL_law 1617 = .ok (.invokevirtual 97, 3) := by decide +kernel
theorem dL_law_1620 : decode cL_law 1620 = .ok (.iload 5, 2) := by decide +kernel
theorem dL_law_1622 : decode cL_law 1622 = .ok (.if_icmp .eq 5, 3) := by decide +kernel
theorem dL_law_1625 : decode cL_law 1625 = .ok (.iconst 0, 1) := by decide +kernel
theorem dL_law_1626 : decode cL_law 1626 = .ok (.ireturn, 1) := by decide +kernel
theorem dL_law_1627 : decode cL_law 1627 = .ok (.iload 5, 2) := by decide +kernel
theorem dL_law_1629 : decode cL_law 1629 = .ok (.ifCond .ne 15, 3) := by decide +kernel
theorem dL_law_1632 : decode cL_law 1632 = .ok (.aload_n 3, 1) := by decide +kernel
theorem dL_law_1633 : decode cL_law 1633 = .ok (.iconst 0, 1) := by decide +kernel
theorem dL_law_1634 : decode cL_law 1634 = .ok (.laload, 1) := by decide +kernel
theorem dL_law_1635 : decode cL_law 1635 = .ok (.iload 6, 2) := by decide +kernel
theorem dL_law_1637 : decode cL_law 1637 = .ok (.i2l, 1) := by decide +kernel
theorem dL_law_1638 : decode cL_law 1638 = .ok (.lcmp, 1) := by decide +kernel
theorem dL_law_1639 : decode cL_law 1639 = .ok (.ifCond .eq 5, 3) := by decide +kernel
theorem dL_law_1642 : decode cL_law 1642 = .ok (.iconst 0, 1) := by decide +kernel
theorem dL_law_1643 : decode cL_law 1643 = .ok (.ireturn, 1) := by decide +kernel
theorem dL_law_1644 : decode cL_law 1644 = .ok (.goto 71, 3) := by decide +kernel
theorem dL_law_1647 : decode cL_law 1647 = .ok (.aload_n 1, 1) := by decide +kernel
theorem dL_law_1648 : decode cL_law 1648 = .ok (.aload_n 0, 1) := by decide +kernel
theorem dL_law_1649 : decode cL_law 1649 = .ok (.iload 4, 2) := by decide +kernel
theorem dL_law_1651 : decode cL_law 1651 = .ok (.iconst 1, 1) := by decide +kernel
theorem dL_law_1652 : decode cL_law 1652 = .ok (.iadd, 1) := by decide +kernel
theorem dL_law_1653 : decode cL_law 1653 = .ok (.iaload, 1) := by decide +kernel
theorem dL_law_1654 : decode cL_law 1654 = .ok (.aload_n 0, 1) := by decide +kernel
theorem dL_law_1655 : decode cL_law 1655 = .ok (.iload 4, 2) := by decide +kernel
theorem dL_law_1657 : decode cL_law 1657 = .ok (.iconst 2, 1) := by decide +kernel
theorem dL_law_1658 : decode cL_law 1658 = .ok (.iadd, 1) := by decide +kernel
theorem dL_law_1659 : decode cL_law 1659 = .ok (.iaload, 1) := by decide +kernel
theorem dL_law_1660 : decode cL_law 1660 = .ok (.aload_n 3, 1) := by decide +kernel
theorem dL_law_1661 : decode cL_law 1661 = .ok (.invokestatic 173, 3) := by decide +kernel
theorem dL_law_1664 : decode cL_law 1664 = .ok (.istore 5, 2) := by decide +kernel
theorem dL_law_1666 : decode cL_law 1666 = .ok (.aload_n 2, 1) := by decide +kernel
theorem dL_law_1667 : decode cL_law 1667 = .ok (.aload_n 0, 1) := by decide +kernel
theorem dL_law_1668 : decode cL_law 1668 = .ok (.iload 4, 2) := by decide +kernel
theorem dL_law_1670 : decode cL_law 1670 = .ok (.iconst 1, 1) := by decide +kernel
theorem dL_law_1671 : decode cL_law 1671 = .ok (.iadd, 1) := by decide +kernel
theorem dL_law_1672 : decode cL_law 1672 = .ok (.iaload, 1) := by decide +kernel
theorem dL_law_1673 : decode cL_law 1673 = .ok (.aload_n 0, 1) := by decide +kernel
theorem dL_law_1674 : decode cL_law 1674 = .ok (.iload 4, 2) := by decide +kernel
theorem dL_law_1676 : decode cL_law 1676 = .ok (.iconst 2, 1) := by decide +kernel
theorem dL_law_1677 : decode cL_law 1677 = .ok (.iadd, 1) := by decide +kernel
theorem dL_law_1678 : decode cL_law 1678 = .ok (.iaload, 1) := by decide +kernel
theorem dL_law_1679 : decode cL_law 1679 = .ok (.invokevirtual 175, 3) := by decide +kernel
theorem dL_law_1682 : decode cL_law 1682 = .ok (.istore 6, 2) := by decide +kernel
theorem dL_law_1684 : decode cL_law 1684 = .ok (.aload_n 2, 1) := by decide +kernel
theorem dL_law_1685 : decode cL_law 1685 = .ok (.invokevirtual 97, 3) := by decide +kernel
theorem dL_law_1688 : decode cL_law 1688 = .ok (.iload 5, 2) := by decide +kernel
theorem dL_law_1690 : decode cL_law 1690 = .ok (.if_icmp .eq 5, 3) := by decide +kernel
theorem dL_law_1693 : decode cL_law 1693 = .ok (.iconst 0, 1) := by decide +kernel
theorem dL_law_1694 : decode cL_law 1694 = .ok (.ireturn, 1) := by decide +kernel
theorem dL_law_1695 : decode cL_law 1695 = .ok (.iload 5, 2) := by decide +kernel
theorem dL_law_1697 : decode cL_law 1697 = .ok (.ifCond .ne 15, 3) := by decide +kernel
theorem dL_law_1700 : decode cL_law 1700 = .ok (.aload_n 3, 1) := by decide +kernel
theorem dL_law_1701 : decode cL_law 1701 = .ok (.iconst 0, 1) := by decide +kernel
theorem dL_law_1702 : decode cL_law 1702 = .ok (.laload, 1) := by decide +kernel
theorem dL_law_1703 : decode cL_law 1703 = .ok (.iload 6, 2) := by decide +kernel
theorem dL_law_1705 : decode cL_law 1705 = .ok (.i2l, 1) := by decide +kernel
theorem dL_law_1706 : decode cL_law 1706 = .ok (.lcmp, 1) := by decide +kernel
theorem dL_law_1707 : decode cL_law 1707 = .ok (.ifCond .eq 5, 3) := by decide +kernel
theorem dL_law_1710 : decode cL_law 1710 = .ok (.iconst 0, 1) := by decide +kernel
theorem dL_law_1711 : decode cL_law 1711 = .ok (.ireturn, 1) := by decide +kernel
theorem dL_law_1712 : decode cL_law 1712 = .ok (.goto 3, 3) := by decide +kernel
theorem dL_law_1715 : decode cL_law 1715 = .ok (.iinc 4 4, 3) := by decide +kernel
theorem dL_law_1718 : decode cL_law 1718 = .ok (.goto (-1695), 3) := by decide +kernel
theorem dL_law_1721 : decode cL_law 1721 = .ok (.iconst 1, 1) := by decide +kernel
theorem dL_law_1722 : decode cL_law 1722 = .ok (.ireturn, 1) := by decide +kernel
abbrev vwCl : List vw_C := [(RX0, TX0, 12), (RX1, TX1, 11)]
end
