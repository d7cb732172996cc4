section
-- ===== PART A: goes FIRST, ahead of the names: the tables' words, and 'selects' of the private methods out of them =====
/-- a private method of a class that the tables say can be made, by its rows of tables_1 -/
def lw_okq (q : MethodName × Nat) : Prop := (q.1.cls ≠ "java/lang/invoke/MethodHandle" ∧ q.1.cls ≠ "java/lang/invoke/VarHandle") ∧ Cond.instantiable q.1.cls q.2 ∈ tables_1 ∧ Cond.privateMethod q.1 ∈ tables_1 ∧ Cond.instanceMethod q.1 ∈ tables_1
theorem lw_p0 : lw_okq (⟨"java/lang/Throwable", "fillInStackTrace", "(I)Ljava/lang/Throwable;"⟩, 6) := ⟨⟨by decide +kernel, by decide +kernel⟩, List.mem_of_getElem? (i := 174) (by decide +kernel), List.mem_of_getElem? (i := 172) (by decide +kernel), List.mem_of_getElem? (i := 173) (by decide +kernel)⟩
theorem lw_p1 : lw_okq (⟨"java/util/ArrayList", "add", "(Ljava/lang/Object;[Ljava/lang/Object;I)V"⟩, 3) := ⟨⟨by decide +kernel, by decide +kernel⟩, List.mem_of_getElem? (i := 32) (by decide +kernel), List.mem_of_getElem? (i := 259) (by decide +kernel), List.mem_of_getElem? (i := 260) (by decide +kernel)⟩
theorem lw_p2 : lw_okq (⟨"java/util/ArrayList", "grow", "()[Ljava/lang/Object;"⟩, 3) := ⟨⟨by decide +kernel, by decide +kernel⟩, List.mem_of_getElem? (i := 32) (by decide +kernel), List.mem_of_getElem? (i := 263) (by decide +kernel), List.mem_of_getElem? (i := 264) (by decide +kernel)⟩
theorem lw_p3 : lw_okq (⟨"java/util/ArrayList", "grow", "(I)[Ljava/lang/Object;"⟩, 3) := ⟨⟨by decide +kernel, by decide +kernel⟩, List.mem_of_getElem? (i := 32) (by decide +kernel), List.mem_of_getElem? (i := 267) (by decide +kernel), List.mem_of_getElem? (i := 268) (by decide +kernel)⟩
theorem lw_p4 : lw_okq (⟨"RankStock", "rodeoAt", "(I)LRankStock$Rodeo;"⟩, 4) := ⟨⟨by decide +kernel, by decide +kernel⟩, List.mem_of_getElem? (i := 24) (by decide +kernel), List.mem_of_getElem? (i := 391) (by decide +kernel), List.mem_of_getElem? (i := 392) (by decide +kernel)⟩
theorem lw_p5 : lw_okq (⟨"RankStock", "entryAt", "(II)LRankStock$Entry;"⟩, 4) := ⟨⟨by decide +kernel, by decide +kernel⟩, List.mem_of_getElem? (i := 24) (by decide +kernel), List.mem_of_getElem? (i := 421) (by decide +kernel), List.mem_of_getElem? (i := 422) (by decide +kernel)⟩
theorem lw_p6 : lw_okq (⟨"RankStock", "checkRider", "(I)V"⟩, 4) := ⟨⟨by decide +kernel, by decide +kernel⟩, List.mem_of_getElem? (i := 24) (by decide +kernel), List.mem_of_getElem? (i := 425) (by decide +kernel), List.mem_of_getElem? (i := 426) (by decide +kernel)⟩
theorem lw_p7 : lw_okq (⟨"RankStock", "performanceFor", "(LRankStock$Rodeo;LRankStock$Entry;)I"⟩, 4) := ⟨⟨by decide +kernel, by decide +kernel⟩, List.mem_of_getElem? (i := 24) (by decide +kernel), List.mem_of_getElem? (i := 509) (by decide +kernel), List.mem_of_getElem? (i := 510) (by decide +kernel)⟩
theorem lw_p8 : lw_okq (⟨"RankStock", "canBePlaced", "(LRankStock$Rodeo;II)Z"⟩, 4) := ⟨⟨by decide +kernel, by decide +kernel⟩, List.mem_of_getElem? (i := 24) (by decide +kernel), List.mem_of_getElem? (i := 513) (by decide +kernel), List.mem_of_getElem? (i := 514) (by decide +kernel)⟩
theorem lw_p9 : lw_okq (⟨"RankStock", "canGet", "(LRankStock$Rodeo;II)Z"⟩, 4) := ⟨⟨by decide +kernel, by decide +kernel⟩, List.mem_of_getElem? (i := 24) (by decide +kernel), List.mem_of_getElem? (i := 518) (by decide +kernel), List.mem_of_getElem? (i := 519) (by decide +kernel)⟩
theorem lw_p10 : lw_okq (⟨"RankStock", "countWithWaysOutside", "(LRankStock$Rodeo;I)I"⟩, 4) := ⟨⟨by decide +kernel, by decide +kernel⟩, List.mem_of_getElem? (i := 24) (by decide +kernel), List.mem_of_getElem? (i := 553) (by decide +kernel), List.mem_of_getElem? (i := 554) (by decide +kernel)⟩
theorem lw_p11 : lw_okq (⟨"RankStock", "hasWayOutside", "(LRankStock$Rodeo;LRankStock$Entry;I)Z"⟩, 4) := ⟨⟨by decide +kernel, by decide +kernel⟩, List.mem_of_getElem? (i := 24) (by decide +kernel), List.mem_of_getElem? (i := 557) (by decide +kernel), List.mem_of_getElem? (i := 558) (by decide +kernel)⟩
theorem lw_p12 : lw_okq (⟨"RankStock", "mountAll", "(LRankStock$Rodeo;I)I"⟩, 4) := ⟨⟨by decide +kernel, by decide +kernel⟩, List.mem_of_getElem? (i := 24) (by decide +kernel), List.mem_of_getElem? (i := 579) (by decide +kernel), List.mem_of_getElem? (i := 580) (by decide +kernel)⟩
theorem lw_p13 : lw_okq (⟨"RankStock", "mount", "(LRankStock$Rodeo;LRankStock$Entry;)V"⟩, 4) := ⟨⟨by decide +kernel, by decide +kernel⟩, List.mem_of_getElem? (i := 24) (by decide +kernel), List.mem_of_getElem? (i := 583) (by decide +kernel), List.mem_of_getElem? (i := 584) (by decide +kernel)⟩
theorem lw_p14 : lw_okq (⟨"RankStock", "drawBeast", "(II)LRankStock$Beast;"⟩, 4) := ⟨⟨by decide +kernel, by decide +kernel⟩, List.mem_of_getElem? (i := 24) (by decide +kernel), List.mem_of_getElem? (i := 587) (by decide +kernel), List.mem_of_getElem? (i := 588) (by decide +kernel)⟩
theorem lw_p15 : lw_okq (⟨"RankStock", "countDrawable", "(II)I"⟩, 4) := ⟨⟨by decide +kernel, by decide +kernel⟩, List.mem_of_getElem? (i := 24) (by decide +kernel), List.mem_of_getElem? (i := 591) (by decide +kernel), List.mem_of_getElem? (i := 592) (by decide +kernel)⟩
def lw_privs_1 : List (MethodName × Nat) := [(⟨"java/lang/Throwable", "fillInStackTrace", "(I)Ljava/lang/Throwable;"⟩, 6), (⟨"java/util/ArrayList", "add", "(Ljava/lang/Object;[Ljava/lang/Object;I)V"⟩, 3), (⟨"java/util/ArrayList", "grow", "()[Ljava/lang/Object;"⟩, 3), (⟨"java/util/ArrayList", "grow", "(I)[Ljava/lang/Object;"⟩, 3), (⟨"RankStock", "rodeoAt", "(I)LRankStock$Rodeo;"⟩, 4), (⟨"RankStock", "entryAt", "(II)LRankStock$Entry;"⟩, 4), (⟨"RankStock", "checkRider", "(I)V"⟩, 4), (⟨"RankStock", "performanceFor", "(LRankStock$Rodeo;LRankStock$Entry;)I"⟩, 4), (⟨"RankStock", "canBePlaced", "(LRankStock$Rodeo;II)Z"⟩, 4), (⟨"RankStock", "canGet", "(LRankStock$Rodeo;II)Z"⟩, 4), (⟨"RankStock", "countWithWaysOutside", "(LRankStock$Rodeo;I)I"⟩, 4), (⟨"RankStock", "hasWayOutside", "(LRankStock$Rodeo;LRankStock$Entry;I)Z"⟩, 4), (⟨"RankStock", "mountAll", "(LRankStock$Rodeo;I)I"⟩, 4), (⟨"RankStock", "mount", "(LRankStock$Rodeo;LRankStock$Entry;)V"⟩, 4), (⟨"RankStock", "drawBeast", "(II)LRankStock$Beast;"⟩, 4), (⟨"RankStock", "countDrawable", "(II)I"⟩, 4)]
theorem lw_r1 : ∀ q ∈ lw_privs_1, lw_okq q := List.forall_mem_cons.mpr ⟨lw_p0, List.forall_mem_cons.mpr ⟨lw_p1, List.forall_mem_cons.mpr ⟨lw_p2, List.forall_mem_cons.mpr ⟨lw_p3, List.forall_mem_cons.mpr ⟨lw_p4, List.forall_mem_cons.mpr ⟨lw_p5, List.forall_mem_cons.mpr ⟨lw_p6, List.forall_mem_cons.mpr ⟨lw_p7, List.forall_mem_cons.mpr ⟨lw_p8, List.forall_mem_cons.mpr ⟨lw_p9, List.forall_mem_cons.mpr ⟨lw_p10, List.forall_mem_cons.mpr ⟨lw_p11, List.forall_mem_cons.mpr ⟨lw_p12, List.forall_mem_cons.mpr ⟨lw_p13, List.forall_mem_cons.mpr ⟨lw_p14, List.forall_mem_cons.mpr ⟨lw_p15, fun _ h => absurd h List.not_mem_nil⟩⟩⟩⟩⟩⟩⟩⟩⟩⟩⟩⟩⟩⟩⟩⟩
theorem lw_p16 : lw_okq (⟨"RankStock", "drawableAt", "(III)LRankStock$Beast;"⟩, 4) := ⟨⟨by decide +kernel, by decide +kernel⟩, List.mem_of_getElem? (i := 24) (by decide +kernel), List.mem_of_getElem? (i := 600) (by decide +kernel), List.mem_of_getElem? (i := 601) (by decide +kernel)⟩
theorem lw_p17 : lw_okq (⟨"RankStock", "rankOfBeast", "(LRankStock$Beast;)I"⟩, 4) := ⟨⟨by decide +kernel, by decide +kernel⟩, List.mem_of_getElem? (i := 24) (by decide +kernel), List.mem_of_getElem? (i := 671) (by decide +kernel), List.mem_of_getElem? (i := 672) (by decide +kernel)⟩
theorem lw_p18 : lw_okq (⟨"RankStock", "bestThreePays", "(I)I"⟩, 4) := ⟨⟨by decide +kernel, by decide +kernel⟩, List.mem_of_getElem? (i := 24) (by decide +kernel), List.mem_of_getElem? (i := 730) (by decide +kernel), List.mem_of_getElem? (i := 731) (by decide +kernel)⟩
theorem lw_p19 : lw_okq (⟨"RankStock", "moneyOf", "(LRankStock$Rodeo;I)I"⟩, 4) := ⟨⟨by decide +kernel, by decide +kernel⟩, List.mem_of_getElem? (i := 24) (by decide +kernel), List.mem_of_getElem? (i := 734) (by decide +kernel), List.mem_of_getElem? (i := 735) (by decide +kernel)⟩
theorem lw_p20 : lw_okq (⟨"RankStock", "rankOfRider", "(I)I"⟩, 4) := ⟨⟨by decide +kernel, by decide +kernel⟩, List.mem_of_getElem? (i := 24) (by decide +kernel), List.mem_of_getElem? (i := 746) (by decide +kernel), List.mem_of_getElem? (i := 747) (by decide +kernel)⟩
theorem lw_p21 : lw_okq (⟨"RankStock", "isRiderAhead", "(II)Z"⟩, 4) := ⟨⟨by decide +kernel, by decide +kernel⟩, List.mem_of_getElem? (i := 24) (by decide +kernel), List.mem_of_getElem? (i := 750) (by decide +kernel), List.mem_of_getElem? (i := 751) (by decide +kernel)⟩
theorem lw_p22 : lw_okq (⟨"RankStock", "allPays", "(I)I"⟩, 4) := ⟨⟨by decide +kernel, by decide +kernel⟩, List.mem_of_getElem? (i := 24) (by decide +kernel), List.mem_of_getElem? (i := 755) (by decide +kernel), List.mem_of_getElem? (i := 756) (by decide +kernel)⟩
theorem lw_p23 : lw_okq (⟨"RankStockModel", "holds", "(I)Z"⟩, 32) := ⟨⟨by decide +kernel, by decide +kernel⟩, List.mem_of_getElem? (i := 759) (by decide +kernel), List.mem_of_getElem? (i := 876) (by decide +kernel), List.mem_of_getElem? (i := 877) (by decide +kernel)⟩
theorem lw_p24 : lw_okq (⟨"RankStockModel", "isRodeo", "(I)Z"⟩, 32) := ⟨⟨by decide +kernel, by decide +kernel⟩, List.mem_of_getElem? (i := 759) (by decide +kernel), List.mem_of_getElem? (i := 896) (by decide +kernel), List.mem_of_getElem? (i := 897) (by decide +kernel)⟩
theorem lw_p25 : lw_okq (⟨"RankStockModel", "tells", "(II)I"⟩, 32) := ⟨⟨by decide +kernel, by decide +kernel⟩, List.mem_of_getElem? (i := 759) (by decide +kernel), List.mem_of_getElem? (i := 900) (by decide +kernel), List.mem_of_getElem? (i := 901) (by decide +kernel)⟩
theorem lw_p26 : lw_okq (⟨"RankStockModel", "placedIn", "(I)I"⟩, 32) := ⟨⟨by decide +kernel, by decide +kernel⟩, List.mem_of_getElem? (i := 759) (by decide +kernel), List.mem_of_getElem? (i := 904) (by decide +kernel), List.mem_of_getElem? (i := 905) (by decide +kernel)⟩
theorem lw_p27 : lw_okq (⟨"RankStockModel", "pot", "(I)I"⟩, 32) := ⟨⟨by decide +kernel, by decide +kernel⟩, List.mem_of_getElem? (i := 759) (by decide +kernel), List.mem_of_getElem? (i := 908) (by decide +kernel), List.mem_of_getElem? (i := 909) (by decide +kernel)⟩
theorem lw_p28 : lw_okq (⟨"RankStockModel", "isRider", "(I)Z"⟩, 32) := ⟨⟨by decide +kernel, by decide +kernel⟩, List.mem_of_getElem? (i := 759) (by decide +kernel), List.mem_of_getElem? (i := 916) (by decide +kernel), List.mem_of_getElem? (i := 917) (by decide +kernel)⟩
theorem lw_p29 : lw_okq (⟨"RankStockModel", "hasEntered", "(II)Z"⟩, 32) := ⟨⟨by decide +kernel, by decide +kernel⟩, List.mem_of_getElem? (i := 759) (by decide +kernel), List.mem_of_getElem? (i := 920) (by decide +kernel), List.mem_of_getElem? (i := 921) (by decide +kernel)⟩
theorem lw_p30 : lw_okq (⟨"RankStockModel", "places", "(II)V"⟩, 32) := ⟨⟨by decide +kernel, by decide +kernel⟩, List.mem_of_getElem? (i := 759) (by decide +kernel), List.mem_of_getElem? (i := 928) (by decide +kernel), List.mem_of_getElem? (i := 929) (by decide +kernel)⟩
theorem lw_p31 : lw_okq (⟨"RankStockModel", "fits", "(III)Z"⟩, 32) := ⟨⟨by decide +kernel, by decide +kernel⟩, List.mem_of_getElem? (i := 759) (by decide +kernel), List.mem_of_getElem? (i := 932) (by decide +kernel), List.mem_of_getElem? (i := 933) (by decide +kernel)⟩
def lw_privs_2 : List (MethodName × Nat) := [(⟨"RankStock", "drawableAt", "(III)LRankStock$Beast;"⟩, 4), (⟨"RankStock", "rankOfBeast", "(LRankStock$Beast;)I"⟩, 4), (⟨"RankStock", "bestThreePays", "(I)I"⟩, 4), (⟨"RankStock", "moneyOf", "(LRankStock$Rodeo;I)I"⟩, 4), (⟨"RankStock", "rankOfRider", "(I)I"⟩, 4), (⟨"RankStock", "isRiderAhead", "(II)Z"⟩, 4), (⟨"RankStock", "allPays", "(I)I"⟩, 4), (⟨"RankStockModel", "holds", "(I)Z"⟩, 32), (⟨"RankStockModel", "isRodeo", "(I)Z"⟩, 32), (⟨"RankStockModel", "tells", "(II)I"⟩, 32), (⟨"RankStockModel", "placedIn", "(I)I"⟩, 32), (⟨"RankStockModel", "pot", "(I)I"⟩, 32), (⟨"RankStockModel", "isRider", "(I)Z"⟩, 32), (⟨"RankStockModel", "hasEntered", "(II)Z"⟩, 32), (⟨"RankStockModel", "places", "(II)V"⟩, 32), (⟨"RankStockModel", "fits", "(III)Z"⟩, 32)]
theorem lw_r2 : ∀ q ∈ lw_privs_2, lw_okq q := List.forall_mem_cons.mpr ⟨lw_p16, List.forall_mem_cons.mpr ⟨lw_p17, List.forall_mem_cons.mpr ⟨lw_p18, List.forall_mem_cons.mpr ⟨lw_p19, List.forall_mem_cons.mpr ⟨lw_p20, List.forall_mem_cons.mpr ⟨lw_p21, List.forall_mem_cons.mpr ⟨lw_p22, List.forall_mem_cons.mpr ⟨lw_p23, List.forall_mem_cons.mpr ⟨lw_p24, List.forall_mem_cons.mpr ⟨lw_p25, List.forall_mem_cons.mpr ⟨lw_p26, List.forall_mem_cons.mpr ⟨lw_p27, List.forall_mem_cons.mpr ⟨lw_p28, List.forall_mem_cons.mpr ⟨lw_p29, List.forall_mem_cons.mpr ⟨lw_p30, List.forall_mem_cons.mpr ⟨lw_p31, fun _ h => absurd h List.not_mem_nil⟩⟩⟩⟩⟩⟩⟩⟩⟩⟩⟩⟩⟩⟩⟩⟩
theorem lw_p32 : lw_okq (⟨"RankStockModel", "taken", "(II)I"⟩, 32) := ⟨⟨by decide +kernel, by decide +kernel⟩, List.mem_of_getElem? (i := 759) (by decide +kernel), List.mem_of_getElem? (i := 936) (by decide +kernel), List.mem_of_getElem? (i := 937) (by decide +kernel)⟩
theorem lw_p33 : lw_okq (⟨"RankStockModel", "gets", "(III)Z"⟩, 32) := ⟨⟨by decide +kernel, by decide +kernel⟩, List.mem_of_getElem? (i := 759) (by decide +kernel), List.mem_of_getElem? (i := 940) (by decide +kernel), List.mem_of_getElem? (i := 941) (by decide +kernel)⟩
theorem lw_p34 : lw_okq (⟨"RankStockModel", "greatest", "(I)I"⟩, 32) := ⟨⟨by decide +kernel, by decide +kernel⟩, List.mem_of_getElem? (i := 759) (by decide +kernel), List.mem_of_getElem? (i := 955) (by decide +kernel), List.mem_of_getElem? (i := 956) (by decide +kernel)⟩
theorem lw_p35 : lw_okq (⟨"RankStockModel", "drawn", "(I)I"⟩, 32) := ⟨⟨by decide +kernel, by decide +kernel⟩, List.mem_of_getElem? (i := 759) (by decide +kernel), List.mem_of_getElem? (i := 971) (by decide +kernel), List.mem_of_getElem? (i := 972) (by decide +kernel)⟩
theorem lw_p36 : lw_okq (⟨"RankStockModel", "drawsFor", "(II)V"⟩, 32) := ⟨⟨by decide +kernel, by decide +kernel⟩, List.mem_of_getElem? (i := 759) (by decide +kernel), List.mem_of_getElem? (i := 975) (by decide +kernel), List.mem_of_getElem? (i := 976) (by decide +kernel)⟩
theorem lw_p37 : lw_okq (⟨"RankStockModel", "canBeDrawn", "(III)Z"⟩, 32) := ⟨⟨by decide +kernel, by decide +kernel⟩, List.mem_of_getElem? (i := 759) (by decide +kernel), List.mem_of_getElem? (i := 979) (by decide +kernel), List.mem_of_getElem? (i := 980) (by decide +kernel)⟩
theorem lw_p38 : lw_okq (⟨"RankStockModel", "rides", "(IIIZ)I"⟩, 32) := ⟨⟨by decide +kernel, by decide +kernel⟩, List.mem_of_getElem? (i := 759) (by decide +kernel), List.mem_of_getElem? (i := 994) (by decide +kernel), List.mem_of_getElem? (i := 995) (by decide +kernel)⟩
theorem lw_p39 : lw_okq (⟨"RankStockModel", "answered", "(IIZ)I"⟩, 32) := ⟨⟨by decide +kernel, by decide +kernel⟩, List.mem_of_getElem? (i := 759) (by decide +kernel), List.mem_of_getElem? (i := 1006) (by decide +kernel), List.mem_of_getElem? (i := 1007) (by decide +kernel)⟩
theorem lw_p40 : lw_okq (⟨"RankStockModel", "isBeast", "(I)Z"⟩, 32) := ⟨⟨by decide +kernel, by decide +kernel⟩, List.mem_of_getElem? (i := 759) (by decide +kernel), List.mem_of_getElem? (i := 1018) (by decide +kernel), List.mem_of_getElem? (i := 1019) (by decide +kernel)⟩
theorem lw_p41 : lw_okq (⟨"RankStockModel", "told", "(II)I"⟩, 32) := ⟨⟨by decide +kernel, by decide +kernel⟩, List.mem_of_getElem? (i := 759) (by decide +kernel), List.mem_of_getElem? (i := 1022) (by decide +kernel), List.mem_of_getElem? (i := 1023) (by decide +kernel)⟩
theorem lw_p42 : lw_okq (⟨"RankStockModel", "rankOf", "(I)I"⟩, 32) := ⟨⟨by decide +kernel, by decide +kernel⟩, List.mem_of_getElem? (i := 759) (by decide +kernel), List.mem_of_getElem? (i := 1026) (by decide +kernel), List.mem_of_getElem? (i := 1027) (by decide +kernel)⟩
theorem lw_p43 : lw_okq (⟨"RankStockModel", "isAhead", "(II)Z"⟩, 32) := ⟨⟨by decide +kernel, by decide +kernel⟩, List.mem_of_getElem? (i := 759) (by decide +kernel), List.mem_of_getElem? (i := 1030) (by decide +kernel), List.mem_of_getElem? (i := 1031) (by decide +kernel)⟩
theorem lw_p44 : lw_okq (⟨"RankStockModel", "canBePaid", "(I)Z"⟩, 32) := ⟨⟨by decide +kernel, by decide +kernel⟩, List.mem_of_getElem? (i := 759) (by decide +kernel), List.mem_of_getElem? (i := 1038) (by decide +kernel), List.mem_of_getElem? (i := 1039) (by decide +kernel)⟩
theorem lw_p45 : lw_okq (⟨"RankStockModel", "pays", "(I)I"⟩, 32) := ⟨⟨by decide +kernel, by decide +kernel⟩, List.mem_of_getElem? (i := 759) (by decide +kernel), List.mem_of_getElem? (i := 1042) (by decide +kernel), List.mem_of_getElem? (i := 1043) (by decide +kernel)⟩
theorem lw_p46 : lw_okq (⟨"RankStockModel", "counted", "(I)I"⟩, 32) := ⟨⟨by decide +kernel, by decide +kernel⟩, List.mem_of_getElem? (i := 759) (by decide +kernel), List.mem_of_getElem? (i := 1057) (by decide +kernel), List.mem_of_getElem? (i := 1058) (by decide +kernel)⟩
theorem lw_p47 : lw_okq (⟨"RankStockModel", "riderOf", "(I)I"⟩, 32) := ⟨⟨by decide +kernel, by decide +kernel⟩, List.mem_of_getElem? (i := 759) (by decide +kernel), List.mem_of_getElem? (i := 1065) (by decide +kernel), List.mem_of_getElem? (i := 1066) (by decide +kernel)⟩
def lw_privs_3 : List (MethodName × Nat) := [(⟨"RankStockModel", "taken", "(II)I"⟩, 32), (⟨"RankStockModel", "gets", "(III)Z"⟩, 32), (⟨"RankStockModel", "greatest", "(I)I"⟩, 32), (⟨"RankStockModel", "drawn", "(I)I"⟩, 32), (⟨"RankStockModel", "drawsFor", "(II)V"⟩, 32), (⟨"RankStockModel", "canBeDrawn", "(III)Z"⟩, 32), (⟨"RankStockModel", "rides", "(IIIZ)I"⟩, 32), (⟨"RankStockModel", "answered", "(IIZ)I"⟩, 32), (⟨"RankStockModel", "isBeast", "(I)Z"⟩, 32), (⟨"RankStockModel", "told", "(II)I"⟩, 32), (⟨"RankStockModel", "rankOf", "(I)I"⟩, 32), (⟨"RankStockModel", "isAhead", "(II)Z"⟩, 32), (⟨"RankStockModel", "canBePaid", "(I)Z"⟩, 32), (⟨"RankStockModel", "pays", "(I)I"⟩, 32), (⟨"RankStockModel", "counted", "(I)I"⟩, 32), (⟨"RankStockModel", "riderOf", "(I)I"⟩, 32)]
theorem lw_r3 : ∀ q ∈ lw_privs_3, lw_okq q := List.forall_mem_cons.mpr ⟨lw_p32, List.forall_mem_cons.mpr ⟨lw_p33, List.forall_mem_cons.mpr ⟨lw_p34, List.forall_mem_cons.mpr ⟨lw_p35, List.forall_mem_cons.mpr ⟨lw_p36, List.forall_mem_cons.mpr ⟨lw_p37, List.forall_mem_cons.mpr ⟨lw_p38, List.forall_mem_cons.mpr ⟨lw_p39, List.forall_mem_cons.mpr ⟨lw_p40, List.forall_mem_cons.mpr ⟨lw_p41, List.forall_mem_cons.mpr ⟨lw_p42, List.forall_mem_cons.mpr ⟨lw_p43, List.forall_mem_cons.mpr ⟨lw_p44, List.forall_mem_cons.mpr ⟨lw_p45, List.forall_mem_cons.mpr ⟨lw_p46, List.forall_mem_cons.mpr ⟨lw_p47, fun _ h => absurd h List.not_mem_nil⟩⟩⟩⟩⟩⟩⟩⟩⟩⟩⟩⟩⟩⟩⟩⟩
theorem lw_p48 : lw_okq (⟨"RankStockModel", "isBetter", "(II)Z"⟩, 32) := ⟨⟨by decide +kernel, by decide +kernel⟩, List.mem_of_getElem? (i := 759) (by decide +kernel), List.mem_of_getElem? (i := 1069) (by decide +kernel), List.mem_of_getElem? (i := 1070) (by decide +kernel)⟩
theorem lw_p49 : lw_okq (⟨"RankStockModel", "allOf", "(I)I"⟩, 32) := ⟨⟨by decide +kernel, by decide +kernel⟩, List.mem_of_getElem? (i := 759) (by decide +kernel), List.mem_of_getElem? (i := 1073) (by decide +kernel), List.mem_of_getElem? (i := 1074) (by decide +kernel)⟩
theorem lw_p50 : lw_okq (⟨"RankStockModel", "isBalanced", "(I)Z"⟩, 32) := ⟨⟨by decide +kernel, by decide +kernel⟩, List.mem_of_getElem? (i := 759) (by decide +kernel), List.mem_of_getElem? (i := 1081) (by decide +kernel), List.mem_of_getElem? (i := 1082) (by decide +kernel)⟩
def lw_privs_4 : List (MethodName × Nat) := [(⟨"RankStockModel", "isBetter", "(II)Z"⟩, 32), (⟨"RankStockModel", "allOf", "(I)I"⟩, 32), (⟨"RankStockModel", "isBalanced", "(I)Z"⟩, 32)]
theorem lw_r4 : ∀ q ∈ lw_privs_4, lw_okq q := List.forall_mem_cons.mpr ⟨lw_p48, List.forall_mem_cons.mpr ⟨lw_p49, List.forall_mem_cons.mpr ⟨lw_p50, fun _ h => absurd h List.not_mem_nil⟩⟩⟩
def lw_privs : List (MethodName × Nat) := lw_privs_1 ++ (lw_privs_2 ++ (lw_privs_3 ++ (lw_privs_4)))
def lw_tbl : List Cond := k2_sels lw_privs ++ tables_1
theorem lw_privs_ok : ∀ q ∈ lw_privs, lw_okq q := by
  show ∀ q ∈ lw_privs_1 ++ (lw_privs_2 ++ (lw_privs_3 ++ (lw_privs_4))), lw_okq q
  exact List.forall_mem_append.mpr ⟨lw_r1, List.forall_mem_append.mpr ⟨lw_r2, List.forall_mem_append.mpr ⟨lw_r3, lw_r4⟩⟩⟩
end
section
/-! ===== BEGIN words of one list among another's, by their places ===== -/
theorem goodIn_r {big : List Cond} (ws : List Cond) (ps : List Nat) (hp : ws = ps.filterMap (fun i => big[i]?)) (h : ws.all goodWord = true) : GoodIn big ws := by
  intro w hw
  have h1 := List.all_eq_true.mp h w hw
  rw [hp] at hw
  obtain ⟨i, -, hi⟩ := List.mem_filterMap.mp hw
  have hm : w ∈ big := by first | exact List.mem_of_getElem? hi | exact List.getElem?_mem hi
  exact ⟨hm, good_of_word h1⟩
theorem goodIn_app {big a b : List Cond} (ha : GoodIn big a) (hb : GoodIn big b) : GoodIn big (a ++ b) := fun w h => (List.mem_append.mp h).elim (ha w) (hb w)
theorem goodIn_ca {big a b : List Cond} {c : Cond} (ha : GoodIn big (c :: a)) (hb : GoodIn big b) : GoodIn big (c :: (a ++ b)) := fun w h => (List.mem_cons.mp h).elim (fun e => ha w (List.mem_cons.mpr (Or.inl e))) (fun h => (List.mem_append.mp h).elim (fun h => ha w (List.mem_cons.mpr (Or.inr h))) (hb w))
theorem goodIn_sub {big ws : List Cond} (hm : ∀ w ∈ ws, w ∈ big) (h : ws.all goodWord = true) : GoodIn big ws := fun w hw => ⟨hm w hw, good_of_word (List.all_eq_true.mp h w hw)⟩
/-! ===== END ===== -/

/-! ===== BEGIN exceptions that leave a method, and their catching by the caller (launches without stack traces) ===== -/
section VXA
/-! The laws vx_back, vx_callV, vx_callS, vx_callSW, vx_throw0, vx_throwS follow proofs of the library, with one case more: JvmDerived/Free/Laws.lean (Back.of_free), Shelf42/LK1.lean (callV, callS), Shelf/KitTraced.lean (throwNew0V, throwNewS). -/
/-- where a method has thrown q: the class by its name, the cell, what was written, the world -/
def vx_T (XC : String → State → State → Prop) (st : State) (q : Addr) (t : State) (mc ms : Nat) (free : Addr → Prop) : Prop :=
  ∃ (E : String) (ce : Cell) (L : List Loc), XC E st t ∧ t.heap[q]? = some ce ∧ ce.vm = .none ∧ st.vm.findClass E = some ce.cls ∧ st.WarmedH t.vm ∧ st.sameButNew ({ t with vm := st.vm } : State) L mc ms ∧ ∀ z ∈ L, free z.base
def vx_Q (Qc : Array Value → State → Outcome → State → Prop) (XC : String → State → State → Prop) (mc ms : Nat) (free : Addr → Prop) : Array Value → State → Outcome → State → Prop := fun a st o t =>
  (Qc a st o t ∧ ∃ L, FrameEnd st o t L mc ms ∧ ∀ q ∈ L, free q.base) ∨ ∃ q, o = .threw q ∧ vx_T XC st q t mc ms free
/-- a callee that returns or throws -/
def vx_Met (l : Launch) (y : MethodName) (ws : List Cond) (rm : Room) (Pc : Array Value → State → Prop) (Qc : Array Value → State → Outcome → State → Prop) (XC : String → State → State → Prop) (mc ms : Nat) (free : Addr → Prop) : Prop :=
  MetFree l y (headSpec ws rm) Pc (fun _ _ _ _ _ => True) (vx_Q Qc XC mc ms free)
def vx_Post (XC : String → State → State → Prop) (mc ms : Nat) (free : Addr → Prop) : Pt → Array Value → Addr → Pt → Prop := fun A a q B =>
  ∃ (g : JFrame) (mk : MethodId) (t : State) (L : List Loc) (E : String) (ce : Cell), B.U.heap = t.heap ∧ B.U.vm = t.vm ∧ XC E (A.U.calling g mk a) t ∧ t.heap[q]? = some ce ∧ ce.vm = .none ∧ A.U.vm.findClass E = some ce.cls ∧ B.locs = A.locs ++ L ∧ (∀ z ∈ L, free z.base) ∧ B.cells = A.cells + mc ∧ B.slots = A.slots + ms
def vx_Back (l : Launch) (R : Room) (p : Program) (e : Env) (below : List Frame) (s : State) (sargs : Array Value) (y : MethodName) (len W9 : Nat)
    (Pre : Pt → Array Value → Prop) (Post : Pt → Array Value → Option Value → Pt → Prop) (PostX : Pt → Array Value → Addr → Pt → Prop) : Prop :=
  ∀ (m : MethodId) (meth : Method) (c : Code) (A : Pt) (g : JFrame) (ig : Instr) (mk : MethodId) (a : Array Value),
    Stand p l e R s m sargs below meth c A.U A.locs A.cells A.slots → g.method = m → g.locals.size = c.maxLocals → decode c.code g.pc = .ok (ig, len) →
    2 * g.monitorRoom + (g.stack.map fun v => v.category).sum ≤ W9 → A.U.methodNamed? y = some mk → Pre A a →
    (∃ (v : Option Value) (B : Pt), Stand p l e R s m sargs below meth c B.U B.locs B.cells B.slots ∧ Post A a v B ∧
      Steps p.tables e below (doInvoke e (A.U.setTop g) [] mk a).1 (B.U.setTop { g with pc := g.pc + len, stack := v.toList ++ g.stack })) ∨
    (∃ (q : Addr) (B : Pt), Stand p l e R s m sargs below meth c B.U B.locs B.cells B.slots ∧ PostX A a q B ∧
      Steps p.tables e below (doInvoke e (A.U.setTop g) [] mk a).1 ((B.U.setTop g).pushFrame (.throwing q)))
section Payer
variable {l : Launch} {R : Room} {p : Program} {e : Env} {below : List Frame} {s : State} {sargs : Array Value} {y : MethodName} {len W9 : Nat}
theorem vx_back {ws : List Cond} {rm : Room} {Pc : Array Value → State → Prop} {Qc : Array Value → State → Outcome → State → Prop} {XC : String → State → State → Prop} {mc ms : Nat} {free : Addr → Prop} {bytes : ByteArray} {maxL : Nat} {ret : Option FieldType}
    (hM : vx_Met l y ws rm Pc Qc XC mc ms free) (hblind : FrameBlind Pc) (hrc : rm.cells = mc) (hrs : rm.slots = ms)
    (hframes : rm.frames + 1 ≤ R.frames) (hlocals : W9 + (maxL + 11) + rm.locals ≤ R.locals)
    (hws : ∀ w ∈ ws, ∀ a' U, s.WarmedH U.vm → w.before a' U = true) (hcode : Cond.code y bytes maxL ret ∈ ws) (hinit : ∀ a' U, s.WarmedH U.vm → (Cond.initialized y.cls).before a' U = true) :
    vx_Back l R p e below s sargs y len W9 (PreOf R mc ms Pc) (PostOf Qc mc ms free) (vx_Post XC mc ms free) := by
  intro m meth c A g ig mk a X hg hsize hdg hW hn hp
  have h1 : (headSpec ws rm).pre.before a A.U = true := atoms_intro fun w hw => hws w hw _ _ X.warmed
  have h2 : (Cond.code y bytes maxL ret).before a A.U = true := hws _ hcode _ _ X.warmed
  have h3 : (Cond.initialized y.cls).before a A.U = true := hinit _ _ X.warmed
  have h4 : A.cells + (headSpec ws rm).room.cells ≤ R.cells := by rw [show (headSpec ws rm).room.cells = mc from hrc]; exact hp.1
  have h5 : A.slots + (headSpec ws rm).room.slots ≤ R.slots := by rw [show (headSpec ws rm).room.slots = ms from hrs]; exact hp.2.1
  have hPc : Pc a (A.U.calling g mk a) := hblind _ _ _ _ hp.2.2
  obtain ⟨U, Ls, c0, s0⟩ := A
  dsimp only [Pt.U, Pt.locs, Pt.cells, Pt.slots] at h1 h2 h3 h4 h5 X hn hPc ⊢
  obtain ⟨methY, cY, hmY, hcY, -, hlY, -, -, -, -⟩ := Cond.code_spec hn h2
  obtain ⟨kY, hkY, -⟩ := className_of_methodNamed hn
  have hinitY : kY.init = .initialized := Cond.initialized_spec (findClass_of_methodNamed hn) hkY h3
  have h : At U g.method c below := by rw [hg]; exact X.here
  have hlocals9 : W9 + (maxL + 11) + (headSpec ws rm).room.locals ≤ R.locals := hlocals
  have happ : (headSpec ws rm).appliesLoose y e.platform (U.calling g mk a) = true :=
    Spec.appliesLoose_calling (g := g) h hdg hn hkY hinitY
      (X.room_calling (g := g) (R' := (headSpec ws rm).room) hsize hmY hcY hframes (by rw [hlY]; omega) h4 h5) h1
  obtain ⟨mid, hmid⟩ := h.above
  have hfr : (U.setTop g).frames = (.java g :: mid) ++ below := by rw [State.frames_setTop' g h.top, hmid]; rfl
  obtain ⟨o, s₂, hsteps, -, hend, hq⟩ := Steps.callFree hM p X.admits X.cas X.clock (acts := []) hfr happ hPc trivial
  have hq' : vx_Q Qc XC mc ms free a (U.calling g mk a) o s₂ := hq
  rw [State.frames_setTop' g h.top] at hend
  obtain ⟨g₀, hg0⟩ := Option.isSome_iff_exists.mp h.top
  obtain ⟨r, hr⟩ := State.topJava?_eq_some.mp hg0
  have hr' : (({ U with heap := s₂.heap, slotsUsed := s₂.slotsUsed } : State).setVm s₂.vm).frames = .java g₀ :: r := hr
  rcases hq' with ⟨hqc, L, hfe, hL⟩ | ⟨q, rfl, E, ce, L, hx, hce, hcv, hcl, hW₂, hsm, hL⟩
  · obtain ⟨⟨v, rfl⟩, hW₂, e2, q2, q3, q4, q5, q6⟩ := id hfe
    have e3 : s₂ = ({ (U.calling g mk a).setFrames s₂.frames with heap := s₂.heap, slotsUsed := s₂.slotsUsed } : State).setVm s₂.vm := by
      have : s₂ = ({ s₂ with vm := (U.calling g mk a).vm } : State).setVm s₂.vm := rfl
      rw [e2] at this
      exact this
    obtain ⟨c₂, i₂, len₂, hc₂, hd₂, hf₂⟩ := hend
    have hW' : U.WarmedH s₂.vm := hW₂
    have hcc : c₂ = c := by
      have h1 : s₂.code? g.method = U.code? g.method := by
        rw [State.code?_eq, State.code?_eq, hW'.alike.method?]
      exact Option.some.inj (hc₂.symm.trans (h1.trans h.code))
    subst hcc
    have hlen : len₂ = len := by rw [hdg] at hd₂; cases hd₂; rfl
    subst hlen
    have hs₂ : s₂ = (({ U with heap := s₂.heap, slotsUsed := s₂.slotsUsed } : State).setVm s₂.vm).setTop { g with pc := g.pc + len₂, stack := v.toList ++ g.stack } := by
      refine e3.trans ?_
      rw [hf₂, State.calling_eq h.top, State.setFrames_setFrames, State.setTop_of_frames _ hr', hr]
      rfl
    have hsame : U.sameButNew ({ U with heap := s₂.heap, slotsUsed := s₂.slotsUsed } : State) L mc ms := by
      refine ⟨?_, q2, q3, q4, q5, q6⟩
      obtain ⟨t, ht, -⟩ := State.frames_cons hr
      show ({ U with heap := s₂.heap, slotsUsed := s₂.slotsUsed } : State) = { U.setFrames U.frames with heap := s₂.heap, slotsUsed := s₂.slotsUsed }
      rw [State.setFrames_self ht]
    subst hg
    refine Or.inl ⟨v, ⟨(({ U with heap := s₂.heap, slotsUsed := s₂.slotsUsed } : State).setVm s₂.vm), Ls ++ L, c0 + mc, s0 + ms⟩,
      ⟨X.admits, X.cas, X.clock, X.frames, X.room, X.hears, X.method, X.code, (X.here.setHeapUsed s₂.heap s₂.slotsUsed).setVm hW'.alike, X.tail, State.WarmedH.trans X.warmed hW', X.limits, X.bytes, X.same.trans (hsame.setVm s.vm)⟩,
      ⟨g, mk, s₂, L, rfl, rfl, hqc, rfl, hL, rfl, rfl⟩, ?_⟩
    show Steps p.tables e below _ ((({ U with heap := s₂.heap, slotsUsed := s₂.slotsUsed } : State).setVm s₂.vm).setTop { g with pc := g.pc + len₂, stack := v.toList ++ g.stack })
    rw [← hs₂]
    exact hsteps
  · obtain ⟨e2, q2, q3, q4, q5, q6⟩ := id hsm
    have e3 : s₂ = ({ (U.calling g mk a).setFrames s₂.frames with heap := s₂.heap, slotsUsed := s₂.slotsUsed } : State).setVm s₂.vm := by
      have : s₂ = ({ s₂ with vm := (U.calling g mk a).vm } : State).setVm s₂.vm := rfl
      rw [e2] at this
      exact this
    have hf₂ : s₂.frames = .throwing q :: .java g :: U.frames.tail := hend
    have hW' : U.WarmedH s₂.vm := hW₂
    have hs₂ : s₂ = ((({ U with heap := s₂.heap, slotsUsed := s₂.slotsUsed } : State).setVm s₂.vm).setTop g).pushFrame (.throwing q) := by
      refine e3.trans ?_
      rw [hf₂, State.calling_eq h.top, State.setFrames_setFrames, State.pushFrame, State.frames_setTop _ hr', State.setTop_of_frames _ hr', State.setFrames_setFrames, hr]
      rfl
    have hsame : U.sameButNew ({ U with heap := s₂.heap, slotsUsed := s₂.slotsUsed } : State) L mc ms := by
      refine ⟨?_, q2, q3, q4, q5, q6⟩
      obtain ⟨t, ht, -⟩ := State.frames_cons hr
      show ({ U with heap := s₂.heap, slotsUsed := s₂.slotsUsed } : State) = { U.setFrames U.frames with heap := s₂.heap, slotsUsed := s₂.slotsUsed }
      rw [State.setFrames_self ht]
    subst hg
    refine Or.inr ⟨q, ⟨(({ U with heap := s₂.heap, slotsUsed := s₂.slotsUsed } : State).setVm s₂.vm), Ls ++ L, c0 + mc, s0 + ms⟩,
      ⟨X.admits, X.cas, X.clock, X.frames, X.room, X.hears, X.method, X.code, (X.here.setHeapUsed s₂.heap s₂.slotsUsed).setVm hW'.alike, X.tail, State.WarmedH.trans X.warmed hW', X.limits, X.bytes, X.same.trans (hsame.setVm s.vm)⟩,
      ⟨g, mk, s₂, L, E, ce, rfl, rfl, hx, hce, hcv, hcl, rfl, hL, rfl, rfl⟩, ?_⟩
    show Steps p.tables e below _ (((({ U with heap := s₂.heap, slotsUsed := s₂.slotsUsed } : State).setVm s₂.vm).setTop g).pushFrame (.throwing q))
    rw [← hs₂]
    exact hsteps
end Payer
section Calls
variable {p : Program} {l : Launch} {e : Env} {R : Room} {s : State} {m : MethodId} {args : Array Value} {below : List Frame} {meth : Method} {c : Code} {T : State} {locs : List Loc} {cells slots : Nat}
theorem vx_callV (X : Stand p l e R s m args below meth c T locs cells slots) (hexec : p.tables.exec = Jvm.exec) {own C : String} {index : Nat} {y : MethodName} {bytes : ByteArray} {maxL : Nat} {ret : Option FieldType}
    (hown : s.vm.findClass own = some m.cls) (hlink : (Cond.methodLink own index y).before args s = true) (hinst : (Cond.instanceMethod y).before args s = true) (hsel : (Cond.selects C y y).before args s = true)
    (hcode : (Cond.code y bytes maxL ret).before args s = true) (hy : y.cls ≠ "java/lang/invoke/MethodHandle" ∧ y.cls ≠ "java/lang/invoke/VarHandle")
    {W9 : Nat} {Pre : Pt → Array Value → Prop} {Post : Pt → Array Value → Option Value → Pt → Prop} {PostX : Pt → Array Value → Addr → Pt → Prop} (hK : vx_Back l R p e below s args y 3 W9 Pre Post PostX)
    {b : Addr} {cellB : Cell} (hcell : T.heap[b]? = some cellB) (hobj : cellB.vm.isStatics = false) (hcls : s.vm.findClass C = some cellB.cls)
    {g : JFrame} (hg : g.method = m) (hsize : g.locals.size = c.maxLocals) {argsL rest : List Value} (hlen : ∀ sig, parseMethodDescriptor y.desc = some sig → argsL.length = sig.parameters.length)
    (hstack : g.stack = argsL.reverse ++ .ref b :: rest) (hW : 2 * g.monitorRoom + (rest.map fun v => v.category).sum ≤ W9) (hdg : decode c.code g.pc = .ok (.invokevirtual index, 3))
    (hpre : ∀ vm₁, s.WarmedH vm₁ → Pre ⟨T.setVm vm₁, locs, cells, slots⟩ (Value.ref b :: argsL).toArray) :
    (∃ (v : Option Value) (vm₁ : Vm) (B : Pt), s.WarmedH vm₁ ∧ Stand p l e R s m args below meth c B.U B.locs B.cells B.slots ∧ Post ⟨T.setVm vm₁, locs, cells, slots⟩ (Value.ref b :: argsL).toArray v B ∧
      ∀ target, Steps p.tables e below (B.U.setTop { g with pc := g.pc + 3, stack := v.toList ++ rest }) target → Steps p.tables e below (T.setTop g) target) ∨
    (∃ (q : Addr) (vm₁ : Vm) (B : Pt), s.WarmedH vm₁ ∧ Stand p l e R s m args below meth c B.U B.locs B.cells B.slots ∧ PostX ⟨T.setVm vm₁, locs, cells, slots⟩ (Value.ref b :: argsL).toArray q B ∧
      Steps p.tables e below (T.setTop g) ((B.U.setTop { g with stack := rest }).pushFrame (.throwing q))) := by
  obtain ⟨mk, methM, hnamed, hmethM, hstM, habM⟩ := Cond.instanceMethod_spec hinst
  obtain ⟨methM', cM, hmethM', -, -, -, -, -, -, hsigM⟩ := Cond.code_spec hnamed hcode
  cases hmethM.symm.trans hmethM'
  obtain ⟨c2, r2, m2, q1, q2, q3, q4, kP, hkP, hkPi⟩ := Cond.selects_spec hsel
  cases hcls.symm.trans q1
  cases (State.methodFound?_of_named hnamed hy).symm.trans q2
  cases hnamed.symm.trans q3
  have hselP : selectMethod e.platform s.vm cellB.cls mk = .method mk := by rw [Launch.admits_selectMethod X.admits]; exact q4
  obtain ⟨vm₁, X₁, hstep₁⟩ := X.invokevirtual hexec hown hlink hnamed hmethM hstM hkP hkPi hy (a := b) (cell := cellB) hcell
    (fun z h => by rw [h] at hobj; cases hobj) hselP hmethM habM hkP hkPi (g := g) hg (argsL := argsL) (rest := rest) (hlen _ hsigM) hstack hdg
  rcases hK m meth c ⟨T.setVm vm₁, locs, cells, slots⟩ { g with stack := rest } (.invokevirtual index) mk (Value.ref b :: argsL).toArray X₁ hg hsize hdg hW (X₁.named hnamed) (hpre vm₁ X₁.warmed) with ⟨v, B, X', hpost, hsteps⟩ | ⟨q, B, X', hpost, hsteps⟩
  · exact Or.inl ⟨v, vm₁, B, X₁.warmed, X', hpost, fun target h => hstep₁ _ fun acts => by rw [doInvoke_state]; exact hsteps.trans h⟩
  · exact Or.inr ⟨q, vm₁, B, X₁.warmed, X', hpost, hstep₁ _ fun acts => by rw [doInvoke_state]; exact hsteps⟩
theorem vx_callS (X : Stand p l e R s m args below meth c T locs cells slots) (hexec : p.tables.exec = Jvm.exec) {own : String} {index : Nat} {y : MethodName} {bytes : ByteArray} {maxL : Nat} {ret : Option FieldType}
    (hown : s.vm.findClass own = some m.cls) (hlink : (Cond.methodLink own index y).before args s = true) (hstat : (Cond.static y).before args s = true) (hinit : (Cond.initialized y.cls).before args s = true)
    (hcode : (Cond.code y bytes maxL ret).before args s = true) (hy : y.cls ≠ "java/lang/invoke/MethodHandle" ∧ y.cls ≠ "java/lang/invoke/VarHandle")
    {W9 : Nat} {Pre : Pt → Array Value → Prop} {Post : Pt → Array Value → Option Value → Pt → Prop} {PostX : Pt → Array Value → Addr → Pt → Prop} (hK : vx_Back l R p e below s args y 3 W9 Pre Post PostX)
    {g : JFrame} (hg : g.method = m) (hsize : g.locals.size = c.maxLocals) {argsL rest : List Value} (hlen : ∀ sig, parseMethodDescriptor y.desc = some sig → argsL.length = sig.parameters.length)
    (hstack : g.stack = argsL.reverse ++ rest) (hW : 2 * g.monitorRoom + (rest.map fun v => v.category).sum ≤ W9) (hdg : decode c.code g.pc = .ok (.invokestatic index, 3))
    (hpre : ∀ vm₁, s.WarmedH vm₁ → Pre ⟨T.setVm vm₁, locs, cells, slots⟩ argsL.toArray) :
    (∃ (v : Option Value) (vm₁ : Vm) (B : Pt), s.WarmedH vm₁ ∧ Stand p l e R s m args below meth c B.U B.locs B.cells B.slots ∧ Post ⟨T.setVm vm₁, locs, cells, slots⟩ argsL.toArray v B ∧
      ∀ target, Steps p.tables e below (B.U.setTop { g with pc := g.pc + 3, stack := v.toList ++ rest }) target → Steps p.tables e below (T.setTop g) target) ∨
    (∃ (q : Addr) (vm₁ : Vm) (B : Pt), s.WarmedH vm₁ ∧ Stand p l e R s m args below meth c B.U B.locs B.cells B.slots ∧ PostX ⟨T.setVm vm₁, locs, cells, slots⟩ argsL.toArray q B ∧
      Steps p.tables e below (T.setTop g) ((B.U.setTop { g with stack := rest }).pushFrame (.throwing q))) := by
  obtain ⟨mk, hnamed⟩ := Cond.code_named hcode
  obtain ⟨methM, cM, hmethM, -, -, -, -, -, -, hsigM⟩ := Cond.code_spec hnamed hcode
  have hstatic : methM.isStatic = true := Cond.static_spec hnamed hmethM hstat
  obtain ⟨kP, hkP, -⟩ := className_of_methodNamed hnamed
  have hinitP : kP.init = .initialized := Cond.initialized_spec (findClass_of_methodNamed hnamed) hkP hinit
  obtain ⟨vm₁, X₁, hstep₁⟩ := X.invokestatic hexec hown hlink hnamed hmethM hstatic hkP hinitP hy (g := g) hg (argsL := argsL) (rest := rest) (hlen _ hsigM) hstack hdg
  rcases hK m meth c ⟨T.setVm vm₁, locs, cells, slots⟩ { g with stack := rest } (.invokestatic index) mk argsL.toArray X₁ hg hsize hdg hW (X₁.named hnamed) (hpre vm₁ X₁.warmed) with ⟨v, B, X', hpost, hsteps⟩ | ⟨q, B, X', hpost, hsteps⟩
  · exact Or.inl ⟨v, vm₁, B, X₁.warmed, X', hpost, fun target h => hstep₁ _ fun acts => by rw [doInvoke_state]; exact hsteps.trans h⟩
  · exact Or.inr ⟨q, vm₁, B, X₁.warmed, X', hpost, hstep₁ _ fun acts => by rw [doInvoke_state]; exact hsteps⟩
end Calls
theorem vx_cls {s : State} {T : State} {vm₁ : Vm} {E : String} {k : ClassId} (hW : s.WarmedH vm₁) (h : (T.setVm vm₁).vm.findClass E = some k) : s.vm.findClass E = some k := by
  have h1 : vm₁.findClass E = some k := h
  rw [hW.alike.findClass] at h1
  exact h1
/-- the method's frame g, with q thrown over it -/
def vx_W (p : Program) (l : Launch) (e : Env) (R : Room) (s : State) (m : MethodId) (args : Array Value) (below : List Frame) (meth : Method) (c : Code) (H : Heap) (locs : List Loc) (cells slots : Nat) (Q : State → Prop) (g : JFrame) (q : Addr) : Prop :=
  ∀ T : State, T.heap = H → Stand p l e R s m args below meth c T locs cells slots → ∃ t, Steps p.tables e below ((T.setTop g).pushFrame (.throwing q)) t ∧ Q t
def vx_Run (p : Program) (l : Launch) (e : Env) (R : Room) (s : State) (m : MethodId) (args : Array Value) (below : List Frame) (meth : Method) (c : Code) (H : Heap) (locs : List Loc) (cells slots mc ms : Nat) (g : JFrame) (rest : List Value) (Qa : State → Outcome → State → Prop) (XC : String → State → State → Prop) (free : Addr → Prop) : Prop :=
  ∀ T : State, T.heap = H → Stand p l e R s m args below meth c T locs cells slots →
    (∃ (v : Option Value) (st₀ t T' : State) (L : List Loc), st₀.heap = H ∧ Stand p l e R s m args below meth c T' (locs ++ L) (cells + mc) (slots + ms) ∧ (∀ q ∈ L, free q.base) ∧ T'.heap = t.heap ∧ T'.vm = t.vm ∧ Qa st₀ (.returned v) t ∧
      Goes p e below T g T' { g with pc := g.pc + 3, stack := v.toList ++ rest }) ∨
    (∃ (q : Addr) (st₀ t T' : State) (L : List Loc) (E : String) (ce : Cell), st₀.heap = H ∧ Stand p l e R s m args below meth c T' (locs ++ L) (cells + mc) (slots + ms) ∧ (∀ z ∈ L, free z.base) ∧ T'.heap = t.heap ∧ T'.vm = t.vm ∧ XC E st₀ t ∧ t.heap[q]? = some ce ∧ ce.vm = .none ∧ s.vm.findClass E = some ce.cls ∧
      Steps p.tables e below (T.setTop g) ((T'.setTop { g with stack := rest }).pushFrame (.throwing q)))
def vx_X {S : Type} (px : S → Prop) (B : String → S → State → Prop) (A : Nat → Prop) : String → State → State → Prop := fun E st t => ∃ u : S, px u ∧ B E u t ∧ va_F A st t
section Runs
variable {p : Program} {l : Launch} {e : Env} {R : Room} {s : State} {m : MethodId} {args : Array Value} {below : List Frame} {meth : Method} {c : Code} {H : Heap} {locs : List Loc} {cells slots : Nat}
variable {y : MethodName} {bytes cc : ByteArray} {maxL nL mc ms n index : Nat} {ret : Option FieldType} {ws : List Cond} {rm : Room} {Pc : Array Value → State → Prop} {Qc : Array Value → State → Outcome → State → Prop} {XC : String → State → State → Prop} {free : Addr → Prop} {Ts : List Cond} {own C : String} {b : Addr} {As rest : List Value} {g : JFrame}
theorem vx_callBack (cb : CallB R s args own index y bytes maxL ret ws rm mc ms n) (hM : vx_Met l y ws rm Pc Qc XC mc ms free) (hbl : FrameBlind Pc) : vx_Back l R p e below s args y 3 8 (PreOf R mc ms Pc) (PostOf Qc mc ms free) (vx_Post XC mc ms free) := by
  obtain ⟨hrc, hrs, hfr, hlo, hws, hcw, -, hini, -⟩ := cb
  exact vx_back (bytes := bytes) (maxL := maxL) (ret := ret) hM hbl hrc hrs hfr hlo hws hcw (fun a' U hW => word_at hW (Or.inl (by first | rfl | simp [Cond.onTables, Cond.keeps, Cond.steady])) hini)
theorem vx_runV (S : CallFix p m c cc nL s args Ts own) (hM : vx_Met l y ws rm Pc Qc XC mc ms free) (cw : CallW R s args own C index y bytes maxL ret ws rm mc ms n) (hp : PreV s H C b Pc As)
    (hg : g.method = m) (hn : As.length = n) (hsize : g.locals.size = nL) (hstack : g.stack = As.reverse ++ .ref b :: rest) (hW : 2 * g.monitorRoom + (rest.map fun v => v.category).sum ≤ 8) (hdg : decode cc g.pc = .ok (.invokevirtual index, 3)) (hf : cells + mc ≤ R.cells ∧ slots + ms ≤ R.slots) :
    vx_Run p l e R s m args below meth c H locs cells slots mc ms g rest (Qc (Value.ref b :: As).toArray) XC free := by
  have hK : vx_Back l R p e below s args y 3 8 (PreOf R mc ms Pc) (PostOf Qc mc ms free) (vx_Post XC mc ms free) := vx_callBack cw.1 hM hp.1
  obtain ⟨⟨-, -, -, -, -, -, hcode, -, hy, hlen, hl⟩, hin, hse⟩ := cw
  obtain ⟨hx, hb, hml, ho, -⟩ := S
  obtain ⟨-, ⟨cellB, hcB, hoB, hclB⟩, hPc⟩ := hp
  intro T hT X
  rcases vx_callV X hx (C := C) (bytes := bytes) (maxL := maxL) (ret := ret) ho hl hin hse hcode hy hK (by rw [hT]; exact hcB) hoB hclB hg (hsize.trans hml.symm) (argsL := As) (rest := rest) (fun sig h => hn.trans (hlen sig h)) hstack hW (by rw [hb]; exact hdg)
    (fun vm₁ hW₁ => ⟨hf.1, hf.2, hPc (T.setVm vm₁) hT hW₁⟩) with ⟨v, vm₁, ⟨U', l2, c2, s2⟩, hW₁, X', ⟨g', mk, t, L, e1, e2, hq, h1, hL, h2, h3⟩, st⟩ | ⟨q, vm₁, ⟨U', l2, c2, s2⟩, hW₁, X', ⟨g', mk, t, L, E, ce, e1, e2, hq, hce, hcv, hcl, h1, hL, h2, h3⟩, st⟩
  · dsimp only [Pt.U, Pt.locs, Pt.cells, Pt.slots] at X' e1 e2 h1 h2 h3 st
    subst h1; subst h2; subst h3
    exact Or.inl ⟨v, (T.setVm vm₁).calling g' mk (Value.ref b :: As).toArray, t, U', L, hT, X', hL, e1, e2, hq, st⟩
  · dsimp only [Pt.U, Pt.locs, Pt.cells, Pt.slots] at X' e1 e2 h1 h2 h3 st hcl
    subst h1; subst h2; subst h3
    exact Or.inr ⟨q, (T.setVm vm₁).calling g' mk (Value.ref b :: As).toArray, t, U', L, E, ce, hT, X', hL, e1, e2, hq, hce, hcv, vx_cls hW₁ hcl, st⟩
theorem vx_runS (S : CallFix p m c cc nL s args Ts own) (hM : vx_Met l y ws rm Pc Qc XC mc ms free) (cw : CallB R s args own index y bytes maxL ret ws rm mc ms n ∧ (Cond.static y).before args s = true) (hp : PreS s H Pc As)
    (hg : g.method = m) (hn : As.length = n) (hsize : g.locals.size = nL) (hstack : g.stack = As.reverse ++ rest) (hW : 2 * g.monitorRoom + (rest.map fun v => v.category).sum ≤ 8) (hdg : decode cc g.pc = .ok (.invokestatic index, 3)) (hf : cells + mc ≤ R.cells ∧ slots + ms ≤ R.slots) :
    vx_Run p l e R s m args below meth c H locs cells slots mc ms g rest (Qc As.toArray) XC free := by
  have hK : vx_Back l R p e below s args y 3 8 (PreOf R mc ms Pc) (PostOf Qc mc ms free) (vx_Post XC mc ms free) := vx_callBack cw.1 hM hp.1
  obtain ⟨⟨-, -, -, -, -, -, hcode, hini, hy, hlen, hl⟩, hstt⟩ := cw
  obtain ⟨hx, hb, hml, ho, -⟩ := S
  intro T hT X
  rcases vx_callS X hx (bytes := bytes) (maxL := maxL) (ret := ret) ho hl hstt hini hcode hy hK hg (hsize.trans hml.symm) (argsL := As) (rest := rest) (fun sig h => hn.trans (hlen sig h)) hstack hW (by rw [hb]; exact hdg)
    (fun vm₁ hW₁ => ⟨hf.1, hf.2, hp.2 (T.setVm vm₁) hT hW₁⟩) with ⟨v, vm₁, ⟨U', l2, c2, s2⟩, hW₁, X', ⟨g', mk, t, L, e1, e2, hq, h1, hL, h2, h3⟩, st⟩ | ⟨q, vm₁, ⟨U', l2, c2, s2⟩, hW₁, X', ⟨g', mk, t, L, E, ce, e1, e2, hq, hce, hcv, hcl, h1, hL, h2, h3⟩, st⟩
  · dsimp only [Pt.U, Pt.locs, Pt.cells, Pt.slots] at X' e1 e2 h1 h2 h3 st
    subst h1; subst h2; subst h3
    exact Or.inl ⟨v, (T.setVm vm₁).calling g' mk As.toArray, t, U', L, hT, X', hL, e1, e2, hq, st⟩
  · dsimp only [Pt.U, Pt.locs, Pt.cells, Pt.slots] at X' e1 e2 h1 h2 h3 st hcl
    subst h1; subst h2; subst h3
    exact Or.inr ⟨q, (T.setVm vm₁).calling g' mk As.toArray, t, U', L, E, ce, hT, X', hL, e1, e2, hq, hce, hcv, vx_cls hW₁ hcl, st⟩
end Runs
section Rows
variable {p : Program} {l : Launch} {e : Env} {R : Room} {s : State} {m : MethodId} {args : Array Value} {below : List Frame} {meth : Method} {c : Code} {H : Heap} {locs : List Loc} {cells slots : Nat} {Q : State → Prop}
variable {mc ms : Nat} {free : Addr → Prop} {A0 A1 : Nat → Prop} {H0 : Heap} {a : Array Value} {pc : Nat} {ls : Array Slot} {st0 rest : List Value}
theorem vx_keep {st₀ t T' : State} {L : List Loc} (h0 : st₀.heap = H) (e1 : T'.heap = t.heap) (hS : va_S A0 H0 H locs) (hA : ∀ q, q < H.size → A1 q → A0 q) (hf : ∀ q, free q → A0 q) (hL : ∀ q ∈ L, free q.base) (hF : va_F A1 st₀ t) :
    H.size ≤ T'.heap.size ∧ (∀ q : Nat, q < H.size → ¬ A1 q → T'.heap[q]? = H[q]?) ∧ va_S A0 H0 T'.heap (locs ++ L) := by
  obtain ⟨hz, hk⟩ := hF
  rw [h0] at hz hk
  exact ⟨by rw [e1]; exact hz, fun q h1 h2 => by rw [e1]; exact hk q h1 h2,
    ⟨Nat.le_trans hS.1 (by rw [e1]; exact hz), fun q h1 h2 => by rw [e1, hk q (Nat.lt_of_lt_of_le h1 hS.1) (fun z => h2 (hA q (Nat.lt_of_lt_of_le h1 hS.1) z))]; exact hS.2.1 q h1 h2, fun q hq => by
      rcases List.mem_append.mp hq with h | h
      · exact hS.2.2 q h
      · exact hf _ (hL q h)⟩⟩
theorem vx_calli {S SX : Type} {post : Int32 → S → Prop} {px : SX → Prop} {B : S → State → Prop} {BX : String → SX → State → Prop} {AX : Nat → Prop} (hr : vx_Run p l e R s m args below meth c H locs cells slots mc ms (F0 m pc ls st0) rest (va_Qi post B A1 a) (vx_X px BX AX) free) (hS : va_S A0 H0 H locs) (hA : ∀ q, q < H.size → A1 q → A0 q) (hf : ∀ q, free q → A0 q) (hAX : ∀ q, q < H.size → AX q → A0 q)
    (kx : ∀ (E : String) (ce : Cell) (q9 : Addr) (u : SX) (t : State) (H1 : Heap) (locs1 : List Loc), t.heap = H1 → s.vm.Alike t.vm → px u → BX E u t → H.size ≤ H1.size → (∀ q : Nat, q < H.size → ¬ AX q → H1[q]? = H[q]?) → va_S A0 H0 H1 locs1 → H1[q9]? = some ce → ce.vm = .none → s.vm.findClass E = some ce.cls → vx_W p l e R s m args below meth c H1 locs1 (cells + mc) (slots + ms) Q (F0 m pc ls rest) q9)
    (kk : ∀ (r : Int32) (u : S) (t : State) (H1 : Heap) (locs1 : List Loc), t.heap = H1 → s.vm.Alike t.vm → post r u → B u t → H.size ≤ H1.size → (∀ q : Nat, q < H.size → ¬ A1 q → H1[q]? = H[q]?) → va_S A0 H0 H1 locs1 → W p l e R s m args below meth c H1 locs1 (cells + mc) (slots + ms) Q (F0 m (pc + 3) ls (.int r :: rest))) : W p l e R s m args below meth c H locs cells slots Q (F0 m pc ls st0) := by
  intro T hT X
  rcases hr T hT X with ⟨v, st₀, t, T', L, h0, X', hL, e1, e2, ⟨⟨r, u, hv, hp, hb⟩, hF⟩, st⟩ | ⟨q, st₀, t, T', L, E, ce, h0, X', hL, e1, e2, ⟨u, hp, hb, hF⟩, hce, hcv, hcl, st⟩
  · cases hv
    obtain ⟨k1, k2, k3⟩ := vx_keep h0 e1 hS hA hf hL hF
    obtain ⟨t2, a1, b1⟩ := kk r u t T'.heap (locs ++ L) e1.symm (by rw [← e2]; exact X'.warmed.alike) hp hb k1 k2 k3 T' rfl X'
    exact ⟨t2, st t2 a1, b1⟩
  · obtain ⟨k1, k2, k3⟩ := vx_keep h0 e1 hS hAX hf hL hF
    obtain ⟨t2, a1, b1⟩ := kx E ce q u t T'.heap (locs ++ L) e1.symm (by rw [← e2]; exact X'.warmed.alike) hp hb k1 k2 k3 (by rw [e1]; exact hce) hcv hcl T' rfl X'
    exact ⟨t2, st.trans a1, b1⟩
theorem vx_calll {S SX : Type} {post : Int64 → S → Prop} {px : SX → Prop} {B : S → State → Prop} {BX : String → SX → State → Prop} {AX : Nat → Prop} (hr : vx_Run p l e R s m args below meth c H locs cells slots mc ms (F0 m pc ls st0) rest (va_Ql post B A1 a) (vx_X px BX AX) free) (hS : va_S A0 H0 H locs) (hA : ∀ q, q < H.size → A1 q → A0 q) (hf : ∀ q, free q → A0 q) (hAX : ∀ q, q < H.size → AX q → A0 q)
    (kx : ∀ (E : String) (ce : Cell) (q9 : Addr) (u : SX) (t : State) (H1 : Heap) (locs1 : List Loc), t.heap = H1 → s.vm.Alike t.vm → px u → BX E u t → H.size ≤ H1.size → (∀ q : Nat, q < H.size → ¬ AX q → H1[q]? = H[q]?) → va_S A0 H0 H1 locs1 → H1[q9]? = some ce → ce.vm = .none → s.vm.findClass E = some ce.cls → vx_W p l e R s m args below meth c H1 locs1 (cells + mc) (slots + ms) Q (F0 m pc ls rest) q9)
    (kk : ∀ (r : Int64) (u : S) (t : State) (H1 : Heap) (locs1 : List Loc), t.heap = H1 → s.vm.Alike t.vm → post r u → B u t → H.size ≤ H1.size → (∀ q : Nat, q < H.size → ¬ A1 q → H1[q]? = H[q]?) → va_S A0 H0 H1 locs1 → W p l e R s m args below meth c H1 locs1 (cells + mc) (slots + ms) Q (F0 m (pc + 3) ls (.long r :: rest))) : W p l e R s m args below meth c H locs cells slots Q (F0 m pc ls st0) := by
  intro T hT X
  rcases hr T hT X with ⟨v, st₀, t, T', L, h0, X', hL, e1, e2, ⟨⟨r, u, hv, hp, hb⟩, hF⟩, st⟩ | ⟨q, st₀, t, T', L, E, ce, h0, X', hL, e1, e2, ⟨u, hp, hb, hF⟩, hce, hcv, hcl, st⟩
  · cases hv
    obtain ⟨k1, k2, k3⟩ := vx_keep h0 e1 hS hA hf hL hF
    obtain ⟨t2, a1, b1⟩ := kk r u t T'.heap (locs ++ L) e1.symm (by rw [← e2]; exact X'.warmed.alike) hp hb k1 k2 k3 T' rfl X'
    exact ⟨t2, st t2 a1, b1⟩
  · obtain ⟨k1, k2, k3⟩ := vx_keep h0 e1 hS hAX hf hL hF
    obtain ⟨t2, a1, b1⟩ := kx E ce q u t T'.heap (locs ++ L) e1.symm (by rw [← e2]; exact X'.warmed.alike) hp hb k1 k2 k3 (by rw [e1]; exact hce) hcv hcl T' rfl X'
    exact ⟨t2, st.trans a1, b1⟩
theorem vx_callf {S SX : Type} {post : UInt32 → S → Prop} {px : SX → Prop} {B : S → State → Prop} {BX : String → SX → State → Prop} {AX : Nat → Prop} (hr : vx_Run p l e R s m args below meth c H locs cells slots mc ms (F0 m pc ls st0) rest (va_Qf post B A1 a) (vx_X px BX AX) free) (hS : va_S A0 H0 H locs) (hA : ∀ q, q < H.size → A1 q → A0 q) (hf : ∀ q, free q → A0 q) (hAX : ∀ q, q < H.size → AX q → A0 q)
    (kx : ∀ (E : String) (ce : Cell) (q9 : Addr) (u : SX) (t : State) (H1 : Heap) (locs1 : List Loc), t.heap = H1 → s.vm.Alike t.vm → px u → BX E u t → H.size ≤ H1.size → (∀ q : Nat, q < H.size → ¬ AX q → H1[q]? = H[q]?) → va_S A0 H0 H1 locs1 → H1[q9]? = some ce → ce.vm = .none → s.vm.findClass E = some ce.cls → vx_W p l e R s m args below meth c H1 locs1 (cells + mc) (slots + ms) Q (F0 m pc ls rest) q9)
    (kk : ∀ (r : UInt32) (u : S) (t : State) (H1 : Heap) (locs1 : List Loc), t.heap = H1 → s.vm.Alike t.vm → post r u → B u t → H.size ≤ H1.size → (∀ q : Nat, q < H.size → ¬ A1 q → H1[q]? = H[q]?) → va_S A0 H0 H1 locs1 → W p l e R s m args below meth c H1 locs1 (cells + mc) (slots + ms) Q (F0 m (pc + 3) ls (.float r :: rest))) : W p l e R s m args below meth c H locs cells slots Q (F0 m pc ls st0) := by
  intro T hT X
  rcases hr T hT X with ⟨v, st₀, t, T', L, h0, X', hL, e1, e2, ⟨⟨r, u, hv, hp, hb⟩, hF⟩, st⟩ | ⟨q, st₀, t, T', L, E, ce, h0, X', hL, e1, e2, ⟨u, hp, hb, hF⟩, hce, hcv, hcl, st⟩
  · cases hv
    obtain ⟨k1, k2, k3⟩ := vx_keep h0 e1 hS hA hf hL hF
    obtain ⟨t2, a1, b1⟩ := kk r u t T'.heap (locs ++ L) e1.symm (by rw [← e2]; exact X'.warmed.alike) hp hb k1 k2 k3 T' rfl X'
    exact ⟨t2, st t2 a1, b1⟩
  · obtain ⟨k1, k2, k3⟩ := vx_keep h0 e1 hS hAX hf hL hF
    obtain ⟨t2, a1, b1⟩ := kx E ce q u t T'.heap (locs ++ L) e1.symm (by rw [← e2]; exact X'.warmed.alike) hp hb k1 k2 k3 (by rw [e1]; exact hce) hcv hcl T' rfl X'
    exact ⟨t2, st.trans a1, b1⟩
theorem vx_calld {S SX : Type} {post : UInt64 → S → Prop} {px : SX → Prop} {B : S → State → Prop} {BX : String → SX → State → Prop} {AX : Nat → Prop} (hr : vx_Run p l e R s m args below meth c H locs cells slots mc ms (F0 m pc ls st0) rest (va_Qd post B A1 a) (vx_X px BX AX) free) (hS : va_S A0 H0 H locs) (hA : ∀ q, q < H.size → A1 q → A0 q) (hf : ∀ q, free q → A0 q) (hAX : ∀ q, q < H.size → AX q → A0 q)
    (kx : ∀ (E : String) (ce : Cell) (q9 : Addr) (u : SX) (t : State) (H1 : Heap) (locs1 : List Loc), t.heap = H1 → s.vm.Alike t.vm → px u → BX E u t → H.size ≤ H1.size → (∀ q : Nat, q < H.size → ¬ AX q → H1[q]? = H[q]?) → va_S A0 H0 H1 locs1 → H1[q9]? = some ce → ce.vm = .none → s.vm.findClass E = some ce.cls → vx_W p l e R s m args below meth c H1 locs1 (cells + mc) (slots + ms) Q (F0 m pc ls rest) q9)
    (kk : ∀ (r : UInt64) (u : S) (t : State) (H1 : Heap) (locs1 : List Loc), t.heap = H1 → s.vm.Alike t.vm → post r u → B u t → H.size ≤ H1.size → (∀ q : Nat, q < H.size → ¬ A1 q → H1[q]? = H[q]?) → va_S A0 H0 H1 locs1 → W p l e R s m args below meth c H1 locs1 (cells + mc) (slots + ms) Q (F0 m (pc + 3) ls (.double r :: rest))) : W p l e R s m args below meth c H locs cells slots Q (F0 m pc ls st0) := by
  intro T hT X
  rcases hr T hT X with ⟨v, st₀, t, T', L, h0, X', hL, e1, e2, ⟨⟨r, u, hv, hp, hb⟩, hF⟩, st⟩ | ⟨q, st₀, t, T', L, E, ce, h0, X', hL, e1, e2, ⟨u, hp, hb, hF⟩, hce, hcv, hcl, st⟩
  · cases hv
    obtain ⟨k1, k2, k3⟩ := vx_keep h0 e1 hS hA hf hL hF
    obtain ⟨t2, a1, b1⟩ := kk r u t T'.heap (locs ++ L) e1.symm (by rw [← e2]; exact X'.warmed.alike) hp hb k1 k2 k3 T' rfl X'
    exact ⟨t2, st t2 a1, b1⟩
  · obtain ⟨k1, k2, k3⟩ := vx_keep h0 e1 hS hAX hf hL hF
    obtain ⟨t2, a1, b1⟩ := kx E ce q u t T'.heap (locs ++ L) e1.symm (by rw [← e2]; exact X'.warmed.alike) hp hb k1 k2 k3 (by rw [e1]; exact hce) hcv hcl T' rfl X'
    exact ⟨t2, st.trans a1, b1⟩
theorem vx_callv {S SX : Type} {post : S → Prop} {px : SX → Prop} {B : S → State → Prop} {BX : String → SX → State → Prop} {AX : Nat → Prop} (hr : vx_Run p l e R s m args below meth c H locs cells slots mc ms (F0 m pc ls st0) rest (va_Qv post B A1 a) (vx_X px BX AX) free) (hS : va_S A0 H0 H locs) (hA : ∀ q, q < H.size → A1 q → A0 q) (hf : ∀ q, free q → A0 q) (hAX : ∀ q, q < H.size → AX q → A0 q)
    (kx : ∀ (E : String) (ce : Cell) (q9 : Addr) (u : SX) (t : State) (H1 : Heap) (locs1 : List Loc), t.heap = H1 → s.vm.Alike t.vm → px u → BX E u t → H.size ≤ H1.size → (∀ q : Nat, q < H.size → ¬ AX q → H1[q]? = H[q]?) → va_S A0 H0 H1 locs1 → H1[q9]? = some ce → ce.vm = .none → s.vm.findClass E = some ce.cls → vx_W p l e R s m args below meth c H1 locs1 (cells + mc) (slots + ms) Q (F0 m pc ls rest) q9)
    (kk : ∀ (u : S) (t : State) (H1 : Heap) (locs1 : List Loc), t.heap = H1 → s.vm.Alike t.vm → post u → B u t → H.size ≤ H1.size → (∀ q : Nat, q < H.size → ¬ A1 q → H1[q]? = H[q]?) → va_S A0 H0 H1 locs1 → W p l e R s m args below meth c H1 locs1 (cells + mc) (slots + ms) Q (F0 m (pc + 3) ls (rest))) : W p l e R s m args below meth c H locs cells slots Q (F0 m pc ls st0) := by
  intro T hT X
  rcases hr T hT X with ⟨v, st₀, t, T', L, h0, X', hL, e1, e2, ⟨⟨u, hv, hp, hb⟩, hF⟩, st⟩ | ⟨q, st₀, t, T', L, E, ce, h0, X', hL, e1, e2, ⟨u, hp, hb, hF⟩, hce, hcv, hcl, st⟩
  · cases hv
    obtain ⟨k1, k2, k3⟩ := vx_keep h0 e1 hS hA hf hL hF
    obtain ⟨t2, a1, b1⟩ := kk u t T'.heap (locs ++ L) e1.symm (by rw [← e2]; exact X'.warmed.alike) hp hb k1 k2 k3 T' rfl X'
    exact ⟨t2, st t2 a1, b1⟩
  · obtain ⟨k1, k2, k3⟩ := vx_keep h0 e1 hS hAX hf hL hF
    obtain ⟨t2, a1, b1⟩ := kx E ce q u t T'.heap (locs ++ L) e1.symm (by rw [← e2]; exact X'.warmed.alike) hp hb k1 k2 k3 (by rw [e1]; exact hce) hcv hcl T' rfl X'
    exact ⟨t2, st.trans a1, b1⟩
/-- caught by the row x of this method's table; the rows ahead don't take it -/
theorem vx_catch {own name : String} {E : String} {ce : Cell} {q : Addr} (hown : s.vm.findClass own = some m.cls) (pre : List ExceptionTableEntry) (x : ExceptionTableEntry) (suf : List ExceptionTableEntry) (hsplit : c.exceptionTable.toList = pre ++ x :: suf)
    (hpass : ∀ z ∈ pre, covers z pc = false ∨ (z.catchType ≠ 0 ∧ ∃ nm : String, (Cond.classLink own z.catchType nm).before args s = true ∧ va_Nc E nm s)) (hx : covers x pc = true) (h0 : x.catchType ≠ 0)
    (hlink : (Cond.classLink own x.catchType name).before args s = true) (hcast : (Cond.castable E name).before args s = true) (hcell : H[q]? = some ce) (hv : ce.vm = .none) (hcl : s.vm.findClass E = some ce.cls)
    (kk : W p l e R s m args below meth c H locs cells slots Q (F0 m x.handlerPc ls [.ref q])) : vx_W p l e R s m args below meth c H locs cells slots Q (F0 m pc ls rest) q := by
  intro T hT X
  have hpl : e.platform.magicAccessors = ({} : Platform).magicAccessors := by rw [X.admits.platform]
  obtain ⟨c3, c4, hc3, hc4, hasg⟩ := Cond.castable_spec hcast
  cases Option.some.inj (hc3.symm.trans hcl)
  obtain ⟨c5, hc5, hcl5⟩ := Cond.classLink_spec hown hlink e.platform hpl
  cases Option.some.inj (hc4.symm.trans hc5)
  obtain ⟨vm', X', st⟩ := X.thenCaughtThrough q (g := F0 m pc ls rest) rfl (Steps.refl _) (by rw [hT]; exact hcell) (by rw [hv]; rfl) (by obtain ⟨k9, h9, -⟩ := Vm.findClass_spec hcl; exact ⟨k9, h9⟩) pre x suf hsplit
    (fun z hz => by
      rcases hpass z hz with h | ⟨hz0, nm, hl1, hn1⟩
      · exact Or.inl h
      · obtain ⟨c6, hc6, hcl6⟩ := Cond.classLink_spec hown hl1 e.platform hpl
        obtain ⟨a8, b8, h1, h2, h3⟩ := hn1
        cases Option.some.inj (h1.symm.trans hcl)
        cases Option.some.inj (h2.symm.trans hc6)
        exact Or.inr ⟨hz0, _, hcl6, h3⟩) hx (Or.inr ⟨h0, c4, hcl5, hasg⟩)
  obtain ⟨t, a1, b1⟩ := kk (T.setVm vm') hT X'
  exact ⟨t, st.trans a1, b1⟩
end Rows
section Ends
variable {p : Program} {l : Launch} {e : Env} {R : Room} {s : State} {m : MethodId} {args : Array Value} {below : List Frame} {meth : Method} {c : Code} {H : Heap} {locs : List Loc} {cells slots : Nat} {Q : State → Prop}
variable {mc ms : Nat} {free : Addr → Prop} {A0 A1 : Nat → Prop} {H0 : Heap} {a : Array Value} {ls : Array Slot} {st0 rest : List Value}
variable {Qc : Array Value → State → Outcome → State → Prop} {XC : String → State → State → Prop}
/-- what a body that may throw owes at its end -/
def vx_MQ (below : List Frame) (Qc : Array Value → State → Outcome → State → Prop) (XC : String → State → State → Prop) (a : Array Value) (s : State) (mc ms : Nat) (free : Addr → Prop) : State → Prop := fun t =>
  ∃ o, t.status = .running ∧ Ended t below o ∧ vx_Q Qc XC mc ms free a s o t
theorem vx_ret {g : JFrame} {mc ms : Nat} (k : W p l e R s m args below meth c H locs cells slots (MQ below Qc args s mc ms free) g) : W p l e R s m args below meth c H locs cells slots (vx_MQ below Qc XC args s mc ms free) g := by
  intro T hT X
  obtain ⟨t, a1, o, b1, b2, b3, b4⟩ := k T hT X
  exact ⟨t, a1, o, b1, b2, Or.inl ⟨b3, b4⟩⟩
/-- not caught here: it goes on to the caller -/
theorem vx_widen {g : JFrame} {q : Addr} {k n : Nat} (h1 : cells ≤ k) (h2 : slots ≤ n) (kk : vx_W p l e R s m args below meth c H locs k n Q g q) : vx_W p l e R s m args below meth c H locs cells slots Q g q := fun T hT X => kk T hT (stand_widen X h1 h2)
theorem vx_out {pc : Nat} {E : String} {ce : Cell} {q : Addr} {mc ms : Nat} (hout : ∀ x ∈ c.exceptionTable.toList, covers x pc = false) (hlocks : meth.locks = false) (hcell : H[q]? = some ce) (hv : ce.vm = .none) (hcl : s.vm.findClass E = some ce.cls)
    (hx : ∀ t : State, t.heap = H → s.vm.Alike t.vm → XC E s t) (hf : ∀ z ∈ locs, free z.base) (hc : cells ≤ mc) (hs : slots ≤ ms) :
    vx_W p l e R s m args below meth c H locs cells slots (vx_MQ below Qc XC args s mc ms free) (F0 m pc ls rest) q := by
  intro T hT X
  obtain ⟨st1, hrun, hend, hW, hsm⟩ := X.leaveThrown q (g := F0 m pc ls rest) rfl rfl rfl hout hlocks
  have hcell9 : (T.setFrames (.throwing q :: below)).heap[q]? = some ce := by
    show T.heap[q]? = some ce
    rw [hT]; exact hcell
  exact ⟨_, st1, .threw q, hrun, hend, Or.inr ⟨q, rfl, E, ce, locs, hx _ hT hW.alike, hcell9, hv, hcl, hW, hsm.mono hc hs, hf⟩⟩
theorem vx_frame {U : State} {k n : Nat} (h : s.sameButNew ({ U with vm := s.vm } : State) locs k n) : s.heap.size ≤ U.heap.size ∧ ∀ q : Nat, q < s.heap.size → (∀ z ∈ locs, z.base ≠ q) → U.heap[q]? = s.heap[q]? := by
  obtain ⟨-, h2, -, -, -, h6⟩ := h
  refine ⟨h2, fun q hq hz => ?_⟩
  obtain ⟨c9, e1, e2, e3, e4⟩ := h6 q _ (Array.getElem?_eq_getElem hq)
  have hs : c9.slots = (s.heap[q]).slots := Array.ext_getElem? fun i => e4 i fun hm => hz _ hm rfl
  have h9 : c9 = s.heap[q] := by
    rw [hs] at e2
    exact e2
  have e5 : U.heap[q]? = some c9 := e1
  rw [e5, h9, Array.getElem?_eq_getElem hq]
/-- the words of a throw but the four that speak of the heap -/
def vx_no (w : Cond) : Bool := decide (w ≠ .isRef (.static Bundle.tN "UNASSIGNED_STACK" Bundle.steD)) && decide (w ≠ .isRef (.static Bundle.tN "SUPPRESSED_SENTINEL" Bundle.listD)) && decide (w ≠ .laysStatic Bundle.tN "UNASSIGNED_STACK" Bundle.steD) && decide (w ≠ .laysStatic Bundle.tN "SUPPRESSED_SENTINEL" Bundle.listD)
def vx_at0 (own : String) (ic : Nat) (X : String) (names : List String) : List Cond := (Bundle.ownAtoms0 own ic X names).filter vx_no
def vx_atS (own : String) (ic : Nat) (X : String) (names : List String) : List Cond := (Bundle.ownAtoms own ic X names).filter vx_no
/-- a word that the tables alone decide, or a good one -/
def vx_ot (w : Cond) : Bool := w.onTables || goodWord w
theorem vx_ot_at {args a' : Array Value} {s U : State} {w : Cond} (hW : s.WarmedH U.vm) (hvm : s.vm = U.vm) (hg : vx_ot w = true) (h : w.before args s = true) : w.before a' U = true := by
  simp only [vx_ot, Bool.or_eq_true] at hg
  rcases hg with hg | hg
  · exact va_tabs hg hvm h
  · exact word_at hW (good_of_word hg) h
/-- a list's words: the good ones out of the method's own list, the others by premises of their own -/
theorem vx_hat {args : Array Value} {s : State} {L B : List Cond} (h1 : ∀ w ∈ L.filter goodWord, w.before args s = true) (h2 : ∀ w ∈ L.filter (fun w => !goodWord w), w ∈ B) (h3 : ∀ w ∈ B, w.before args s = true) : ∀ w ∈ L, w.before args s = true := by
  intro w hw
  by_cases g : goodWord w = true
  · exact h1 w (List.mem_filter.mpr ⟨hw, g⟩)
  · refine h3 w (h2 w (List.mem_filter.mpr ⟨hw, ?_⟩))
    show (!goodWord w) = true
    cases hgw : goodWord w
    · rfl
    · exact absurd hgw g
theorem vx_c {args : Array Value} {s : State} {w : Cond} {B : List Cond} (h : w.before args s = true) (t : ∀ w ∈ B, w.before args s = true) : ∀ w' ∈ w :: B, w'.before args s = true := fun w' h' => (List.mem_cons.mp h').elim (fun e => by rw [e]; exact h) (t w')
theorem vx_n {args : Array Value} {s : State} : ∀ w ∈ ([] : List Cond), w.before args s = true := fun _ h => nomatch h
theorem vx_own {args : Array Value} {s : State} {L : List Cond} (h1 : ∀ w ∈ L.filter vx_no, w.before args s = true)
    (hU : (Cond.isRef (.static Bundle.tN "UNASSIGNED_STACK" Bundle.steD)).before args s = true) (hN : (Cond.isRef (.static Bundle.tN "SUPPRESSED_SENTINEL" Bundle.listD)).before args s = true)
    (lU : (Cond.laysStatic Bundle.tN "UNASSIGNED_STACK" Bundle.steD).before args s = true) (lN : (Cond.laysStatic Bundle.tN "SUPPRESSED_SENTINEL" Bundle.listD).before args s = true) : ∀ w ∈ L, w.before args s = true := by
  intro w hw
  by_cases e1 : w = .isRef (.static Bundle.tN "UNASSIGNED_STACK" Bundle.steD)
  · rw [e1]; exact hU
  · by_cases e2 : w = .isRef (.static Bundle.tN "SUPPRESSED_SENTINEL" Bundle.listD)
    · rw [e2]; exact hN
    · by_cases e3 : w = .laysStatic Bundle.tN "UNASSIGNED_STACK" Bundle.steD
      · rw [e3]; exact lU
      · by_cases e4 : w = .laysStatic Bundle.tN "SUPPRESSED_SENTINEL" Bundle.listD
        · rw [e4]; exact lN
        · exact h1 w (List.mem_filter.mpr ⟨hw, by unfold vx_no; rw [decide_eq_true e1, decide_eq_true e2, decide_eq_true e3, decide_eq_true e4]; rfl⟩)
/-- where a static field lies, its class's statics cell in H -/
def vx_L (C n d : String) (A : Nat → Prop) (U : State) (H : Heap) : Prop := ∃ (c : ClassId) (k : Class) (i : Nat) (f : Field) (a : Nat) (cell : Cell), U.vm.findClass C = some c ∧ U.fieldFound? C n d = some (c, k, i, f) ∧ f.isStatic = true ∧ k.statics = some a ∧ H[a]? = some cell ∧ cell.vm.isStatics = true ∧ cell.cls = c ∧ f.slot < cell.slots.size ∧ k.staticTypes[f.slot]? = some f.type ∧ ¬ A a
theorem vx_L.moved {C n d : String} {A : Nat → Prop} {u U : State} {H : Heap} (hvm : u.vm.Alike U.vm) (h : vx_L C n d A u H) : vx_L C n d A U H := by
  obtain ⟨c, k, i, f, a, cell, h1, h2, h3, h4, h5, h6, h7, h8, h9, h10⟩ := h
  obtain ⟨k', hi', he⟩ := State.fieldFound?_setVm hvm h2
  exact ⟨c, k', i, f, a, cell, by rw [hvm.findClass]; exact h1, hi', h3, by rw [he]; exact h4, h5, h6, h7, h8, by rw [he]; exact h9, h10⟩
theorem vx_L.kept {C n d : String} {A : Nat → Prop} {U : State} {H H1 : Heap} (h : vx_L C n d A U H) (hq : ∀ a : Nat, a < H.size → ¬ A a → H1[a]? = H[a]?) : vx_L C n d A U H1 := by
  obtain ⟨c, k, i, f, a, cell, h1, h2, h3, h4, h5, h6, h7, h8, h9, h10⟩ := h
  exact ⟨c, k, i, f, a, cell, h1, h2, h3, h4, by rw [hq a (Array.getElem?_eq_some_iff.mp h5).1 h10]; exact h5, h6, h7, h8, h9, h10⟩
theorem vx_L.narrow {C n d : String} {A B : Nat → Prop} {U : State} {H : Heap} (h : vx_L C n d A U H) (hAB : ∀ q, B q → A q) : vx_L C n d B U H := by
  obtain ⟨c, k, i, f, a, cell, h1, h2, h3, h4, h5, h6, h7, h8, h9, h10⟩ := h
  exact ⟨c, k, i, f, a, cell, h1, h2, h3, h4, h5, h6, h7, h8, h9, fun z => h10 (hAB _ z)⟩
theorem vx_L.word {C n d : String} {A : Nat → Prop} {s : State} {args : Array Value} (h : vx_L C n d A s s.heap) : (Cond.laysStatic C n d).before args s = true := by
  obtain ⟨c, k, i, f, a, cell, h1, h2, h3, h4, h5, h6, h7, h8, h9, -⟩ := h
  show (Cond.laysStatic C n d).holds args s none s [] = true
  exact Cond.laysStatic_of h1 h2 h3 h4 h5 h6 h7 h8 h9
/-- .. and what it holds: null or some reference -/
def vx_Zq (C n d : String) (A : Nat → Prop) (U : State) (H : Heap) : Prop := va_Zq C n d A U H ∧ vx_L C n d A U H
theorem vx_Zq.moved {C n d : String} {A : Nat → Prop} {u U : State} {H : Heap} (hvm : u.vm.Alike U.vm) (h : vx_Zq C n d A u H) : vx_Zq C n d A U H := ⟨va_Zq.moved hvm h.1, vx_L.moved hvm h.2⟩
theorem vx_Zq.kept {C n d : String} {A : Nat → Prop} {U : State} {H H1 : Heap} (h : vx_Zq C n d A U H) (hq : ∀ a : Nat, a < H.size → ¬ A a → H1[a]? = H[a]?) : vx_Zq C n d A U H1 := ⟨va_Zq.kept h.1 hq, vx_L.kept h.2 hq⟩
theorem vx_Zq.narrow {C n d : String} {A B : Nat → Prop} {U : State} {H : Heap} (h : vx_Zq C n d A U H) (hAB : ∀ q, B q → A q) : vx_Zq C n d B U H := ⟨va_Zq.narrow h.1 hAB, vx_L.narrow h.2 hAB⟩
theorem vx_Zqof {args : Array Value} {s : State} {C n d : String} {A : Nat → Prop} (hl : (Cond.laysStatic C n d).before args s = true) (hini : (Cond.initialized C).before args s = true) (h : (Cond.isRef (.static C n d)).before args s = true) (hA : ∀ a : Nat, a < s.heap.size → ¬ A a) : vx_Zq C n d A s s.heap := by
  refine ⟨va_Zqof hl hini h hA, ?_⟩
  obtain ⟨c, k, i, f, a, cell, h1, h2, h3, h4, h5, h6, h7, h8, h9⟩ := Cond.laysStatic_spec hl
  exact ⟨c, k, i, f, a, cell, h1, h2, h3, h4, h5, h6, h7, h8, h9, hA a (Array.getElem?_eq_some_iff.mp h5).1⟩
theorem vx_isRef {C n d : String} {v : Value} {A : Nat → Prop} {s : State} {args : Array Value} (h : va_Z C n d v A s s.heap) (hv : v.isRef = true) : (Cond.isRef (.static C n d)).before args s = true := by
  obtain ⟨cf, kf, fi, f, a, cell, h1, h2, h3, h4, h5, h6, h7, -⟩ := h
  have he : (Term.static C n d).eval args s none [] s = some v := by
    simp [Term.eval, State.fieldNamed?, h1, h2, h4, h5, h6, h7]
  simp only [Cond.before, Cond.holds, Cond.value, he]
  cases v <;> simp_all [Value.isRef]
theorem vx_isRefq {C n d : String} {A : Nat → Prop} {s : State} {args : Array Value} (h : va_Zq C n d A s s.heap) : (Cond.isRef (.static C n d)).before args s = true := by
  rcases h with h | ⟨t, h⟩
  · exact vx_isRef h rfl
  · exact vx_isRef h rfl
/-- the same frame, seen from here: as if the method were called anew in this heap -/
theorem vx_rebase {T : State} (X : Stand p l e R s m args below meth c T locs cells slots) {R' : Room} (hf : R'.frames ≤ R.frames) (hl : R'.locals ≤ R.locals) (hc : cells + R'.cells ≤ R.cells) (hs : slots + R'.slots ≤ R.slots) :
    Stand p l e R' ((T.setVm s.vm).setFrames (.invoking m args :: below)) m args below meth c T [] 0 0 := by
  have htop : (T.setVm s.vm).topJava?.isSome := X.here.top
  have hF : ((T.setVm s.vm).setFrames (.invoking m args :: below)).frames = .invoking m args :: below := State.frames_setFrames _ (State.cur_lt_of_top htop)
  obtain ⟨g₀, hg0⟩ := Option.isSome_iff_exists.mp htop
  obtain ⟨r, hr⟩ := State.topJava?_eq_some.mp hg0
  have hl9 : e.platform.stackLimits (T.setVm s.vm).me = e.platform.stackLimits s.me := X.limits
  have hb9 : (T.setVm s.vm).me.stackBytes = s.me.stackBytes := X.bytes
  refine ⟨X.admits, X.cas, X.clock, hF, ?_, X.hears, X.method, X.code, X.here, X.tail, X.warmed, ?_, ?_, ?_⟩
  · have h := X.room
    have hU : ((T.setVm s.vm).setFrames (.invoking m args :: below)).localsInUse = s.localsInUse := by
      rw [State.localsInUse_invoking hF (meth := meth) (c := c) X.method X.code, State.localsInUse_invoking X.frames X.method X.code]
    simp only [State.hasRoom, Bool.and_eq_true, decide_eq_true_eq] at h ⊢
    obtain ⟨⟨⟨⟨h1, h2, h3, h4, h5, h6⟩, h7⟩, h8⟩, h9⟩ := h
    rw [X.frames, List.length_cons] at h2 h3
    have q1 := X.heapSize
    have q2 := X.used
    simp only [hF, hU, List.length_cons, State.stackLimits_setFrames, State.stackBytes_setFrames, hl9, hb9]
    refine ⟨⟨⟨⟨by omega, by omega, by omega, by omega, by omega, h6⟩, ?_⟩, ?_⟩, X.book⟩
    · show T.heap.size + R'.cells ≤ e.platform.maxCells
      omega
    · show T.slotsUsed + R'.slots ≤ e.platform.maxSlots
      omega
  · rw [State.stackLimits_setFrames]; rfl
  · rw [State.stackBytes_setFrames]; rfl
  · refine ⟨?_, Nat.le_refl _, Nat.le_refl _, ?_, ?_, fun a c9 h9 => ⟨c9, h9, rfl, rfl, fun _ _ => rfl⟩⟩
    · obtain ⟨t, ht, -⟩ := State.frames_cons hr
      show T.setVm s.vm = { ((T.setVm s.vm).setFrames (.invoking m args :: below)).setFrames (T.setVm s.vm).frames with heap := T.heap, slotsUsed := T.slotsUsed }
      rw [State.setFrames_setFrames, State.setFrames_self ht]
      rfl
    · show T.slotsUsed = T.slotsUsed + ((T.heap.toList.drop T.heap.size).map (·.slots.size)).sum
      rw [List.drop_eq_nil_of_le (Nat.le_of_eq Array.length_toList)]
      rfl
    · show ((T.heap.toList.drop T.heap.size).map (·.slots.size)).sum ≤ 0
      rw [List.drop_eq_nil_of_le (Nat.le_of_eq Array.length_toList)]
      exact Nat.le_refl _
/-- 'throw new E()': new; dup; invokespecial; athrow -/
theorem vx_throw0 {cc : ByteArray} {pc : Nat} (hexec : p.tables.exec = Jvm.exec) (hb : c.code = cc) (hl : l.stackTraces = false) {own cls : String} {names : List String} {ik ic mc ms : Nat} {A : Nat → Prop}
    (hown : s.vm.findClass own = some m.cls) (hcls : Bundle.fit cls = true) (hnames : ∀ n ∈ names, Bundle.fit n = true)
    (hk : (Cond.classLink own ik cls).before args s = true) (hini : (Cond.initialized cls).before args s = true) (hat : ∀ w ∈ vx_at0 own ic cls names, w.before args s = true)
    (hgood : ∀ w ∈ Cond.classLink own ik cls :: Cond.initialized cls :: vx_at0 own ic cls names, vx_ot w = true)
    (hU : vx_Zq Bundle.tN "UNASSIGNED_STACK" Bundle.steD A s s.heap) (hN : vx_Zq Bundle.tN "SUPPRESSED_SENTINEL" Bundle.listD A s s.heap) (hS : va_S A s.heap H locs) (hsize : ls.size = c.maxLocals)
    (d0 : decode cc pc = .ok (.new ik, 3)) (d3 : decode cc (pc + 3) = .ok (.dup, 1)) (d4 : decode cc (pc + 4) = .ok (.invokespecial ic, 3)) (d7 : decode cc (pc + 7) = .ok (.athrow, 1))
    (hout : ∀ x ∈ c.exceptionTable.toList, covers x (pc + 7) = false)
    (hRframes : names.length + 3 < R.frames) (hRlocals : (rest.map fun v => v.category).sum + (13 * (names.length + 1) + 42) ≤ R.locals) (hRcells : cells + 1 ≤ R.cells) (hRslots : slots + 6 ≤ R.slots) (hlocks : meth.locks = false)
    (hx : ∀ t : State, s.vm.Alike t.vm → H.size ≤ t.heap.size → (∀ q : Nat, q < H.size → t.heap[q]? = H[q]?) → XC cls s t)
    (hf : ∀ z ∈ locs, free z.base) (hc : cells + 1 ≤ mc) (hs : slots + 6 ≤ ms) :
    W p l e R s m args below meth c H locs cells slots (vx_MQ below Qc XC args s mc ms free) (F0 m pc ls rest) := by
  intro T hT X
  have htr : e.platform.stackTraces = false := (show e.platform.stackTraces = l.stackTraces by rw [X.admits.platform]).trans hl
  have Y := vx_rebase X (R' := { frames := R.frames, locals := R.locals, cells := 1, slots := 6 }) (Nat.le_refl _) (Nat.le_refl _) hRcells hRslots
  obtain ⟨s', hA⟩ : ∃ z, z = (T.setVm s.vm).setFrames (.invoking m args :: below) := ⟨_, rfl⟩
  rw [← hA] at Y
  have hvm : s'.vm = s.vm := by rw [hA]; rfl
  have hhp : s'.heap = H := by rw [hA]; exact hT
  have hW0 : s.WarmedH s'.vm := by rw [hvm]; exact State.WarmedH.refl s
  have hat' : ∀ w ∈ vx_at0 own ic cls names, w.before args s' = true := fun w hw => vx_ot_at hW0 hvm.symm (hgood w (List.mem_cons_of_mem _ (List.mem_cons_of_mem _ hw))) (hat w hw)
  have hk' : (Cond.classLink own ik cls).before args s' = true := vx_ot_at hW0 hvm.symm (hgood _ List.mem_cons_self) hk
  have hini' : (Cond.initialized cls).before args s' = true := vx_ot_at hW0 hvm.symm (hgood _ (List.mem_cons_of_mem _ List.mem_cons_self)) hini
  have hU' : vx_Zq Bundle.tN "UNASSIGNED_STACK" Bundle.steD A s' s'.heap := by rw [hhp]; exact vx_Zq.moved hW0.alike (hU.kept hS.2.1)
  have hN' : vx_Zq Bundle.tN "SUPPRESSED_SENTINEL" Bundle.listD A s' s'.heap := by rw [hhp]; exact vx_Zq.moved hW0.alike (hN.kept hS.2.1)
  have h : ∀ w ∈ Bundle.ownAtoms0 own ic cls names, w.before args s' = true := vx_own hat' (vx_isRefq hU'.1) (vx_isRefq hN'.1) hU'.2.word hN'.2.word
  have hown' : s'.vm.findClass own = some m.cls := by rw [hvm]; exact hown
  have hins : (Cond.instantiable cls 6).before args s' = true := h _ (by simp [Bundle.ownAtoms0])
  obtain ⟨vm₁, cX, kX, hfX, hkX, -, -, X₁, st1⟩ := Y.newCold hexec (own := own) (C := cls) (index := ik) (n := 6) hown' hk' hins hini'
    (g := F0 m pc ls rest) rfl (by rw [hb]; exact d0) (Nat.le_refl _) (Nat.le_refl _)
  generalize hT1 : (T.setVm vm₁).pushCell { cls := cX, slots := kX.instanceTypes.map defaultValue, vm := .none } = T1 at X₁ st1
  have hcat : (Value.ref T.heap.size).category = 1 := rfl
  have hcellA : T1.heap[T.heap.size]? = some (freshCell cX kX) := by rw [← hT1]; exact State.heap_pushCell_size _ _
  have d3' : decode c.code (pc + 3) = .ok (.dup, 1) := by rw [hb]; exact d3
  obtain ⟨U, hsteps, hrun, hend, hW, hsame, ce, hce, hO⟩ := X₁.ctorThrow0 hexec htr (own := own) (cls := cls) (names := names) (ic := ic) hown' hcls hnames h (fun x hx => nomatch hx) hfX hkX hcellA (by rw [hhp, hT]; exact Nat.le_refl _)
    (g := { method := m, pc := pc + 4, locals := ls, stack := .ref T.heap.size :: .ref T.heap.size :: rest, locked := none }) rfl hsize rfl rfl (rest := rest) rfl
    (by rw [hb]; exact d4) (by rw [hb]; exact d7) hout hRframes (by simp only [List.map_cons, List.sum_cons, hcat]; omega) hlocks
  obtain ⟨f1, f2⟩ := vx_frame hsame
  rw [hhp] at f1 f2
  have hWs : s.WarmedH U.vm := State.WarmedH.trans hW0 hW
  have hcl : s.vm.findClass cls = some ce.cls := by
    have h9 := hO.cls
    rw [hvm] at h9
    exact h9
  have hall : s.sameButNew ({ U with vm := s.vm } : State) locs mc ms := by
    subst hA
    obtain ⟨e1, e2⟩ := hsame
    rw [State.setFrames_setFrames] at e1
    have h2 : (T.setVm s.vm).sameButNew ({ U with vm := s.vm } : State) [] (0 + 1) (0 + 6) := ⟨e1, e2⟩
    have h3 := X.same.trans h2
    rw [List.append_nil] at h3
    exact h3.mono hc hs
  refine ⟨U, ?_, .threw T.heap.size, hrun, hend, Or.inr ⟨T.heap.size, rfl, cls, ce, locs, hx U hWs.alike f1 (fun q hq => f2 q hq (fun z hz => nomatch hz)), hce, hO.vm, hcl, hWs, hall, hf⟩⟩
  refine st1 _ ?_
  show Steps p.tables e below (T1.setTop { method := m, pc := pc + 3, locals := ls, stack := .ref T.heap.size :: rest, locked := none }) _
  jvm_step X₁.here [X₁.here.top, hexec, d3', Value.category]
  exact hsteps
/-- 'throw new E("text")': new; dup; ldc; invokespecial; athrow -/
theorem vx_throwS {cc : ByteArray} {pc : Nat} (hexec : p.tables.exec = Jvm.exec) (hb : c.code = cc) (hl : l.stackTraces = false) {own cls text : String} {names : List String} {ik is ic mc ms sa : Nat} {A : Nat → Prop}
    (hown : s.vm.findClass own = some m.cls) (hcls : Bundle.fit cls = true) (hnames : ∀ n ∈ names, Bundle.fit n = true)
    (hk : (Cond.classLink own ik cls).before args s = true) (hini : (Cond.initialized cls).before args s = true) (hstr : vk_R own is text sa s) (hat : ∀ w ∈ vx_atS own ic cls names, w.before args s = true)
    (hgood : ∀ w ∈ Cond.classLink own ik cls :: Cond.initialized cls :: vx_atS own ic cls names, vx_ot w = true)
    (hU : vx_Zq Bundle.tN "UNASSIGNED_STACK" Bundle.steD A s s.heap) (hN : vx_Zq Bundle.tN "SUPPRESSED_SENTINEL" Bundle.listD A s s.heap) (hS : va_S A s.heap H locs) (hsize : ls.size = c.maxLocals)
    (d0 : decode cc pc = .ok (.new ik, 3)) (d3 : decode cc (pc + 3) = .ok (.dup, 1)) (d4 : decode cc (pc + 4) = .ok (.ldc is, 2)) (d6 : decode cc (pc + 6) = .ok (.invokespecial ic, 3)) (d9 : decode cc (pc + 9) = .ok (.athrow, 1))
    (hout : ∀ x ∈ c.exceptionTable.toList, covers x (pc + 9) = false)
    (hRframes : names.length + 3 < R.frames) (hRlocals : (rest.map fun v => v.category).sum + (13 * (names.length + 1) + 43) ≤ R.locals) (hRcells : cells + 1 ≤ R.cells) (hRslots : slots + 6 ≤ R.slots) (hlocks : meth.locks = false)
    (hx : ∀ t : State, s.vm.Alike t.vm → H.size ≤ t.heap.size → (∀ q : Nat, q < H.size → t.heap[q]? = H[q]?) → XC cls s t)
    (hf : ∀ z ∈ locs, free z.base) (hc : cells + 1 ≤ mc) (hs : slots + 6 ≤ ms) :
    W p l e R s m args below meth c H locs cells slots (vx_MQ below Qc XC args s mc ms free) (F0 m pc ls rest) := by
  intro T hT X
  have htr : e.platform.stackTraces = false := (show e.platform.stackTraces = l.stackTraces by rw [X.admits.platform]).trans hl
  have Y := vx_rebase X (R' := { frames := R.frames, locals := R.locals, cells := 1, slots := 6 }) (Nat.le_refl _) (Nat.le_refl _) hRcells hRslots
  obtain ⟨s', hA⟩ : ∃ z, z = (T.setVm s.vm).setFrames (.invoking m args :: below) := ⟨_, rfl⟩
  rw [← hA] at Y
  have hvm : s'.vm = s.vm := by rw [hA]; rfl
  have hhp : s'.heap = H := by rw [hA]; exact hT
  have hW0 : s.WarmedH s'.vm := by rw [hvm]; exact State.WarmedH.refl s
  have hat' : ∀ w ∈ vx_atS own ic cls names, w.before args s' = true := fun w hw => vx_ot_at hW0 hvm.symm (hgood w (List.mem_cons_of_mem _ (List.mem_cons_of_mem _ hw))) (hat w hw)
  have hk' : (Cond.classLink own ik cls).before args s' = true := vx_ot_at hW0 hvm.symm (hgood _ List.mem_cons_self) hk
  have hini' : (Cond.initialized cls).before args s' = true := vx_ot_at hW0 hvm.symm (hgood _ (List.mem_cons_of_mem _ List.mem_cons_self)) hini
  have hU' : vx_Zq Bundle.tN "UNASSIGNED_STACK" Bundle.steD A s' s'.heap := by rw [hhp]; exact vx_Zq.moved hW0.alike (hU.kept hS.2.1)
  have hN' : vx_Zq Bundle.tN "SUPPRESSED_SENTINEL" Bundle.listD A s' s'.heap := by rw [hhp]; exact vx_Zq.moved hW0.alike (hN.kept hS.2.1)
  have h : ∀ w ∈ Bundle.ownAtoms own ic cls names, w.before args s' = true := vx_own hat' (vx_isRefq hU'.1) (vx_isRefq hN'.1) hU'.2.word hN'.2.word
  have hown' : s'.vm.findClass own = some m.cls := by rw [hvm]; exact hown
  have hins : (Cond.instantiable cls 6).before args s' = true := h _ (by simp [Bundle.ownAtoms])
  obtain ⟨vm₁, cX, kX, hfX, hkX, -, -, X₁, st1⟩ := Y.newCold hexec (own := own) (C := cls) (index := ik) (n := 6) hown' hk' hins hini'
    (g := F0 m pc ls rest) rfl (by rw [hb]; exact d0) (Nat.le_refl _) (Nat.le_refl _)
  generalize hT1 : (T.setVm vm₁).pushCell { cls := cX, slots := kX.instanceTypes.map defaultValue, vm := .none } = T1 at X₁ st1
  have hcat : (Value.ref T.heap.size).category = 1 := rfl
  have hcellA : T1.heap[T.heap.size]? = some (freshCell cX kX) := by rw [← hT1]; exact State.heap_pushCell_size _ _
  have d3' : decode c.code (pc + 3) = .ok (.dup, 1) := by rw [hb]; exact d3
  have d4' : decode c.code (pc + 4) = .ok (.ldc is, 2) := by rw [hb]; exact d4
  have hstr' : vk_R own is text sa s' := vk_R.warm hW0 hstr
  obtain ⟨U, hsteps, hrun, hend, hW, hsame, ce, hce, hO⟩ := X₁.ctorThrowS hexec htr (own := own) (cls := cls) (names := names) (ic := ic) hown' hcls hnames h (fun x hx => nomatch hx) hfX hkX hcellA (by rw [hhp, hT]; exact Nat.le_refl _) (msg := .ref sa) rfl
    (g := { method := m, pc := pc + 6, locals := ls, stack := .ref sa :: .ref T.heap.size :: .ref T.heap.size :: rest, locked := none }) rfl hsize rfl rfl (rest := rest) rfl
    (by rw [hb]; exact d6) (by rw [hb]; exact d9) hout hRframes (by simp only [List.map_cons, List.sum_cons, hcat]; omega) hlocks
  obtain ⟨f1, f2⟩ := vx_frame hsame
  rw [hhp] at f1 f2
  have hWs : s.WarmedH U.vm := State.WarmedH.trans hW0 hW
  have hcl : s.vm.findClass cls = some ce.cls := by
    have h9 := hO.cls
    rw [hvm] at h9
    exact h9
  have hall : s.sameButNew ({ U with vm := s.vm } : State) locs mc ms := by
    subst hA
    obtain ⟨e1, e2⟩ := hsame
    rw [State.setFrames_setFrames] at e1
    have h2 : (T.setVm s.vm).sameButNew ({ U with vm := s.vm } : State) [] (0 + 1) (0 + 6) := ⟨e1, e2⟩
    have h3 := X.same.trans h2
    rw [List.append_nil] at h3
    exact h3.mono hc hs
  refine ⟨U, ?_, .threw T.heap.size, hrun, hend, Or.inr ⟨T.heap.size, rfl, cls, ce, locs, hx U hWs.alike f1 (fun q hq => f2 q hq (fun z hz => nomatch hz)), hce, hO.vm, hcl, hWs, hall, hf⟩⟩
  refine st1 _ ?_
  show Steps p.tables e below (T1.setTop { method := m, pc := pc + 3, locals := ls, stack := .ref T.heap.size :: rest, locked := none }) _
  jvm_step X₁.here [X₁.here.top, hexec, d3', Value.category]
  exact X₁.ldcString hexec (own := own) (text := text) (index := is) (a := sa) hown' hstr'.1 hstr'.2
    (g := { method := m, pc := pc + 4, locals := ls, stack := .ref T.heap.size :: .ref T.heap.size :: rest, locked := none }) rfl d4' _ hsteps
/-- 'throw new E("text")', the text by a wide index -/
theorem vx_throwSW {cc : ByteArray} {pc : Nat} (hexec : p.tables.exec = Jvm.exec) (hb : c.code = cc) (hl : l.stackTraces = false) {own cls text : String} {names : List String} {ik is ic mc ms sa : Nat} {A : Nat → Prop}
    (hown : s.vm.findClass own = some m.cls) (hcls : Bundle.fit cls = true) (hnames : ∀ n ∈ names, Bundle.fit n = true)
    (hk : (Cond.classLink own ik cls).before args s = true) (hini : (Cond.initialized cls).before args s = true) (hstr : vk_R own is text sa s) (hat : ∀ w ∈ vx_atS own ic cls names, w.before args s = true)
    (hgood : ∀ w ∈ Cond.classLink own ik cls :: Cond.initialized cls :: vx_atS own ic cls names, vx_ot w = true)
    (hU : vx_Zq Bundle.tN "UNASSIGNED_STACK" Bundle.steD A s s.heap) (hN : vx_Zq Bundle.tN "SUPPRESSED_SENTINEL" Bundle.listD A s s.heap) (hS : va_S A s.heap H locs) (hsize : ls.size = c.maxLocals)
    (d0 : decode cc pc = .ok (.new ik, 3)) (d3 : decode cc (pc + 3) = .ok (.dup, 1)) (d4 : decode cc (pc + 4) = .ok (.ldc_w is, 3)) (d7 : decode cc (pc + 7) = .ok (.invokespecial ic, 3)) (d10 : decode cc (pc + 10) = .ok (.athrow, 1))
    (hout : ∀ x ∈ c.exceptionTable.toList, covers x (pc + 10) = false)
    (hRframes : names.length + 3 < R.frames) (hRlocals : (rest.map fun v => v.category).sum + (13 * (names.length + 1) + 43) ≤ R.locals) (hRcells : cells + 1 ≤ R.cells) (hRslots : slots + 6 ≤ R.slots) (hlocks : meth.locks = false)
    (hx : ∀ t : State, s.vm.Alike t.vm → H.size ≤ t.heap.size → (∀ q : Nat, q < H.size → t.heap[q]? = H[q]?) → XC cls s t)
    (hf : ∀ z ∈ locs, free z.base) (hc : cells + 1 ≤ mc) (hs : slots + 6 ≤ ms) :
    W p l e R s m args below meth c H locs cells slots (vx_MQ below Qc XC args s mc ms free) (F0 m pc ls rest) := by
  intro T hT X
  have htr : e.platform.stackTraces = false := (show e.platform.stackTraces = l.stackTraces by rw [X.admits.platform]).trans hl
  have Y := vx_rebase X (R' := { frames := R.frames, locals := R.locals, cells := 1, slots := 6 }) (Nat.le_refl _) (Nat.le_refl _) hRcells hRslots
  obtain ⟨s', hA⟩ : ∃ z, z = (T.setVm s.vm).setFrames (.invoking m args :: below) := ⟨_, rfl⟩
  rw [← hA] at Y
  have hvm : s'.vm = s.vm := by rw [hA]; rfl
  have hhp : s'.heap = H := by rw [hA]; exact hT
  have hW0 : s.WarmedH s'.vm := by rw [hvm]; exact State.WarmedH.refl s
  have hat' : ∀ w ∈ vx_atS own ic cls names, w.before args s' = true := fun w hw => vx_ot_at hW0 hvm.symm (hgood w (List.mem_cons_of_mem _ (List.mem_cons_of_mem _ hw))) (hat w hw)
  have hk' : (Cond.classLink own ik cls).before args s' = true := vx_ot_at hW0 hvm.symm (hgood _ List.mem_cons_self) hk
  have hini' : (Cond.initialized cls).before args s' = true := vx_ot_at hW0 hvm.symm (hgood _ (List.mem_cons_of_mem _ List.mem_cons_self)) hini
  have hU' : vx_Zq Bundle.tN "UNASSIGNED_STACK" Bundle.steD A s' s'.heap := by rw [hhp]; exact vx_Zq.moved hW0.alike (hU.kept hS.2.1)
  have hN' : vx_Zq Bundle.tN "SUPPRESSED_SENTINEL" Bundle.listD A s' s'.heap := by rw [hhp]; exact vx_Zq.moved hW0.alike (hN.kept hS.2.1)
  have h : ∀ w ∈ Bundle.ownAtoms own ic cls names, w.before args s' = true := vx_own hat' (vx_isRefq hU'.1) (vx_isRefq hN'.1) hU'.2.word hN'.2.word
  have hown' : s'.vm.findClass own = some m.cls := by rw [hvm]; exact hown
  have hins : (Cond.instantiable cls 6).before args s' = true := h _ (by simp [Bundle.ownAtoms])
  obtain ⟨vm₁, cX, kX, hfX, hkX, -, -, X₁, st1⟩ := Y.newCold hexec (own := own) (C := cls) (index := ik) (n := 6) hown' hk' hins hini'
    (g := F0 m pc ls rest) rfl (by rw [hb]; exact d0) (Nat.le_refl _) (Nat.le_refl _)
  generalize hT1 : (T.setVm vm₁).pushCell { cls := cX, slots := kX.instanceTypes.map defaultValue, vm := .none } = T1 at X₁ st1
  have hcat : (Value.ref T.heap.size).category = 1 := rfl
  have hcellA : T1.heap[T.heap.size]? = some (freshCell cX kX) := by rw [← hT1]; exact State.heap_pushCell_size _ _
  have d3' : decode c.code (pc + 3) = .ok (.dup, 1) := by rw [hb]; exact d3
  have d4' : decode c.code (pc + 4) = .ok (.ldc_w is, 3) := by rw [hb]; exact d4
  have hstr' : vk_R own is text sa s' := vk_R.warm hW0 hstr
  obtain ⟨U, hsteps, hrun, hend, hW, hsame, ce, hce, hO⟩ := X₁.ctorThrowS hexec htr (own := own) (cls := cls) (names := names) (ic := ic) hown' hcls hnames h (fun x hx => nomatch hx) hfX hkX hcellA (by rw [hhp, hT]; exact Nat.le_refl _) (msg := .ref sa) rfl
    (g := { method := m, pc := pc + 7, locals := ls, stack := .ref sa :: .ref T.heap.size :: .ref T.heap.size :: rest, locked := none }) rfl hsize rfl rfl (rest := rest) rfl
    (by rw [hb]; exact d7) (by rw [hb]; exact d10) hout hRframes (by simp only [List.map_cons, List.sum_cons, hcat]; omega) hlocks
  obtain ⟨f1, f2⟩ := vx_frame hsame
  rw [hhp] at f1 f2
  have hWs : s.WarmedH U.vm := State.WarmedH.trans hW0 hW
  have hcl : s.vm.findClass cls = some ce.cls := by
    have h9 := hO.cls
    rw [hvm] at h9
    exact h9
  have hall : s.sameButNew ({ U with vm := s.vm } : State) locs mc ms := by
    subst hA
    obtain ⟨e1, e2⟩ := hsame
    rw [State.setFrames_setFrames] at e1
    have h2 : (T.setVm s.vm).sameButNew ({ U with vm := s.vm } : State) [] (0 + 1) (0 + 6) := ⟨e1, e2⟩
    have h3 := X.same.trans h2
    rw [List.append_nil] at h3
    exact h3.mono hc hs
  refine ⟨U, ?_, .threw T.heap.size, hrun, hend, Or.inr ⟨T.heap.size, rfl, cls, ce, locs, hx U hWs.alike f1 (fun q hq => f2 q hq (fun z hz => nomatch hz)), hce, hO.vm, hcl, hWs, hall, hf⟩⟩
  refine st1 _ ?_
  show Steps p.tables e below (T1.setTop { method := m, pc := pc + 3, locals := ls, stack := .ref T.heap.size :: rest, locked := none }) _
  jvm_step X₁.here [X₁.here.top, hexec, d3', Value.category]
  exact X₁.ldcStringW hexec (own := own) (text := text) (index := is) (a := sa) hown' hstr'.1 hstr'.2
    (g := { method := m, pc := pc + 4, locals := ls, stack := .ref T.heap.size :: .ref T.heap.size :: rest, locked := none }) rfl d4' _ hsteps
end Ends
section Bodies
variable {l : Launch}
theorem vx_ofW {y : MethodName} {ws ws' : List Cond} {rm : Room} {Pc : Array Value → State → Prop} {Qc : Array Value → State → Outcome → State → Prop} {XC : String → State → State → Prop} {mc ms : Nat} {free : Addr → Prop} {cc : ByteArray} {maxL : Nat} {ret : Option FieldType}
    (hy : plainName y.cls = true) (hw : ws = Cond.code y cc maxL ret :: ws')
    (body : ∀ p e s m args below meth c s₁, BodyLoose p l y (headSpec ws rm) cc maxL ret e s m args below meth c s₁ → c.maxLocals = maxL → (∀ x ∈ c.exceptionTable.toList, False) → Pc args s →
      W p l e (headSpec ws rm).room s m args below meth c s.heap [] 0 0 (vx_MQ below Qc XC args s mc ms free) (entryFrame m args maxL)) : vx_Met l y ws rm Pc Qc XC mc ms free := by
  refine MetFree.of_bodyS (code := cc) (maxLocals := maxL) (ret := ret) hy ?_ ?_
  · intro args s m h hn
    obtain ⟨meth, c, h1, h2, h3, h4, h5, h6, -, -⟩ := Cond.code_spec hn (atoms_spec (ws := ws) h _ (by rw [hw]; exact List.mem_cons_self))
    exact ⟨meth, c, h1, h2, h3, h4, h5, h6⟩
  · intro p e s m args below meth c s₁ B hml hP _
    have hh0 : s₁.heap = s.heap := by rw [B.state]; rfl
    have ht : ∀ x ∈ c.exceptionTable.toList, False := by
      obtain ⟨meth9, c9, h1, h2, -, -, -, -, h7, -⟩ := Cond.code_spec B.named (atoms_spec (ws := ws) B.pre _ (by rw [hw]; exact List.mem_cons_self))
      cases Option.some.inj (h1.symm.trans B.method)
      cases Option.some.inj (h2.symm.trans (Stand.of_body B).code)
      intro x hx
      rw [Array.isEmpty_iff.mp h7] at hx
      cases hx
    obtain ⟨t, a1, o, b1, b2, b3⟩ := body p e s m args below meth c s₁ B hml ht hP s₁ hh0 (Stand.of_body B)
    exact ⟨t, o, a1, b1, b2, b3⟩
/-- the table of a body with handlers -/
theorem vx_table {p : Program} {x y : MethodName} {S : Spec} {cc bytes : ByteArray} {maxL maxL' : Nat} {ret ret' : Option FieldType} {e : Env} {s s₁ : State} {m : MethodId} {args : Array Value} {below : List Frame} {meth : Method} {c : Code} {hh : List (Nat × Nat × Nat × Nat)}
    (B : BodyLoose p l y S cc maxL ret e s m args below meth c s₁) (h : (Cond.codeWith y bytes maxL' ret' hh).before args s = true) : c.exceptionTable.toList = tableOf hh := by
  obtain ⟨m9, meth9, c9, hn9, h1, h2, -, -, h6, -⟩ := Cond.codeWith_spec h
  cases Option.some.inj (hn9.symm.trans B.named)
  cases Option.some.inj (h1.symm.trans B.method)
  cases Option.some.inj (h2.symm.trans (Stand.of_body B).code)
  rw [← h6, table_eq]
end Bodies
end VXA
/-! ===== END ===== -/
/-! ===== BEGIN a static call of a method with an exception table ===== -/
section VXS
variable {p : Program} {l : Launch} {e : Env} {R : Room} {s : State} {m : MethodId} {args : Array Value} {below : List Frame} {meth : Method} {c : Code} {T : State} {H : Heap} {locs : List Loc} {cells slots : Nat}
abbrev vx_CSW (R : Room) (s : State) (args : Array Value) (own : String) (index : Nat) (y : MethodName) (bytes : ByteArray) (maxL : Nat) (ret : Option FieldType) (hh : List (Nat × Nat × Nat × Nat)) (ws : List Cond) (rm : Room) (mc ms n : Nat) : Prop :=
  (rm.cells = mc ∧ rm.slots = ms ∧ rm.frames + 1 ≤ R.frames ∧ 8 + (maxL + 11) + rm.locals ≤ R.locals ∧ (∀ w ∈ ws, ∀ (a' : Array Value) (U : State), s.WarmedH U.vm → w.before a' U = true) ∧ Cond.codeWith y bytes maxL ret hh ∈ ws) ∧
  (Cond.codeWith y bytes maxL ret hh).before args s = true ∧ (Cond.initialized y.cls).before args s = true ∧ (y.cls ≠ "java/lang/invoke/MethodHandle" ∧ y.cls ≠ "java/lang/invoke/VarHandle") ∧
  (∀ sig, parseMethodDescriptor y.desc = some sig → n = sig.parameters.length) ∧ (Cond.methodLink own index y).before args s = true ∧ (Cond.static y).before args s = true
theorem vx_cwSW {own : String} {index maxL mc ms : Nat} {y : MethodName} {bytes : ByteArray} {ret : Option FieldType} {hh : List (Nat × Nat × Nat × Nat)} {Ts ws ws' : List Cond} {rm : Room} (n : Nat) (ht : ∀ w ∈ Ts, w.before args s = true) (hT : GoodIn Ts (va_wsS own index y ws)) (hw : ws = Cond.codeWith y bytes maxL ret hh :: ws') (hrc : rm.cells = mc) (hrs : rm.slots = ms)
    (hd : y.cls ≠ "java/lang/invoke/MethodHandle" ∧ y.cls ≠ "java/lang/invoke/VarHandle" ∧ (parseMethodDescriptor y.desc).map (fun d => d.parameters.length) = some n) (hR : rm.frames + 1 ≤ R.frames ∧ 8 + (maxL + 11) + rm.locals ≤ R.locals) :
    vx_CSW R s args own index y bytes maxL ret hh ws rm mc ms n := by
  have ok : ∀ w ∈ va_wsS own index y ws, w.before args s = true := fun w h => ht w (hT w h).1
  have hG : GoodIn Ts ws := fun w h => hT w (by unfold va_wsS; exact List.mem_append_right _ h)
  have hc : Cond.codeWith y bytes maxL ret hh ∈ ws := by rw [hw]; exact List.mem_cons_self
  refine ⟨⟨hrc, hrs, hR.1, hR.2, pay_in ht hG, hc⟩, ht _ (hG _ hc).1, ok _ (by simp [va_wsS]), ⟨hd.1, hd.2.1⟩, fun sig h => ?_, ok _ (by simp [va_wsS]), ok _ (by simp [va_wsS])⟩
  have h2 := hd.2.2
  rw [h] at h2
  exact (Option.some.inj h2).symm
theorem vx_callSW (X : Stand p l e R s m args below meth c T locs cells slots) (hexec : p.tables.exec = Jvm.exec) {own : String} {index : Nat} {y : MethodName} {bytes : ByteArray} {maxL : Nat} {ret : Option FieldType} {hh : List (Nat × Nat × Nat × Nat)}
    (hown : s.vm.findClass own = some m.cls) (hlink : (Cond.methodLink own index y).before args s = true) (hstat : (Cond.static y).before args s = true) (hinit : (Cond.initialized y.cls).before args s = true)
    (hcode : (Cond.codeWith y bytes maxL ret hh).before args s = true) (hy : y.cls ≠ "java/lang/invoke/MethodHandle" ∧ y.cls ≠ "java/lang/invoke/VarHandle")
    {W9 : Nat} {Pre : Pt → Array Value → Prop} {Post : Pt → Array Value → Option Value → Pt → Prop} (hK : Back l R p e below s args y 3 W9 Pre Post)
    {g : JFrame} (hg : g.method = m) (hsize : g.locals.size = c.maxLocals) {argsL rest : List Value} (hlen : ∀ sig, parseMethodDescriptor y.desc = some sig → argsL.length = sig.parameters.length)
    (hstack : g.stack = argsL.reverse ++ rest) (hW : 2 * g.monitorRoom + (rest.map fun v => v.category).sum ≤ W9) (hdg : decode c.code g.pc = .ok (.invokestatic index, 3))
    (hpre : ∀ vm₁, s.WarmedH vm₁ → Pre ⟨T.setVm vm₁, locs, cells, slots⟩ argsL.toArray) :
    ∃ (v : Option Value) (vm₁ : Vm) (B : Pt), s.WarmedH vm₁ ∧ Stand p l e R s m args below meth c B.U B.locs B.cells B.slots ∧ Post ⟨T.setVm vm₁, locs, cells, slots⟩ argsL.toArray v B ∧
      ∀ target, Steps p.tables e below (B.U.setTop { g with pc := g.pc + 3, stack := v.toList ++ rest }) target → Steps p.tables e below (T.setTop g) target := by
  obtain ⟨mk, methM, cM, hnamed, hmethM, -, -, -, -, -, -, hsigM⟩ := Cond.codeWith_spec hcode
  have hstatic : methM.isStatic = true := Cond.static_spec hnamed hmethM hstat
  obtain ⟨kP, hkP, -⟩ := className_of_methodNamed hnamed
  have hinitP : kP.init = .initialized := Cond.initialized_spec (findClass_of_methodNamed hnamed) hkP hinit
  obtain ⟨vm₁, X₁, hstep₁⟩ := X.invokestatic hexec hown hlink hnamed hmethM hstatic hkP hinitP hy (g := g) hg (argsL := argsL) (rest := rest) (hlen _ hsigM) hstack hdg
  obtain ⟨v, B, X', hpost, hsteps⟩ := hK m meth c ⟨T.setVm vm₁, locs, cells, slots⟩ { g with stack := rest } (.invokestatic index) mk argsL.toArray X₁ hg hsize hdg hW (X₁.named hnamed) (hpre vm₁ X₁.warmed)
  exact ⟨v, vm₁, B, X₁.warmed, X', hpost, fun target h => hstep₁ _ fun acts => by rw [doInvoke_state]; exact hsteps.trans h⟩
theorem vx_runSW {y : MethodName} {bytes cc : ByteArray} {maxL nL mc ms n index : Nat} {ret : Option FieldType} {hh : List (Nat × Nat × Nat × Nat)} {ws : List Cond} {rm : Room} {Pc : Array Value → State → Prop} {Qc : Array Value → State → Outcome → State → Prop} {free : Addr → Prop} {Ts : List Cond} {own : String} {As rest : List Value} {g : JFrame}
    (S : CallFix p m c cc nL s args Ts own) (hM : Met l y ws rm Pc Qc mc ms free) (cw : vx_CSW R s args own index y bytes maxL ret hh ws rm mc ms n) (hp : PreS s H Pc As)
    (hg : g.method = m) (hn : As.length = n) (hsize : g.locals.size = nL) (hstack : g.stack = As.reverse ++ rest) (hW : 2 * g.monitorRoom + (rest.map fun v => v.category).sum ≤ 8) (hdg : decode cc g.pc = .ok (.invokestatic index, 3)) (hf : cells + mc ≤ R.cells ∧ slots + ms ≤ R.slots) :
    va_Run p l e R s m args below meth c H locs cells slots mc ms g rest (Qc As.toArray) (free) := by
  obtain ⟨⟨hrc, hrs, hfr, hlo, hws, hcw⟩, hcode, hini, hy, hlen, hl, hstt⟩ := cw
  have hK : Back l R p e below s args y 3 8 (PreOf R mc ms Pc) (PostOf Qc mc ms free) := va_backW (hh := hh) (bytes := bytes) (maxL := maxL) (ret := ret) hM hp.1 hrc hrs hfr hlo hws hcw (fun a' U hW => word_at hW (Or.inl (by first | rfl | simp [Cond.onTables, Cond.keeps, Cond.steady])) hini)
  obtain ⟨hx, hb, hml, ho, -⟩ := S
  intro T hT X
  obtain ⟨v, vm₁, ⟨U', l2, c2, s2⟩, hW₁, X', ⟨g', mk, t, L, e1, e2, hq, h1, hL, h2, h3⟩, st⟩ := vx_callSW X hx (hh := hh) (bytes := bytes) (maxL := maxL) (ret := ret) ho hl hstt hini hcode hy hK hg (hsize.trans hml.symm) (argsL := As) (rest := rest) (fun sig h => hn.trans (hlen sig h)) hstack hW (by rw [hb]; exact hdg)
    (fun vm₁ hW₁ => ⟨hf.1, hf.2, hp.2 (T.setVm vm₁) hT hW₁⟩)
  dsimp only [Pt.U, Pt.locs, Pt.cells, Pt.slots] at X' e1 e2 h1 h2 h3 st
  subst h1; subst h2; subst h3
  exact ⟨v, (T.setVm vm₁).calling g' mk As.toArray, t, U', L, hT, X', hL, e1, e2, hq, st⟩
/-- not caught here, past rows that name other classes: it goes on to the caller -/
theorem vx_outP {p : Program} {l : Launch} {e : Env} {R : Room} {s : State} {m : MethodId} {args : Array Value} {below : List Frame} {meth : Method} {c : Code} {H : Heap} {locs : List Loc} {cells slots : Nat} {free : Addr → Prop} {ls : Array Slot} {rest : List Value} {Qc : Array Value → State → Outcome → State → Prop} {XC : String → State → State → Prop}
    {pc : Nat} {own E : String} {ce : Cell} {q : Addr} {mc ms : Nat} (hown : s.vm.findClass own = some m.cls) (hlocks : meth.locks = false)
    (hpass : ∀ z ∈ c.exceptionTable.toList, covers z pc = false ∨ (z.catchType ≠ 0 ∧ ∃ nm : String, (Cond.classLink own z.catchType nm).before args s = true ∧ va_Nc E nm s)) (hcell : H[q]? = some ce) (hv : ce.vm = .none) (hcl : s.vm.findClass E = some ce.cls)
    (hx : ∀ t : State, t.heap = H → s.vm.Alike t.vm → XC E s t) (hf : ∀ z ∈ locs, free z.base) (hc : cells ≤ mc) (hs : slots ≤ ms) :
    vx_W p l e R s m args below meth c H locs cells slots (vx_MQ below Qc XC args s mc ms free) (F0 m pc ls rest) q := by
  intro T hT X
  have hpl : e.platform.magicAccessors = ({} : Platform).magicAccessors := by rw [X.admits.platform]
  obtain ⟨vm', hW', X', st⟩ := X.outThrough hlocks q (g := F0 m pc ls rest) rfl rfl rfl (cell := ce) (by rw [hT]; exact hcell) (by rw [hv]; rfl)
    (by obtain ⟨k9, h9, -⟩ := Vm.findClass_spec hcl; exact ⟨k9, h9⟩) (fun z hz => by
      rcases hpass z hz with h | ⟨hz0, nm, hl1, hn1⟩
      · exact Or.inl h
      · obtain ⟨c6, hc6, hcl6⟩ := Cond.classLink_spec hown hl1 e.platform hpl
        obtain ⟨a8, b8, h1, h2, h3⟩ := hn1
        cases Option.some.inj (h1.symm.trans hcl)
        cases Option.some.inj (h2.symm.trans hc6)
        exact Or.inr ⟨hz0, _, hcl6, h3⟩)
  obtain ⟨g₀, hfr⟩ := X'.frames_eq
  have hcell9 : ((T.setVm vm').setFrames (.throwing q :: below)).heap[q]? = some ce := by
    show T.heap[q]? = some ce
    rw [hT]; exact hcell
  have hend : Ended ((T.setVm vm').setFrames (.throwing q :: below)) below (.threw q) := State.frames_setFrames _ (State.cur_lt_of_frames hfr)
  refine ⟨(T.setVm vm').setFrames (.throwing q :: below), ?_, .threw q, X'.here.running, hend, Or.inr ⟨q, rfl, E, ce, locs, hx _ hT (X'.ends _).1.alike, hcell9, hv, hcl, (X'.ends _).1, (X'.ends _).2.mono hc hs, hf⟩⟩
  rw [X.pushThrowing_eq]
  exact st
/-- a thing of a world lies in the heap -/
theorem vx_lt {D : va_G} {cl : List vw_C} {ws : va_W} {H1 : Heap} (h : va_P D cl ws H1) {k : Nat} {q : Nat × va_E} (hk : ws[k]? = some q) : q.1 < H1.size := (h k q hk).lt
end VXS
/-! ===== END ===== -/
/-! ===== BEGIN methods with a table of their own: called by a name, returning or throwing ===== -/
section VXH
/-! vx_backW, vx_callVX, vx_callSX, vx_callVW, vx_runVW, vx_runVX, vx_runSX, vx_ofWH follow the same proofs as their sisters above (Free/Laws.lean, Shelf42/LK1.lean); vx_outP calls Shelf42/NT130.lean (outThrough). -/
section
variable {l : Launch} {R : Room} {p : Program} {e : Env} {below : List Frame} {s : State} {sargs : Array Value} {y : MethodName} {len W9 : Nat}
theorem vx_backW {ws : List Cond} {rm : Room} {Pc : Array Value → State → Prop} {Qc : Array Value → State → Outcome → State → Prop} {XC : String → State → State → Prop} {mc ms : Nat} {free : Addr → Prop} {bytes : ByteArray} {maxL : Nat} {ret : Option FieldType} {hh : List (Nat × Nat × Nat × Nat)}
    (hM : vx_Met l y ws rm Pc Qc XC mc ms free) (hblind : FrameBlind Pc) (hrc : rm.cells = mc) (hrs : rm.slots = ms)
    (hframes : rm.frames + 1 ≤ R.frames) (hlocals : W9 + (maxL + 11) + rm.locals ≤ R.locals)
    (hws : ∀ w ∈ ws, ∀ a' U, s.WarmedH U.vm → w.before a' U = true) (hcode : Cond.codeWith y bytes maxL ret hh ∈ ws) (hinit : ∀ a' U, s.WarmedH U.vm → (Cond.initialized y.cls).before a' U = true) :
    vx_Back l R p e below s sargs y len W9 (PreOf R mc ms Pc) (PostOf Qc mc ms free) (vx_Post XC mc ms free) := by
  intro m meth c A g ig mk a X hg hsize hdg hW hn hp
  have h1 : (headSpec ws rm).pre.before a A.U = true := atoms_intro fun w hw => hws w hw _ _ X.warmed
  have h2 : (Cond.codeWith y bytes maxL ret hh).before a A.U = true := hws _ hcode _ _ X.warmed
  have h3 : (Cond.initialized y.cls).before a A.U = true := hinit _ _ X.warmed
  have h4 : A.cells + (headSpec ws rm).room.cells ≤ R.cells := by rw [show (headSpec ws rm).room.cells = mc from hrc]; exact hp.1
  have h5 : A.slots + (headSpec ws rm).room.slots ≤ R.slots := by rw [show (headSpec ws rm).room.slots = ms from hrs]; exact hp.2.1
  have hPc : Pc a (A.U.calling g mk a) := hblind _ _ _ _ hp.2.2
  obtain ⟨U, Ls, c0, s0⟩ := A
  dsimp only [Pt.U, Pt.locs, Pt.cells, Pt.slots] at h1 h2 h3 h4 h5 X hn hPc ⊢
  obtain ⟨m9, methY, cY, hn9, hmY, hcY, -, hlY, -⟩ := Cond.codeWith_spec h2
  cases Option.some.inj (hn9.symm.trans hn)
  obtain ⟨kY, hkY, -⟩ := className_of_methodNamed hn
  have hinitY : kY.init = .initialized := Cond.initialized_spec (findClass_of_methodNamed hn) hkY h3
  have h : At U g.method c below := by rw [hg]; exact X.here
  have hlocals9 : W9 + (maxL + 11) + (headSpec ws rm).room.locals ≤ R.locals := hlocals
  have happ : (headSpec ws rm).appliesLoose y e.platform (U.calling g mk a) = true :=
    Spec.appliesLoose_calling (g := g) h hdg hn hkY hinitY
      (X.room_calling (g := g) (R' := (headSpec ws rm).room) hsize hmY hcY hframes (by rw [hlY]; omega) h4 h5) h1
  obtain ⟨mid, hmid⟩ := h.above
  have hfr : (U.setTop g).frames = (.java g :: mid) ++ below := by rw [State.frames_setTop' g h.top, hmid]; rfl
  obtain ⟨o, s₂, hsteps, -, hend, hq⟩ := Steps.callFree hM p X.admits X.cas X.clock (acts := []) hfr happ hPc trivial
  have hq' : vx_Q Qc XC mc ms free a (U.calling g mk a) o s₂ := hq
  rw [State.frames_setTop' g h.top] at hend
  obtain ⟨g₀, hg0⟩ := Option.isSome_iff_exists.mp h.top
  obtain ⟨r, hr⟩ := State.topJava?_eq_some.mp hg0
  have hr' : (({ U with heap := s₂.heap, slotsUsed := s₂.slotsUsed } : State).setVm s₂.vm).frames = .java g₀ :: r := hr
  rcases hq' with ⟨hqc, L, hfe, hL⟩ | ⟨q, rfl, E, ce, L, hx, hce, hcv, hcl, hW₂, hsm, hL⟩
  · obtain ⟨⟨v, rfl⟩, hW₂, e2, q2, q3, q4, q5, q6⟩ := id hfe
    have e3 : s₂ = ({ (U.calling g mk a).setFrames s₂.frames with heap := s₂.heap, slotsUsed := s₂.slotsUsed } : State).setVm s₂.vm := by
      have : s₂ = ({ s₂ with vm := (U.calling g mk a).vm } : State).setVm s₂.vm := rfl
      rw [e2] at this
      exact this
    obtain ⟨c₂, i₂, len₂, hc₂, hd₂, hf₂⟩ := hend
    have hW' : U.WarmedH s₂.vm := hW₂
    have hcc : c₂ = c := by
      have h1 : s₂.code? g.method = U.code? g.method := by
        rw [State.code?_eq, State.code?_eq, hW'.alike.method?]
      exact Option.some.inj (hc₂.symm.trans (h1.trans h.code))
    subst hcc
    have hlen : len₂ = len := by rw [hdg] at hd₂; cases hd₂; rfl
    subst hlen
    have hs₂ : s₂ = (({ U with heap := s₂.heap, slotsUsed := s₂.slotsUsed } : State).setVm s₂.vm).setTop { g with pc := g.pc + len₂, stack := v.toList ++ g.stack } := by
      refine e3.trans ?_
      rw [hf₂, State.calling_eq h.top, State.setFrames_setFrames, State.setTop_of_frames _ hr', hr]
      rfl
    have hsame : U.sameButNew ({ U with heap := s₂.heap, slotsUsed := s₂.slotsUsed } : State) L mc ms := by
      refine ⟨?_, q2, q3, q4, q5, q6⟩
      obtain ⟨t, ht, -⟩ := State.frames_cons hr
      show ({ U with heap := s₂.heap, slotsUsed := s₂.slotsUsed } : State) = { U.setFrames U.frames with heap := s₂.heap, slotsUsed := s₂.slotsUsed }
      rw [State.setFrames_self ht]
    subst hg
    refine Or.inl ⟨v, ⟨(({ U with heap := s₂.heap, slotsUsed := s₂.slotsUsed } : State).setVm s₂.vm), Ls ++ L, c0 + mc, s0 + ms⟩,
      ⟨X.admits, X.cas, X.clock, X.frames, X.room, X.hears, X.method, X.code, (X.here.setHeapUsed s₂.heap s₂.slotsUsed).setVm hW'.alike, X.tail, State.WarmedH.trans X.warmed hW', X.limits, X.bytes, X.same.trans (hsame.setVm s.vm)⟩,
      ⟨g, mk, s₂, L, rfl, rfl, hqc, rfl, hL, rfl, rfl⟩, ?_⟩
    show Steps p.tables e below _ ((({ U with heap := s₂.heap, slotsUsed := s₂.slotsUsed } : State).setVm s₂.vm).setTop { g with pc := g.pc + len₂, stack := v.toList ++ g.stack })
    rw [← hs₂]
    exact hsteps
  · obtain ⟨e2, q2, q3, q4, q5, q6⟩ := id hsm
    have e3 : s₂ = ({ (U.calling g mk a).setFrames s₂.frames with heap := s₂.heap, slotsUsed := s₂.slotsUsed } : State).setVm s₂.vm := by
      have : s₂ = ({ s₂ with vm := (U.calling g mk a).vm } : State).setVm s₂.vm := rfl
      rw [e2] at this
      exact this
    have hf₂ : s₂.frames = .throwing q :: .java g :: U.frames.tail := hend
    have hW' : U.WarmedH s₂.vm := hW₂
    have hs₂ : s₂ = ((({ U with heap := s₂.heap, slotsUsed := s₂.slotsUsed } : State).setVm s₂.vm).setTop g).pushFrame (.throwing q) := by
      refine e3.trans ?_
      rw [hf₂, State.calling_eq h.top, State.setFrames_setFrames, State.pushFrame, State.frames_setTop _ hr', State.setTop_of_frames _ hr', State.setFrames_setFrames, hr]
      rfl
    have hsame : U.sameButNew ({ U with heap := s₂.heap, slotsUsed := s₂.slotsUsed } : State) L mc ms := by
      refine ⟨?_, q2, q3, q4, q5, q6⟩
      obtain ⟨t, ht, -⟩ := State.frames_cons hr
      show ({ U with heap := s₂.heap, slotsUsed := s₂.slotsUsed } : State) = { U.setFrames U.frames with heap := s₂.heap, slotsUsed := s₂.slotsUsed }
      rw [State.setFrames_self ht]
    subst hg
    refine Or.inr ⟨q, ⟨(({ U with heap := s₂.heap, slotsUsed := s₂.slotsUsed } : State).setVm s₂.vm), Ls ++ L, c0 + mc, s0 + ms⟩,
      ⟨X.admits, X.cas, X.clock, X.frames, X.room, X.hears, X.method, X.code, (X.here.setHeapUsed s₂.heap s₂.slotsUsed).setVm hW'.alike, X.tail, State.WarmedH.trans X.warmed hW', X.limits, X.bytes, X.same.trans (hsame.setVm s.vm)⟩,
      ⟨g, mk, s₂, L, E, ce, rfl, rfl, hx, hce, hcv, hcl, rfl, hL, rfl, rfl⟩, ?_⟩
    show Steps p.tables e below _ (((({ U with heap := s₂.heap, slotsUsed := s₂.slotsUsed } : State).setVm s₂.vm).setTop g).pushFrame (.throwing q))
    rw [← hs₂]
    exact hsteps
end
variable {p : Program} {l : Launch} {e : Env} {R : Room} {s : State} {m : MethodId} {args : Array Value} {below : List Frame} {meth : Method} {c : Code} {T : State} {H : Heap} {locs : List Loc} {cells slots : Nat}
theorem vx_callVX (X : Stand p l e R s m args below meth c T locs cells slots) (hexec : p.tables.exec = Jvm.exec) {own C : String} {index : Nat} {y : MethodName} {bytes : ByteArray} {maxL : Nat} {ret : Option FieldType} {hh : List (Nat × Nat × Nat × Nat)}
    (hown : s.vm.findClass own = some m.cls) (hlink : (Cond.methodLink own index y).before args s = true) (hinst : (Cond.instanceMethod y).before args s = true) (hsel : (Cond.selects C y y).before args s = true)
    (hcode : (Cond.codeWith y bytes maxL ret hh).before args s = true) (hy : y.cls ≠ "java/lang/invoke/MethodHandle" ∧ y.cls ≠ "java/lang/invoke/VarHandle")
    {W9 : Nat} {Pre : Pt → Array Value → Prop} {Post : Pt → Array Value → Option Value → Pt → Prop} {PostX : Pt → Array Value → Addr → Pt → Prop} (hK : vx_Back l R p e below s args y 3 W9 Pre Post PostX)
    {b : Addr} {cellB : Cell} (hcell : T.heap[b]? = some cellB) (hobj : cellB.vm.isStatics = false) (hcls : s.vm.findClass C = some cellB.cls)
    {g : JFrame} (hg : g.method = m) (hsize : g.locals.size = c.maxLocals) {argsL rest : List Value} (hlen : ∀ sig, parseMethodDescriptor y.desc = some sig → argsL.length = sig.parameters.length)
    (hstack : g.stack = argsL.reverse ++ .ref b :: rest) (hW : 2 * g.monitorRoom + (rest.map fun v => v.category).sum ≤ W9) (hdg : decode c.code g.pc = .ok (.invokevirtual index, 3))
    (hpre : ∀ vm₁, s.WarmedH vm₁ → Pre ⟨T.setVm vm₁, locs, cells, slots⟩ (Value.ref b :: argsL).toArray) :
    (∃ (v : Option Value) (vm₁ : Vm) (B : Pt), s.WarmedH vm₁ ∧ Stand p l e R s m args below meth c B.U B.locs B.cells B.slots ∧ Post ⟨T.setVm vm₁, locs, cells, slots⟩ (Value.ref b :: argsL).toArray v B ∧
      ∀ target, Steps p.tables e below (B.U.setTop { g with pc := g.pc + 3, stack := v.toList ++ rest }) target → Steps p.tables e below (T.setTop g) target) ∨
    (∃ (q : Addr) (vm₁ : Vm) (B : Pt), s.WarmedH vm₁ ∧ Stand p l e R s m args below meth c B.U B.locs B.cells B.slots ∧ PostX ⟨T.setVm vm₁, locs, cells, slots⟩ (Value.ref b :: argsL).toArray q B ∧
      Steps p.tables e below (T.setTop g) ((B.U.setTop { g with stack := rest }).pushFrame (.throwing q))) := by
  obtain ⟨mk, methM, hnamed, hmethM, hstM, habM⟩ := Cond.instanceMethod_spec hinst
  obtain ⟨m8, methM', cM, hn8, hmethM', -, -, -, -, -, -, hsigM⟩ := Cond.codeWith_spec hcode
  cases Option.some.inj (hn8.symm.trans hnamed)
  cases hmethM.symm.trans hmethM'
  obtain ⟨c2, r2, m2, q1, q2, q3, q4, kP, hkP, hkPi⟩ := Cond.selects_spec hsel
  cases hcls.symm.trans q1
  cases (State.methodFound?_of_named hnamed hy).symm.trans q2
  cases hnamed.symm.trans q3
  have hselP : selectMethod e.platform s.vm cellB.cls mk = .method mk := by rw [Launch.admits_selectMethod X.admits]; exact q4
  obtain ⟨vm₁, X₁, hstep₁⟩ := X.invokevirtual hexec hown hlink hnamed hmethM hstM hkP hkPi hy (a := b) (cell := cellB) hcell
    (fun z h => by rw [h] at hobj; cases hobj) hselP hmethM habM hkP hkPi (g := g) hg (argsL := argsL) (rest := rest) (hlen _ hsigM) hstack hdg
  rcases hK m meth c ⟨T.setVm vm₁, locs, cells, slots⟩ { g with stack := rest } (.invokevirtual index) mk (Value.ref b :: argsL).toArray X₁ hg hsize hdg hW (X₁.named hnamed) (hpre vm₁ X₁.warmed) with ⟨v, B, X', hpost, hsteps⟩ | ⟨q, B, X', hpost, hsteps⟩
  · exact Or.inl ⟨v, vm₁, B, X₁.warmed, X', hpost, fun target h => hstep₁ _ fun acts => by rw [doInvoke_state]; exact hsteps.trans h⟩
  · exact Or.inr ⟨q, vm₁, B, X₁.warmed, X', hpost, hstep₁ _ fun acts => by rw [doInvoke_state]; exact hsteps⟩
theorem vx_callSX (X : Stand p l e R s m args below meth c T locs cells slots) (hexec : p.tables.exec = Jvm.exec) {own : String} {index : Nat} {y : MethodName} {bytes : ByteArray} {maxL : Nat} {ret : Option FieldType} {hh : List (Nat × Nat × Nat × Nat)}
    (hown : s.vm.findClass own = some m.cls) (hlink : (Cond.methodLink own index y).before args s = true) (hstat : (Cond.static y).before args s = true) (hinit : (Cond.initialized y.cls).before args s = true)
    (hcode : (Cond.codeWith y bytes maxL ret hh).before args s = true) (hy : y.cls ≠ "java/lang/invoke/MethodHandle" ∧ y.cls ≠ "java/lang/invoke/VarHandle")
    {W9 : Nat} {Pre : Pt → Array Value → Prop} {Post : Pt → Array Value → Option Value → Pt → Prop} {PostX : Pt → Array Value → Addr → Pt → Prop} (hK : vx_Back l R p e below s args y 3 W9 Pre Post PostX)
    {g : JFrame} (hg : g.method = m) (hsize : g.locals.size = c.maxLocals) {argsL rest : List Value} (hlen : ∀ sig, parseMethodDescriptor y.desc = some sig → argsL.length = sig.parameters.length)
    (hstack : g.stack = argsL.reverse ++ rest) (hW : 2 * g.monitorRoom + (rest.map fun v => v.category).sum ≤ W9) (hdg : decode c.code g.pc = .ok (.invokestatic index, 3))
    (hpre : ∀ vm₁, s.WarmedH vm₁ → Pre ⟨T.setVm vm₁, locs, cells, slots⟩ argsL.toArray) :
    (∃ (v : Option Value) (vm₁ : Vm) (B : Pt), s.WarmedH vm₁ ∧ Stand p l e R s m args below meth c B.U B.locs B.cells B.slots ∧ Post ⟨T.setVm vm₁, locs, cells, slots⟩ argsL.toArray v B ∧
      ∀ target, Steps p.tables e below (B.U.setTop { g with pc := g.pc + 3, stack := v.toList ++ rest }) target → Steps p.tables e below (T.setTop g) target) ∨
    (∃ (q : Addr) (vm₁ : Vm) (B : Pt), s.WarmedH vm₁ ∧ Stand p l e R s m args below meth c B.U B.locs B.cells B.slots ∧ PostX ⟨T.setVm vm₁, locs, cells, slots⟩ argsL.toArray q B ∧
      Steps p.tables e below (T.setTop g) ((B.U.setTop { g with stack := rest }).pushFrame (.throwing q))) := by
  obtain ⟨mk, methM, cM, hnamed, hmethM, -, -, -, -, -, -, hsigM⟩ := Cond.codeWith_spec hcode
  have hstatic : methM.isStatic = true := Cond.static_spec hnamed hmethM hstat
  obtain ⟨kP, hkP, -⟩ := className_of_methodNamed hnamed
  have hinitP : kP.init = .initialized := Cond.initialized_spec (findClass_of_methodNamed hnamed) hkP hinit
  obtain ⟨vm₁, X₁, hstep₁⟩ := X.invokestatic hexec hown hlink hnamed hmethM hstatic hkP hinitP hy (g := g) hg (argsL := argsL) (rest := rest) (hlen _ hsigM) hstack hdg
  rcases hK m meth c ⟨T.setVm vm₁, locs, cells, slots⟩ { g with stack := rest } (.invokestatic index) mk argsL.toArray X₁ hg hsize hdg hW (X₁.named hnamed) (hpre vm₁ X₁.warmed) with ⟨v, B, X', hpost, hsteps⟩ | ⟨q, B, X', hpost, hsteps⟩
  · exact Or.inl ⟨v, vm₁, B, X₁.warmed, X', hpost, fun target h => hstep₁ _ fun acts => by rw [doInvoke_state]; exact hsteps.trans h⟩
  · exact Or.inr ⟨q, vm₁, B, X₁.warmed, X', hpost, hstep₁ _ fun acts => by rw [doInvoke_state]; exact hsteps⟩
theorem vx_callVW (X : Stand p l e R s m args below meth c T locs cells slots) (hexec : p.tables.exec = Jvm.exec) {own C : String} {index : Nat} {y : MethodName} {bytes : ByteArray} {maxL : Nat} {ret : Option FieldType} {hh : List (Nat × Nat × Nat × Nat)}
    (hown : s.vm.findClass own = some m.cls) (hlink : (Cond.methodLink own index y).before args s = true) (hinst : (Cond.instanceMethod y).before args s = true) (hsel : (Cond.selects C y y).before args s = true)
    (hcode : (Cond.codeWith y bytes maxL ret hh).before args s = true) (hy : y.cls ≠ "java/lang/invoke/MethodHandle" ∧ y.cls ≠ "java/lang/invoke/VarHandle")
    {W9 : Nat} {Pre : Pt → Array Value → Prop} {Post : Pt → Array Value → Option Value → Pt → Prop} (hK : Back l R p e below s args y 3 W9 Pre Post)
    {b : Addr} {cellB : Cell} (hcell : T.heap[b]? = some cellB) (hobj : cellB.vm.isStatics = false) (hcls : s.vm.findClass C = some cellB.cls)
    {g : JFrame} (hg : g.method = m) (hsize : g.locals.size = c.maxLocals) {argsL rest : List Value} (hlen : ∀ sig, parseMethodDescriptor y.desc = some sig → argsL.length = sig.parameters.length)
    (hstack : g.stack = argsL.reverse ++ .ref b :: rest) (hW : 2 * g.monitorRoom + (rest.map fun v => v.category).sum ≤ W9) (hdg : decode c.code g.pc = .ok (.invokevirtual index, 3))
    (hpre : ∀ vm₁, s.WarmedH vm₁ → Pre ⟨T.setVm vm₁, locs, cells, slots⟩ (Value.ref b :: argsL).toArray) :
    ∃ (v : Option Value) (vm₁ : Vm) (B : Pt), s.WarmedH vm₁ ∧ Stand p l e R s m args below meth c B.U B.locs B.cells B.slots ∧ Post ⟨T.setVm vm₁, locs, cells, slots⟩ (Value.ref b :: argsL).toArray v B ∧
      ∀ target, Steps p.tables e below (B.U.setTop { g with pc := g.pc + 3, stack := v.toList ++ rest }) target → Steps p.tables e below (T.setTop g) target := by
  obtain ⟨mk, methM, hnamed, hmethM, hstM, habM⟩ := Cond.instanceMethod_spec hinst
  obtain ⟨m8, methM', cM, hn8, hmethM', -, -, -, -, -, -, hsigM⟩ := Cond.codeWith_spec hcode
  cases Option.some.inj (hn8.symm.trans hnamed)
  cases hmethM.symm.trans hmethM'
  obtain ⟨c2, r2, m2, q1, q2, q3, q4, kP, hkP, hkPi⟩ := Cond.selects_spec hsel
  cases hcls.symm.trans q1
  cases (State.methodFound?_of_named hnamed hy).symm.trans q2
  cases hnamed.symm.trans q3
  have hselP : selectMethod e.platform s.vm cellB.cls mk = .method mk := by rw [Launch.admits_selectMethod X.admits]; exact q4
  obtain ⟨vm₁, X₁, hstep₁⟩ := X.invokevirtual hexec hown hlink hnamed hmethM hstM hkP hkPi hy (a := b) (cell := cellB) hcell
    (fun z h => by rw [h] at hobj; cases hobj) hselP hmethM habM hkP hkPi (g := g) hg (argsL := argsL) (rest := rest) (hlen _ hsigM) hstack hdg
  obtain ⟨v, B, X', hpost, hsteps⟩ := hK m meth c ⟨T.setVm vm₁, locs, cells, slots⟩ { g with stack := rest } (.invokevirtual index) mk (Value.ref b :: argsL).toArray X₁ hg hsize hdg hW (X₁.named hnamed) (hpre vm₁ X₁.warmed)
  exact ⟨v, vm₁, B, X₁.warmed, X', hpost, fun target h => hstep₁ _ fun acts => by rw [doInvoke_state]; exact hsteps.trans h⟩
abbrev vx_CVW (R : Room) (s : State) (args : Array Value) (own C : String) (index : Nat) (y : MethodName) (bytes : ByteArray) (maxL : Nat) (ret : Option FieldType) (hh : List (Nat × Nat × Nat × Nat)) (ws : List Cond) (rm : Room) (mc ms n : Nat) : Prop :=
  (rm.cells = mc ∧ rm.slots = ms ∧ rm.frames + 1 ≤ R.frames ∧ 8 + (maxL + 11) + rm.locals ≤ R.locals ∧ (∀ w ∈ ws, ∀ (a' : Array Value) (U : State), s.WarmedH U.vm → w.before a' U = true) ∧ Cond.codeWith y bytes maxL ret hh ∈ ws) ∧
  (Cond.codeWith y bytes maxL ret hh).before args s = true ∧ (Cond.initialized y.cls).before args s = true ∧ (y.cls ≠ "java/lang/invoke/MethodHandle" ∧ y.cls ≠ "java/lang/invoke/VarHandle") ∧
  (∀ sig, parseMethodDescriptor y.desc = some sig → n = sig.parameters.length) ∧ (Cond.methodLink own index y).before args s = true ∧ (Cond.instanceMethod y).before args s = true ∧ (Cond.selects C y y).before args s = true
theorem vx_cwVW {own C : String} {index maxL mc ms : Nat} {y : MethodName} {bytes : ByteArray} {ret : Option FieldType} {hh : List (Nat × Nat × Nat × Nat)} {Ts ws ws' : List Cond} {rm : Room} (n : Nat) (ht : ∀ w ∈ Ts, w.before args s = true) (hT : GoodIn Ts (wsV own index C y ws)) (hw : ws = Cond.codeWith y bytes maxL ret hh :: ws') (hrc : rm.cells = mc) (hrs : rm.slots = ms)
    (hd : y.cls = C ∧ y.cls ≠ "java/lang/invoke/MethodHandle" ∧ y.cls ≠ "java/lang/invoke/VarHandle" ∧ (parseMethodDescriptor y.desc).map (fun d => d.parameters.length) = some n) (hR : rm.frames + 1 ≤ R.frames ∧ 8 + (maxL + 11) + rm.locals ≤ R.locals) :
    vx_CVW R s args own C index y bytes maxL ret hh ws rm mc ms n := by
  obtain ⟨hC, hd⟩ := hd
  subst hC
  have ok : ∀ w ∈ wsV own index y.cls y ws, w.before args s = true := fun w h => ht w (hT w h).1
  have hG : GoodIn Ts ws := fun w h => hT w (by unfold wsV; exact List.mem_append_right _ h)
  have hc : Cond.codeWith y bytes maxL ret hh ∈ ws := by rw [hw]; exact List.mem_cons_self
  refine ⟨⟨hrc, hrs, hR.1, hR.2, pay_in ht hG, hc⟩, ht _ (hG _ hc).1, ok _ (by simp [wsV]), ⟨hd.1, hd.2.1⟩, fun sig h => ?_, ok _ (by simp [wsV]), ok _ (by simp [wsV]), ok _ (by simp [wsV])⟩
  have h2 := hd.2.2
  rw [h] at h2
  exact (Option.some.inj h2).symm
theorem vx_runVW {y : MethodName} {bytes cc : ByteArray} {maxL nL mc ms n index : Nat} {ret : Option FieldType} {hh : List (Nat × Nat × Nat × Nat)} {ws : List Cond} {rm : Room} {Pc : Array Value → State → Prop} {Qc : Array Value → State → Outcome → State → Prop} {free : Addr → Prop} {Ts : List Cond} {own C : String} {b : Addr} {As rest : List Value} {g : JFrame}
    (S : CallFix p m c cc nL s args Ts own) (hM : Met l y ws rm Pc Qc mc ms free) (cw : vx_CVW R s args own C index y bytes maxL ret hh ws rm mc ms n) (hp : PreV s H C b Pc As)
    (hg : g.method = m) (hn : As.length = n) (hsize : g.locals.size = nL) (hstack : g.stack = As.reverse ++ .ref b :: rest) (hW : 2 * g.monitorRoom + (rest.map fun v => v.category).sum ≤ 8) (hdg : decode cc g.pc = .ok (.invokevirtual index, 3)) (hf : cells + mc ≤ R.cells ∧ slots + ms ≤ R.slots) :
    va_Run p l e R s m args below meth c H locs cells slots mc ms g rest (Qc (Value.ref b :: As).toArray) free := by
  obtain ⟨⟨hrc, hrs, hfr, hlo, hws, hcw⟩, hcode, hini, hy, hlen, hl, hin, hse⟩ := cw
  have hK : Back l R p e below s args y 3 8 (PreOf R mc ms Pc) (PostOf Qc mc ms free) := va_backW (hh := hh) (bytes := bytes) (maxL := maxL) (ret := ret) hM hp.1 hrc hrs hfr hlo hws hcw (fun a' U hW => word_at hW (Or.inl (by first | rfl | simp [Cond.onTables, Cond.keeps, Cond.steady])) hini)
  obtain ⟨hx, hb, hml, ho, -⟩ := S
  obtain ⟨-, ⟨cellB, hcB, hoB, hclB⟩, hPc⟩ := hp
  intro T hT X
  obtain ⟨v, vm₁, ⟨U', l2, c2, s2⟩, hW₁, X', ⟨g', mk, t, L, e1, e2, hq, h1, hL, h2, h3⟩, st⟩ := vx_callVW X hx (C := C) (hh := hh) (bytes := bytes) (maxL := maxL) (ret := ret) ho hl hin hse hcode hy hK (by rw [hT]; exact hcB) hoB hclB hg (hsize.trans hml.symm) (argsL := As) (rest := rest) (fun sig h => hn.trans (hlen sig h)) hstack hW (by rw [hb]; exact hdg)
    (fun vm₁ hW₁ => ⟨hf.1, hf.2, hPc (T.setVm vm₁) hT hW₁⟩)
  dsimp only [Pt.U, Pt.locs, Pt.cells, Pt.slots] at X' e1 e2 h1 h2 h3 st
  subst h1; subst h2; subst h3
  exact ⟨v, (T.setVm vm₁).calling g' mk (Value.ref b :: As).toArray, t, U', L, hT, X', hL, e1, e2, hq, st⟩
section
variable {y : MethodName} {bytes cc : ByteArray} {maxL nL mc ms n index : Nat} {ret : Option FieldType} {ws : List Cond} {rm : Room} {Pc : Array Value → State → Prop} {Qc : Array Value → State → Outcome → State → Prop} {XC : String → State → State → Prop} {free : Addr → Prop} {Ts : List Cond} {own C : String} {b : Addr} {As rest : List Value} {g : JFrame}
theorem vx_runVX {hh : List (Nat × Nat × Nat × Nat)} (S : CallFix p m c cc nL s args Ts own) (hM : vx_Met l y ws rm Pc Qc XC mc ms free) (cw : vx_CVW R s args own C index y bytes maxL ret hh ws rm mc ms n) (hp : PreV s H C b Pc As)
    (hg : g.method = m) (hn : As.length = n) (hsize : g.locals.size = nL) (hstack : g.stack = As.reverse ++ .ref b :: rest) (hW : 2 * g.monitorRoom + (rest.map fun v => v.category).sum ≤ 8) (hdg : decode cc g.pc = .ok (.invokevirtual index, 3)) (hf : cells + mc ≤ R.cells ∧ slots + ms ≤ R.slots) :
    vx_Run p l e R s m args below meth c H locs cells slots mc ms g rest (Qc (Value.ref b :: As).toArray) XC free := by
  obtain ⟨⟨hrc, hrs, hfr, hlo, hws, hcw⟩, hcode, hini, hy, hlen, hl, hin, hse⟩ := cw
  have hK : vx_Back l R p e below s args y 3 8 (PreOf R mc ms Pc) (PostOf Qc mc ms free) (vx_Post XC mc ms free) := vx_backW (hh := hh) (bytes := bytes) (maxL := maxL) (ret := ret) hM hp.1 hrc hrs hfr hlo hws hcw (fun a' U hW => word_at hW (Or.inl (by first | rfl | simp [Cond.onTables, Cond.keeps, Cond.steady])) hini)
  obtain ⟨hx, hb, hml, ho, -⟩ := S
  obtain ⟨-, ⟨cellB, hcB, hoB, hclB⟩, hPc⟩ := hp
  intro T hT X
  rcases vx_callVX X hx (C := C) (hh := hh) (bytes := bytes) (maxL := maxL) (ret := ret) ho hl hin hse hcode hy hK (by rw [hT]; exact hcB) hoB hclB hg (hsize.trans hml.symm) (argsL := As) (rest := rest) (fun sig h => hn.trans (hlen sig h)) hstack hW (by rw [hb]; exact hdg)
    (fun vm₁ hW₁ => ⟨hf.1, hf.2, hPc (T.setVm vm₁) hT hW₁⟩) with ⟨v, vm₁, ⟨U', l2, c2, s2⟩, hW₁, X', ⟨g', mk, t, L, e1, e2, hq, h1, hL, h2, h3⟩, st⟩ | ⟨q, vm₁, ⟨U', l2, c2, s2⟩, hW₁, X', ⟨g', mk, t, L, E, ce, e1, e2, hq, hce, hcv, hcl, h1, hL, h2, h3⟩, st⟩
  · dsimp only [Pt.U, Pt.locs, Pt.cells, Pt.slots] at X' e1 e2 h1 h2 h3 st
    subst h1; subst h2; subst h3
    exact Or.inl ⟨v, (T.setVm vm₁).calling g' mk (Value.ref b :: As).toArray, t, U', L, hT, X', hL, e1, e2, hq, st⟩
  · dsimp only [Pt.U, Pt.locs, Pt.cells, Pt.slots] at X' e1 e2 h1 h2 h3 st hcl
    subst h1; subst h2; subst h3
    exact Or.inr ⟨q, (T.setVm vm₁).calling g' mk (Value.ref b :: As).toArray, t, U', L, E, ce, hT, X', hL, e1, e2, hq, hce, hcv, vx_cls hW₁ hcl, st⟩
theorem vx_runSX {hh : List (Nat × Nat × Nat × Nat)} (S : CallFix p m c cc nL s args Ts own) (hM : vx_Met l y ws rm Pc Qc XC mc ms free) (cw : vx_CSW R s args own index y bytes maxL ret hh ws rm mc ms n) (hp : PreS s H Pc As)
    (hg : g.method = m) (hn : As.length = n) (hsize : g.locals.size = nL) (hstack : g.stack = As.reverse ++ rest) (hW : 2 * g.monitorRoom + (rest.map fun v => v.category).sum ≤ 8) (hdg : decode cc g.pc = .ok (.invokestatic index, 3)) (hf : cells + mc ≤ R.cells ∧ slots + ms ≤ R.slots) :
    vx_Run p l e R s m args below meth c H locs cells slots mc ms g rest (Qc As.toArray) XC free := by
  obtain ⟨⟨hrc, hrs, hfr, hlo, hws, hcw⟩, hcode, hini, hy, hlen, hl, hstt⟩ := cw
  have hK : vx_Back l R p e below s args y 3 8 (PreOf R mc ms Pc) (PostOf Qc mc ms free) (vx_Post XC mc ms free) := vx_backW (hh := hh) (bytes := bytes) (maxL := maxL) (ret := ret) hM hp.1 hrc hrs hfr hlo hws hcw (fun a' U hW => word_at hW (Or.inl (by first | rfl | simp [Cond.onTables, Cond.keeps, Cond.steady])) hini)
  obtain ⟨hx, hb, hml, ho, -⟩ := S
  intro T hT X
  rcases vx_callSX X hx (hh := hh) (bytes := bytes) (maxL := maxL) (ret := ret) ho hl hstt hini hcode hy hK hg (hsize.trans hml.symm) (argsL := As) (rest := rest) (fun sig h => hn.trans (hlen sig h)) hstack hW (by rw [hb]; exact hdg)
    (fun vm₁ hW₁ => ⟨hf.1, hf.2, hp.2 (T.setVm vm₁) hT hW₁⟩) with ⟨v, vm₁, ⟨U', l2, c2, s2⟩, hW₁, X', ⟨g', mk, t, L, e1, e2, hq, h1, hL, h2, h3⟩, st⟩ | ⟨q, vm₁, ⟨U', l2, c2, s2⟩, hW₁, X', ⟨g', mk, t, L, E, ce, e1, e2, hq, hce, hcv, hcl, h1, hL, h2, h3⟩, st⟩
  · dsimp only [Pt.U, Pt.locs, Pt.cells, Pt.slots] at X' e1 e2 h1 h2 h3 st
    subst h1; subst h2; subst h3
    exact Or.inl ⟨v, (T.setVm vm₁).calling g' mk As.toArray, t, U', L, hT, X', hL, e1, e2, hq, st⟩
  · dsimp only [Pt.U, Pt.locs, Pt.cells, Pt.slots] at X' e1 e2 h1 h2 h3 st hcl
    subst h1; subst h2; subst h3
    exact Or.inr ⟨q, (T.setVm vm₁).calling g' mk As.toArray, t, U', L, E, ce, hT, X', hL, e1, e2, hq, hce, hcv, vx_cls hW₁ hcl, st⟩
end
end VXH
theorem vx_ofWH {l : Launch} {y : MethodName} {ws ws' : List Cond} {rm : Room} {Pc : Array Value → State → Prop} {Qc : Array Value → State → Outcome → State → Prop} {XC : String → State → State → Prop} {mc ms : Nat} {free : Addr → Prop} {cc : ByteArray} {maxL : Nat} {ret : Option FieldType} {hh : List (Nat × Nat × Nat × Nat)}
    (hy : plainName y.cls = true) (hw : ws = Cond.codeWith y cc maxL ret hh :: ws')
    (body : ∀ p e s m args below meth c s₁, BodyLoose p l y (headSpec ws rm) cc maxL ret e s m args below meth c s₁ → c.maxLocals = maxL → Pc args s →
      W p l e (headSpec ws rm).room s m args below meth c s.heap [] 0 0 (vx_MQ below Qc XC args s mc ms free) (entryFrame m args maxL)) : vx_Met l y ws rm Pc Qc XC mc ms free := by
  refine MetFree.of_bodyS (code := cc) (maxLocals := maxL) (ret := ret) hy ?_ ?_
  · intro args s m h hn
    obtain ⟨m9, meth, c, hn9, h1, h2, h3, h4, -, h5, h6, -⟩ := Cond.codeWith_spec (atoms_spec (ws := ws) h _ (by rw [hw]; exact List.mem_cons_self))
    cases hn.symm.trans hn9
    exact ⟨meth, c, h1, h2, h3, h4, h5, h6⟩
  · intro p e s m args below meth c s₁ B hml hP _
    have hh0 : s₁.heap = s.heap := by rw [B.state]; rfl
    obtain ⟨t, a1, o, b1, b2, b3⟩ := body p e s m args below meth c s₁ B hml hP s₁ hh0 (Stand.of_body B)
    exact ⟨t, o, a1, b1, b2, b3⟩
/-! ===== END ===== -/
end
section
def RX0 : String := "RankStock$Beast"
def TX0 : u_T := fun k => match k with
  | 0 => ("RankStock$Beast", "number", "I", true)
  | 1 => ("RankStock$Beast", "kind", "I", true)
  | 2 => ("RankStock$Beast", "trips", "I", false)
  | 3 => ("RankStock$Beast", "buckOffs", "I", false)
  | 4 => ("RankStock$Beast", "marks", "I", false)
  | 5 => ("RankStock$Beast", "draws", "I", false)
  | _ => ("RankStock$Beast", "days", "J", false)
def tyX0 : Nat → FieldType := fun k => match k with
  | 0 => .int
  | 1 => .int
  | 2 => .int
  | 3 => .int
  | 4 => .int
  | 5 => .int
  | _ => .long
abbrev wsX00 : List Cond := u_ws RX0 TX0 7
theorem nmX0 : ∀ a, a < 7 → ∀ b, b < 7 → a ≠ b → (TX0 a).2.1 ≠ (TX0 b).2.1 := by decide +kernel
theorem tyX0_ok : ∀ k, k < 7 → parseFieldDescriptor (TX0 k).2.2.1 = some (tyX0 k) := by decide +kernel
abbrev cX0_init : ByteArray := prog_2_method_1_code
def yX0_init : MethodName := ⟨RX0, "<init>", "(II)V"⟩
abbrev cX0_canBeDrawn : ByteArray := prog_2_method_2_code
def yX0_canBeDrawn : MethodName := ⟨RX0, "canBeDrawn", "(II)Z"⟩
abbrev cX0_noteDraw : ByteArray := prog_2_method_3_code
def yX0_noteDraw : MethodName := ⟨RX0, "noteDraw", "(I)V"⟩
abbrev cX0_hasAlwaysRested : ByteArray := prog_2_method_4_code
def yX0_hasAlwaysRested : MethodName := ⟨RX0, "hasAlwaysRested", "()Z"⟩
abbrev cX0_isAheadOf : ByteArray := prog_2_method_5_code
def yX0_isAheadOf : MethodName := ⟨RX0, "isAheadOf", "(LRankStock$Beast;)Z"⟩
def RX1 : String := "RankStock$Entry"
def TX1 : u_T := fun k => match k with
  | 0 => ("RankStock$Entry", "rider", "I", true)
  | 1 => ("RankStock$Entry", "set", "I", true)
  | 2 => ("RankStock$Entry", "wish", "I", true)
  | 3 => ("RankStock$Entry", "performance", "I", false)
  | 4 => ("RankStock$Entry", "beast", "LRankStock$Beast;", false)
  | 5 => ("RankStock$Entry", "isToRide", "Z", false)
  | 6 => ("RankStock$Entry", "isReRide", "Z", false)
  | 7 => ("RankStock$Entry", "hasOffer", "Z", false)
  | 8 => ("RankStock$Entry", "isCounting", "Z", false)
  | 9 => ("RankStock$Entry", "points", "I", false)
  | _ => ("RankStock$Entry", "money", "I", false)
def tyX1 : Nat → FieldType := fun k => match k with
  | 0 => .int
  | 1 => .int
  | 2 => .int
  | 3 => .int
  | 4 => .object "RankStock$Beast"
  | 5 => .boolean
  | 6 => .boolean
  | 7 => .boolean
  | 8 => .boolean
  | 9 => .int
  | _ => .int
abbrev wsX10 : List Cond := u_ws RX1 TX1 11
theorem nmX1 : ∀ a, a < 11 → ∀ b, b < 11 → a ≠ b → (TX1 a).2.1 ≠ (TX1 b).2.1 := by decide +kernel
theorem tyX1_ok : ∀ k, k < 11 → parseFieldDescriptor (TX1 k).2.2.1 = some (tyX1 k) := by decide +kernel
abbrev cX1_init : ByteArray := prog_3_method_1_code
def yX1_init : MethodName := ⟨RX1, "<init>", "(III)V"⟩
abbrev cX1_isPlaced : ByteArray := prog_3_method_2_code
def yX1_isPlaced : MethodName := ⟨RX1, "isPlaced", "()Z"⟩
abbrev cX1_beastNumber : ByteArray := prog_3_method_3_code
def yX1_beastNumber : MethodName := ⟨RX1, "beastNumber", "()I"⟩
abbrev cX1_takeRide : ByteArray := prog_3_method_4_code
def yX1_takeRide : MethodName := ⟨RX1, "takeRide", "(ZII)V"⟩
abbrev cX1_loseScore : ByteArray := prog_3_method_5_code
def yX1_loseScore : MethodName := ⟨RX1, "loseScore", "()V"⟩
def RX2 : String := "RankStock$Rodeo"
def TX2 : u_T := fun k => match k with
  | 0 => ("RankStock$Rodeo", "kind", "I", true)
  | 1 => ("RankStock$Rodeo", "mile", "I", true)
  | 2 => ("RankStock$Rodeo", "first", "I", true)
  | 3 => ("RankStock$Rodeo", "performances", "I", true)
  | 4 => ("RankStock$Rodeo", "places", "I", true)
  | 5 => ("RankStock$Rodeo", "added", "I", true)
  | 6 => ("RankStock$Rodeo", "fee", "I", true)
  | 7 => ("RankStock$Rodeo", "entries", "Ljava/util/ArrayList;", true)
  | 8 => ("RankStock$Rodeo", "byRider", "[LRankStock$Entry;", true)
  | 9 => ("RankStock$Rodeo", "state", "I", false)
  | _ => ("RankStock$Rodeo", "office", "I", false)
def tyX2 : Nat → FieldType := fun k => match k with
  | 0 => .int
  | 1 => .int
  | 2 => .int
  | 3 => .int
  | 4 => .int
  | 5 => .int
  | 6 => .int
  | 7 => .object "java/util/ArrayList"
  | 8 => .array (.object "RankStock$Entry")
  | 9 => .int
  | _ => .int
abbrev wsX20 : List Cond := u_ws RX2 TX2 11
theorem nmX2 : ∀ a, a < 11 → ∀ b, b < 11 → a ≠ b → (TX2 a).2.1 ≠ (TX2 b).2.1 := by decide +kernel
theorem tyX2_ok : ∀ k, k < 11 → parseFieldDescriptor (TX2 k).2.2.1 = some (tyX2 k) := by decide +kernel
abbrev cX2_init : ByteArray := prog_4_method_1_code
def yX2_init : MethodName := ⟨RX2, "<init>", "(IIIIIII)V"⟩
abbrev cX2_dayOf : ByteArray := prog_4_method_2_code
def yX2_dayOf : MethodName := ⟨RX2, "dayOf", "(I)I"⟩
abbrev cX2_addEntry : ByteArray := prog_4_method_3_code
def yX2_addEntry : MethodName := ⟨RX2, "addEntry", "(LRankStock$Entry;)V"⟩
abbrev cX2_entryOf : ByteArray := prog_4_method_4_code
def yX2_entryOf : MethodName := ⟨RX2, "entryOf", "(I)LRankStock$Entry;"⟩
abbrev cX2_countIn : ByteArray := prog_4_method_5_code
def yX2_countIn : MethodName := ⟨RX2, "countIn", "(I)I"⟩
abbrev cX2_countPlaced : ByteArray := prog_4_method_6_code
def yX2_countPlaced : MethodName := ⟨RX2, "countPlaced", "()I"⟩
abbrev cX2_pot : ByteArray := prog_4_method_7_code
def yX2_pot : MethodName := ⟨RX2, "pot", "()I"⟩
abbrev cX2_canBePaid : ByteArray := prog_4_method_8_code
def yX2_canBePaid : MethodName := ⟨RX2, "canBePaid", "()Z"⟩
abbrev cX2_countCounting : ByteArray := prog_4_method_9_code
def yX2_countCounting : MethodName := ⟨RX2, "countCounting", "()I"⟩
abbrev cX2_payOut : ByteArray := prog_4_method_10_code
def yX2_payOut : MethodName := ⟨RX2, "payOut", "()V"⟩
abbrev cX2_placeMoney : ByteArray := prog_4_method_11_code
def yX2_placeMoney : MethodName := ⟨RX2, "placeMoney", "(II)I"⟩
abbrev cX2_sharesOf : ByteArray := prog_4_method_12_code
def yX2_sharesOf : MethodName := ⟨RX2, "sharesOf", "(III)I"⟩
abbrev cX2_isEven : ByteArray := prog_4_method_13_code
def yX2_isEven : MethodName := ⟨RX2, "isEven", "()Z"⟩
def RX3 : String := "RankStock"
def TX3 : u_T := fun k => match k with
  | 0 => ("RankStock", "beasts", "Ljava/util/ArrayList;", true)
  | 1 => ("RankStock", "rodeos", "Ljava/util/ArrayList;", true)
  | 2 => ("RankStock", "riders", "I", false)
  | _ => ("RankStock", "hidden", "I", false)
def tyX3 : Nat → FieldType := fun k => match k with
  | 0 => .object "java/util/ArrayList"
  | 1 => .object "java/util/ArrayList"
  | 2 => .int
  | _ => .int
abbrev wsX30 : List Cond := u_ws RX3 TX3 4
theorem nmX3 : ∀ a, a < 4 → ∀ b, b < 4 → a ≠ b → (TX3 a).2.1 ≠ (TX3 b).2.1 := by decide +kernel
theorem tyX3_ok : ∀ k, k < 4 → parseFieldDescriptor (TX3 k).2.2.1 = some (tyX3 k) := by decide +kernel
abbrev cX3_init : ByteArray := prog_1_method_1_code
def yX3_init : MethodName := ⟨RX3, "<init>", "()V"⟩
abbrev cX3_beast : ByteArray := prog_1_method_2_code
def yX3_beast : MethodName := ⟨RX3, "beast", "(I)I"⟩
abbrev cX3_rider : ByteArray := prog_1_method_3_code
def yX3_rider : MethodName := ⟨RX3, "rider", "()I"⟩
abbrev cX3_rodeo : ByteArray := prog_1_method_4_code
def yX3_rodeo : MethodName := ⟨RX3, "rodeo", "(IIIIIII)I"⟩
abbrev cX3_rodeoIs : ByteArray := prog_1_method_5_code
def yX3_rodeoIs : MethodName := ⟨RX3, "rodeoIs", "(II)I"⟩
abbrev cX3_enter : ByteArray := prog_1_method_6_code
def yX3_enter : MethodName := ⟨RX3, "enter", "(IIII)I"⟩
abbrev cX3_close : ByteArray := prog_1_method_7_code
def yX3_close : MethodName := ⟨RX3, "close", "(I)I"⟩
abbrev cX3_placed : ByteArray := prog_1_method_8_code
def yX3_placed : MethodName := ⟨RX3, "placed", "(II)I"⟩
abbrev cX3_most : ByteArray := prog_1_method_9_code
def yX3_most : MethodName := ⟨RX3, "most", "(I)I"⟩
abbrev cX3_hide : ByteArray := prog_1_method_10_code
def yX3_hide : MethodName := ⟨RX3, "hide", "(I)V"⟩
abbrev cX3_draw : ByteArray := prog_1_method_11_code
def yX3_draw : MethodName := ⟨RX3, "draw", "(I)I"⟩
abbrev cX3_drawn : ByteArray := prog_1_method_12_code
def yX3_drawn : MethodName := ⟨RX3, "drawn", "(II)I"⟩
abbrev cX3_ride : ByteArray := prog_1_method_13_code
def yX3_ride : MethodName := ⟨RX3, "ride", "(IIIIZ)I"⟩
abbrev cX3_isOffered : ByteArray := prog_1_method_14_code
def yX3_isOffered : MethodName := ⟨RX3, "isOffered", "(II)Z"⟩
abbrev cX3_answer : ByteArray := prog_1_method_15_code
def yX3_answer : MethodName := ⟨RX3, "answer", "(IIZ)I"⟩
abbrev cX3_score : ByteArray := prog_1_method_16_code
def yX3_score : MethodName := ⟨RX3, "score", "(II)I"⟩
abbrev cX3_beastIs : ByteArray := prog_1_method_17_code
def yX3_beastIs : MethodName := ⟨RX3, "beastIs", "(II)I"⟩
abbrev cX3_pay : ByteArray := prog_1_method_18_code
def yX3_pay : MethodName := ⟨RX3, "pay", "(I)I"⟩
abbrev cX3_got : ByteArray := prog_1_method_19_code
def yX3_got : MethodName := ⟨RX3, "got", "(II)I"⟩
abbrev cX3_counts : ByteArray := prog_1_method_20_code
def yX3_counts : MethodName := ⟨RX3, "counts", "(I)I"⟩
abbrev cX3_ranked : ByteArray := prog_1_method_21_code
def yX3_ranked : MethodName := ⟨RX3, "ranked", "(I)I"⟩
abbrev cX3_balances : ByteArray := prog_1_method_22_code
def yX3_balances : MethodName := ⟨RX3, "balances", "()Z"⟩
abbrev cX3_isWithin : ByteArray := prog_1_method_23_code
def yX3_isWithin : MethodName := ⟨RX3, "isWithin", "(III)Z"⟩
abbrev cX3_isKind : ByteArray := prog_1_method_24_code
def yX3_isKind : MethodName := ⟨RX3, "isKind", "(I)Z"⟩
abbrev cX3_isInSet : ByteArray := prog_1_method_25_code
def yX3_isInSet : MethodName := ⟨RX3, "isInSet", "(II)Z"⟩
abbrev cX3_markAt : ByteArray := prog_1_method_26_code
def yX3_markAt : MethodName := ⟨RX3, "markAt", "(II)I"⟩
abbrev cX3_split : ByteArray := prog_1_method_27_code
def yX3_split : MethodName := ⟨RX3, "split", "(II)I"⟩
abbrev cX3_rodeoAt : ByteArray := prog_1_method_28_code
def yX3_rodeoAt : MethodName := ⟨RX3, "rodeoAt", "(I)LRankStock$Rodeo;"⟩
abbrev cX3_checkRider : ByteArray := prog_1_method_29_code
def yX3_checkRider : MethodName := ⟨RX3, "checkRider", "(I)V"⟩
abbrev cX3_entryAt : ByteArray := prog_1_method_30_code
def yX3_entryAt : MethodName := ⟨RX3, "entryAt", "(II)LRankStock$Entry;"⟩
abbrev cX3_performanceFor : ByteArray := prog_1_method_31_code
def yX3_performanceFor : MethodName := ⟨RX3, "performanceFor", "(LRankStock$Rodeo;LRankStock$Entry;)I"⟩
abbrev cX3_canBePlaced : ByteArray := prog_1_method_32_code
def yX3_canBePlaced : MethodName := ⟨RX3, "canBePlaced", "(LRankStock$Rodeo;II)Z"⟩
abbrev cX3_canGet : ByteArray := prog_1_method_33_code
def yX3_canGet : MethodName := ⟨RX3, "canGet", "(LRankStock$Rodeo;II)Z"⟩
abbrev cX3_countWithWaysOutside : ByteArray := prog_1_method_34_code
def yX3_countWithWaysOutside : MethodName := ⟨RX3, "countWithWaysOutside", "(LRankStock$Rodeo;I)I"⟩
abbrev cX3_hasWayOutside : ByteArray := prog_1_method_35_code
def yX3_hasWayOutside : MethodName := ⟨RX3, "hasWayOutside", "(LRankStock$Rodeo;LRankStock$Entry;I)Z"⟩
abbrev cX3_mountAll : ByteArray := prog_1_method_36_code
def yX3_mountAll : MethodName := ⟨RX3, "mountAll", "(LRankStock$Rodeo;I)I"⟩
abbrev cX3_mount : ByteArray := prog_1_method_37_code
def yX3_mount : MethodName := ⟨RX3, "mount", "(LRankStock$Rodeo;LRankStock$Entry;)V"⟩
abbrev cX3_drawBeast : ByteArray := prog_1_method_38_code
def yX3_drawBeast : MethodName := ⟨RX3, "drawBeast", "(II)LRankStock$Beast;"⟩
abbrev cX3_countDrawable : ByteArray := prog_1_method_39_code
def yX3_countDrawable : MethodName := ⟨RX3, "countDrawable", "(II)I"⟩
abbrev cX3_drawableAt : ByteArray := prog_1_method_40_code
def yX3_drawableAt : MethodName := ⟨RX3, "drawableAt", "(III)LRankStock$Beast;"⟩
abbrev cX3_rankOfBeast : ByteArray := prog_1_method_41_code
def yX3_rankOfBeast : MethodName := ⟨RX3, "rankOfBeast", "(LRankStock$Beast;)I"⟩
abbrev cX3_moneyOf : ByteArray := prog_1_method_42_code
def yX3_moneyOf : MethodName := ⟨RX3, "moneyOf", "(LRankStock$Rodeo;I)I"⟩
abbrev cX3_bestThreePays : ByteArray := prog_1_method_43_code
def yX3_bestThreePays : MethodName := ⟨RX3, "bestThreePays", "(I)I"⟩
abbrev cX3_allPays : ByteArray := prog_1_method_44_code
def yX3_allPays : MethodName := ⟨RX3, "allPays", "(I)I"⟩
abbrev cX3_rankOfRider : ByteArray := prog_1_method_45_code
def yX3_rankOfRider : MethodName := ⟨RX3, "rankOfRider", "(I)I"⟩
abbrev cX3_isRiderAhead : ByteArray := prog_1_method_46_code
def yX3_isRiderAhead : MethodName := ⟨RX3, "isRiderAhead", "(II)Z"⟩
def RX4 : String := "RankStockModel"
def TX4 : u_T := fun k => match k with
  | 0 => ("RankStockModel", "thrown", "I", false)
  | 1 => ("RankStockModel", "kind", "[I", true)
  | 2 => ("RankStockModel", "trips", "[I", true)
  | 3 => ("RankStockModel", "bucked", "[I", true)
  | 4 => ("RankStockModel", "marked", "[I", true)
  | 5 => ("RankStockModel", "days", "[J", true)
  | 6 => ("RankStockModel", "beasts", "I", false)
  | 7 => ("RankStockModel", "riders", "I", false)
  | 8 => ("RankStockModel", "its", "[I", true)
  | 9 => ("RankStockModel", "mile", "[I", true)
  | 10 => ("RankStockModel", "first", "[I", true)
  | 11 => ("RankStockModel", "performances", "[I", true)
  | 12 => ("RankStockModel", "places", "[I", true)
  | 13 => ("RankStockModel", "added", "[I", true)
  | 14 => ("RankStockModel", "fee", "[I", true)
  | 15 => ("RankStockModel", "state", "[I", true)
  | 16 => ("RankStockModel", "office", "[I", true)
  | 17 => ("RankStockModel", "entered", "[I", true)
  | 18 => ("RankStockModel", "rodeos", "I", false)
  | 19 => ("RankStockModel", "who", "[I", true)
  | 20 => ("RankStockModel", "sets", "[I", true)
  | 21 => ("RankStockModel", "wishes", "[I", true)
  | 22 => ("RankStockModel", "placed", "[I", true)
  | 23 => ("RankStockModel", "beastOf", "[I", true)
  | 24 => ("RankStockModel", "isToRide", "[Z", true)
  | 25 => ("RankStockModel", "isAgain", "[Z", true)
  | 26 => ("RankStockModel", "isOffered", "[Z", true)
  | 27 => ("RankStockModel", "isCounted", "[Z", true)
  | 28 => ("RankStockModel", "scores", "[I", true)
  | 29 => ("RankStockModel", "got", "[I", true)
  | 30 => ("RankStockModel", "hidden", "I", false)
  | _ => ("RankStockModel", "canBe", "[Z", true)
def tyX4 : Nat → FieldType := fun k => match k with
  | 0 => .int
  | 1 => .array .int
  | 2 => .array .int
  | 3 => .array .int
  | 4 => .array .int
  | 5 => .array .long
  | 6 => .int
  | 7 => .int
  | 8 => .array .int
  | 9 => .array .int
  | 10 => .array .int
  | 11 => .array .int
  | 12 => .array .int
  | 13 => .array .int
  | 14 => .array .int
  | 15 => .array .int
  | 16 => .array .int
  | 17 => .array .int
  | 18 => .int
  | 19 => .array .int
  | 20 => .array .int
  | 21 => .array .int
  | 22 => .array .int
  | 23 => .array .int
  | 24 => .array .boolean
  | 25 => .array .boolean
  | 26 => .array .boolean
  | 27 => .array .boolean
  | 28 => .array .int
  | 29 => .array .int
  | 30 => .int
  | _ => .array .boolean
abbrev wsX40 : List Cond := u_ws RX4 TX4 32
theorem nmX4 : ∀ a, a < 32 → ∀ b, b < 32 → a ≠ b → (TX4 a).2.1 ≠ (TX4 b).2.1 := by decide +kernel
theorem tyX4_ok : ∀ k, k < 32 → parseFieldDescriptor (TX4 k).2.2.1 = some (tyX4 k) := by decide +kernel
abbrev cX4_init : ByteArray := prog_6_method_1_code
def yX4_init : MethodName := ⟨RX4, "<init>", "()V"⟩
abbrev cX4_thrown : ByteArray := prog_6_method_2_code
def yX4_thrown : MethodName := ⟨RX4, "thrown", "()I"⟩
abbrev cX4_holds : ByteArray := prog_6_method_3_code
def yX4_holds : MethodName := ⟨RX4, "holds", "(I)Z"⟩
abbrev cX4_isIn : ByteArray := prog_6_method_4_code
def yX4_isIn : MethodName := ⟨RX4, "isIn", "(III)Z"⟩
abbrev cX4_isBeast : ByteArray := prog_6_method_5_code
def yX4_isBeast : MethodName := ⟨RX4, "isBeast", "(I)Z"⟩
abbrev cX4_isRider : ByteArray := prog_6_method_6_code
def yX4_isRider : MethodName := ⟨RX4, "isRider", "(I)Z"⟩
abbrev cX4_isRodeo : ByteArray := prog_6_method_7_code
def yX4_isRodeo : MethodName := ⟨RX4, "isRodeo", "(I)Z"⟩
abbrev cX4_at : ByteArray := prog_6_method_8_code
def yX4_at : MethodName := ⟨RX4, "at", "(II)I"⟩
abbrev cX4_apart : ByteArray := prog_6_method_9_code
def yX4_apart : MethodName := ⟨RX4, "apart", "(II)I"⟩
abbrev cX4_beast : ByteArray := prog_6_method_10_code
def yX4_beast : MethodName := ⟨RX4, "beast", "(I)I"⟩
abbrev cX4_rider : ByteArray := prog_6_method_11_code
def yX4_rider : MethodName := ⟨RX4, "rider", "()I"⟩
abbrev cX4_rodeo : ByteArray := prog_6_method_12_code
def yX4_rodeo : MethodName := ⟨RX4, "rodeo", "(IIIIIII)I"⟩
abbrev cX4_placedIn : ByteArray := prog_6_method_13_code
def yX4_placedIn : MethodName := ⟨RX4, "placedIn", "(I)I"⟩
abbrev cX4_pot : ByteArray := prog_6_method_14_code
def yX4_pot : MethodName := ⟨RX4, "pot", "(I)I"⟩
abbrev cX4_tells : ByteArray := prog_6_method_15_code
def yX4_tells : MethodName := ⟨RX4, "tells", "(II)I"⟩
abbrev cX4_rodeoIs : ByteArray := prog_6_method_16_code
def yX4_rodeoIs : MethodName := ⟨RX4, "rodeoIs", "(II)I"⟩
abbrev cX4_hasEntered : ByteArray := prog_6_method_17_code
def yX4_hasEntered : MethodName := ⟨RX4, "hasEntered", "(II)Z"⟩
abbrev cX4_enter : ByteArray := prog_6_method_18_code
def yX4_enter : MethodName := ⟨RX4, "enter", "(IIII)I"⟩
abbrev cX4_gets : ByteArray := prog_6_method_19_code
def yX4_gets : MethodName := ⟨RX4, "gets", "(III)Z"⟩
abbrev cX4_taken : ByteArray := prog_6_method_20_code
def yX4_taken : MethodName := ⟨RX4, "taken", "(II)I"⟩
abbrev cX4_fits : ByteArray := prog_6_method_21_code
def yX4_fits : MethodName := ⟨RX4, "fits", "(III)Z"⟩
abbrev cX4_places : ByteArray := prog_6_method_22_code
def yX4_places : MethodName := ⟨RX4, "places", "(II)V"⟩
abbrev cX4_close : ByteArray := prog_6_method_23_code
def yX4_close : MethodName := ⟨RX4, "close", "(I)I"⟩
abbrev cX4_placed : ByteArray := prog_6_method_24_code
def yX4_placed : MethodName := ⟨RX4, "placed", "(II)I"⟩
abbrev cX4_unit : ByteArray := prog_6_method_25_code
def yX4_unit : MethodName := ⟨RX4, "unit", "(I)I"⟩
abbrev cX4_greatest : ByteArray := prog_6_method_26_code
def yX4_greatest : MethodName := ⟨RX4, "greatest", "(I)I"⟩
abbrev cX4_most : ByteArray := prog_6_method_27_code
def yX4_most : MethodName := ⟨RX4, "most", "(I)I"⟩
abbrev cX4_hide : ByteArray := prog_6_method_28_code
def yX4_hide : MethodName := ⟨RX4, "hide", "(I)V"⟩
abbrev cX4_canBeDrawn : ByteArray := prog_6_method_29_code
def yX4_canBeDrawn : MethodName := ⟨RX4, "canBeDrawn", "(III)Z"⟩
abbrev cX4_drawsFor : ByteArray := prog_6_method_30_code
def yX4_drawsFor : MethodName := ⟨RX4, "drawsFor", "(II)V"⟩
abbrev cX4_drawn : ByteArray := prog_6_method_31_code
def yX4_drawn : MethodName := ⟨RX4, "drawn", "(I)I"⟩
abbrev cX4_draw : ByteArray := prog_6_method_32_code
def yX4_draw : MethodName := ⟨RX4, "draw", "(I)I"⟩
abbrev cX4_drawn_ : ByteArray := prog_6_method_33_code
def yX4_drawn_ : MethodName := ⟨RX4, "drawn", "(II)I"⟩
abbrev cX4_rides : ByteArray := prog_6_method_34_code
def yX4_rides : MethodName := ⟨RX4, "rides", "(IIIZ)I"⟩
abbrev cX4_ride : ByteArray := prog_6_method_35_code
def yX4_ride : MethodName := ⟨RX4, "ride", "(IIIIZ)I"⟩
abbrev cX4_isOffered : ByteArray := prog_6_method_36_code
def yX4_isOffered : MethodName := ⟨RX4, "isOffered", "(II)Z"⟩
abbrev cX4_answered : ByteArray := prog_6_method_37_code
def yX4_answered : MethodName := ⟨RX4, "answered", "(IIZ)I"⟩
abbrev cX4_answer : ByteArray := prog_6_method_38_code
def yX4_answer : MethodName := ⟨RX4, "answer", "(IIZ)I"⟩
abbrev cX4_score : ByteArray := prog_6_method_39_code
def yX4_score : MethodName := ⟨RX4, "score", "(II)I"⟩
abbrev cX4_isAhead : ByteArray := prog_6_method_40_code
def yX4_isAhead : MethodName := ⟨RX4, "isAhead", "(II)Z"⟩
abbrev cX4_rankOf : ByteArray := prog_6_method_41_code
def yX4_rankOf : MethodName := ⟨RX4, "rankOf", "(I)I"⟩
abbrev cX4_told : ByteArray := prog_6_method_42_code
def yX4_told : MethodName := ⟨RX4, "told", "(II)I"⟩
abbrev cX4_beastIs : ByteArray := prog_6_method_43_code
def yX4_beastIs : MethodName := ⟨RX4, "beastIs", "(II)I"⟩
abbrev cX4_canBePaid : ByteArray := prog_6_method_44_code
def yX4_canBePaid : MethodName := ⟨RX4, "canBePaid", "(I)Z"⟩
abbrev cX4_shares : ByteArray := prog_6_method_45_code
def yX4_shares : MethodName := ⟨RX4, "shares", "(III)I"⟩
abbrev cX4_pays : ByteArray := prog_6_method_46_code
def yX4_pays : MethodName := ⟨RX4, "pays", "(I)I"⟩
abbrev cX4_pay : ByteArray := prog_6_method_47_code
def yX4_pay : MethodName := ⟨RX4, "pay", "(I)I"⟩
abbrev cX4_got : ByteArray := prog_6_method_48_code
def yX4_got : MethodName := ⟨RX4, "got", "(II)I"⟩
abbrev cX4_allOf : ByteArray := prog_6_method_49_code
def yX4_allOf : MethodName := ⟨RX4, "allOf", "(I)I"⟩
abbrev cX4_counted : ByteArray := prog_6_method_50_code
def yX4_counted : MethodName := ⟨RX4, "counted", "(I)I"⟩
abbrev cX4_counts : ByteArray := prog_6_method_51_code
def yX4_counts : MethodName := ⟨RX4, "counts", "(I)I"⟩
abbrev cX4_isBetter : ByteArray := prog_6_method_52_code
def yX4_isBetter : MethodName := ⟨RX4, "isBetter", "(II)Z"⟩
abbrev cX4_riderOf : ByteArray := prog_6_method_53_code
def yX4_riderOf : MethodName := ⟨RX4, "riderOf", "(I)I"⟩
abbrev cX4_ranked : ByteArray := prog_6_method_54_code
def yX4_ranked : MethodName := ⟨RX4, "ranked", "(I)I"⟩
abbrev cX4_isBalanced : ByteArray := prog_6_method_55_code
def yX4_isBalanced : MethodName := ⟨RX4, "isBalanced", "(I)Z"⟩
abbrev cX4_balances : ByteArray := prog_6_method_56_code
def yX4_balances : MethodName := ⟨RX4, "balances", "()Z"⟩
def RJx145de : String := "java/io/Serializable"
def TJx145de : u_T := fun k => match k with
  | _ => ("", "", "", false)
def tyJx145de : Nat → FieldType := fun k => match k with
  | _ => .int
abbrev wsJx145de0 : List Cond := u_ws RJx145de TJx145de 0
theorem nmJx145de : ∀ a, a < 0 → ∀ b, b < 0 → a ≠ b → (TJx145de a).2.1 ≠ (TJx145de b).2.1 := by decide +kernel
theorem tyJx145de_ok : ∀ k, k < 0 → parseFieldDescriptor (TJx145de k).2.2.1 = some (tyJx145de k) := by decide +kernel
def RJx8e188 : String := "java/lang/Cloneable"
def TJx8e188 : u_T := fun k => match k with
  | _ => ("", "", "", false)
def tyJx8e188 : Nat → FieldType := fun k => match k with
  | _ => .int
abbrev wsJx8e1880 : List Cond := u_ws RJx8e188 TJx8e188 0
theorem nmJx8e188 : ∀ a, a < 0 → ∀ b, b < 0 → a ≠ b → (TJx8e188 a).2.1 ≠ (TJx8e188 b).2.1 := by decide +kernel
theorem tyJx8e188_ok : ∀ k, k < 0 → parseFieldDescriptor (TJx8e188 k).2.2.1 = some (tyJx8e188 k) := by decide +kernel
def RJ6 : String := "java/lang/Integer"
def TJ6 : u_T := fun k => match k with
  | _ => ("", "", "", false)
def tyJ6 : Nat → FieldType := fun k => match k with
  | _ => .int
abbrev wsJ60 : List Cond := u_ws RJ6 TJ6 0
theorem nmJ6 : ∀ a, a < 0 → ∀ b, b < 0 → a ≠ b → (TJ6 a).2.1 ≠ (TJ6 b).2.1 := by decide +kernel
theorem tyJ6_ok : ∀ k, k < 0 → parseFieldDescriptor (TJ6 k).2.2.1 = some (tyJ6 k) := by decide +kernel
abbrev cJ6_compare_7cf53 : ByteArray := prog_13_method_40_code
def yJ6_compare_7cf53 : MethodName := ⟨RJ6, "compare", "(II)I"⟩
abbrev cJ6_bitCount_0f7a4 : ByteArray := prog_13_method_49_code
def yJ6_bitCount_0f7a4 : MethodName := ⟨RJ6, "bitCount", "(I)I"⟩
def RJxab1ab : String := "java/lang/Iterable"
def TJxab1ab : u_T := fun k => match k with
  | _ => ("", "", "", false)
def tyJxab1ab : Nat → FieldType := fun k => match k with
  | _ => .int
abbrev wsJxab1ab0 : List Cond := u_ws RJxab1ab TJxab1ab 0
theorem nmJxab1ab : ∀ a, a < 0 → ∀ b, b < 0 → a ≠ b → (TJxab1ab a).2.1 ≠ (TJxab1ab b).2.1 := by decide +kernel
theorem tyJxab1ab_ok : ∀ k, k < 0 → parseFieldDescriptor (TJxab1ab k).2.2.1 = some (tyJxab1ab k) := by decide +kernel
def RJ13 : String := "java/lang/Long"
def TJ13 : u_T := fun k => match k with
  | _ => ("", "", "", false)
def tyJ13 : Nat → FieldType := fun k => match k with
  | _ => .int
abbrev wsJ130 : List Cond := u_ws RJ13 TJ13 0
theorem nmJ13 : ∀ a, a < 0 → ∀ b, b < 0 → a ≠ b → (TJ13 a).2.1 ≠ (TJ13 b).2.1 := by decide +kernel
theorem tyJ13_ok : ∀ k, k < 0 → parseFieldDescriptor (TJ13 k).2.2.1 = some (tyJ13 k) := by decide +kernel
abbrev cJ13_bitCount_95d88 : ByteArray := prog_15_method_50_code
def yJ13_bitCount_95d88 : MethodName := ⟨RJ13, "bitCount", "(J)I"⟩
def RJ9 : String := "java/lang/Math"
def TJ9 : u_T := fun k => match k with
  | _ => ("", "", "", false)
def tyJ9 : Nat → FieldType := fun k => match k with
  | _ => .int
abbrev wsJ90 : List Cond := u_ws RJ9 TJ9 0
theorem nmJ9 : ∀ a, a < 0 → ∀ b, b < 0 → a ≠ b → (TJ9 a).2.1 ≠ (TJ9 b).2.1 := by decide +kernel
theorem tyJ9_ok : ∀ k, k < 0 → parseFieldDescriptor (TJ9 k).2.2.1 = some (tyJ9 k) := by decide +kernel
abbrev cJ9_abs_0f7a4 : ByteArray := prog_16_method_59_code
def yJ9_abs_0f7a4 : MethodName := ⟨RJ9, "abs", "(I)I"⟩
abbrev cJ9_max_7cf53 : ByteArray := prog_16_method_65_code
def yJ9_max_7cf53 : MethodName := ⟨RJ9, "max", "(II)I"⟩
abbrev cJ9_min_7cf53 : ByteArray := prog_16_method_69_code
def yJ9_min_7cf53 : MethodName := ⟨RJ9, "min", "(II)I"⟩
def RJ0 : String := "java/lang/String"
def TJ0 : u_T := fun k => match k with
  | _ => ("", "", "", false)
def tyJ0 : Nat → FieldType := fun k => match k with
  | _ => .int
abbrev wsJ00 : List Cond := u_ws RJ0 TJ0 0
theorem nmJ0 : ∀ a, a < 0 → ∀ b, b < 0 → a ≠ b → (TJ0 a).2.1 ≠ (TJ0 b).2.1 := by decide +kernel
theorem tyJ0_ok : ∀ k, k < 0 → parseFieldDescriptor (TJ0 k).2.2.1 = some (tyJ0 k) := by decide +kernel
def RJ10 : String := "java/lang/System"
def TJ10 : u_T := fun k => match k with
  | _ => ("", "", "", false)
def tyJ10 : Nat → FieldType := fun k => match k with
  | _ => .int
abbrev wsJ100 : List Cond := u_ws RJ10 TJ10 0
theorem nmJ10 : ∀ a, a < 0 → ∀ b, b < 0 → a ≠ b → (TJ10 a).2.1 ≠ (TJ10 b).2.1 := by decide +kernel
theorem tyJ10_ok : ∀ k, k < 0 → parseFieldDescriptor (TJ10 k).2.2.1 = some (tyJ10 k) := by decide +kernel
def RJxa1e45 : String := "java/util/AbstractCollection"
def TJxa1e45 : u_T := fun k => match k with
  | _ => ("", "", "", false)
def tyJxa1e45 : Nat → FieldType := fun k => match k with
  | _ => .int
abbrev wsJxa1e450 : List Cond := u_ws RJxa1e45 TJxa1e45 0
theorem nmJxa1e45 : ∀ a, a < 0 → ∀ b, b < 0 → a ≠ b → (TJxa1e45 a).2.1 ≠ (TJxa1e45 b).2.1 := by decide +kernel
theorem tyJxa1e45_ok : ∀ k, k < 0 → parseFieldDescriptor (TJxa1e45 k).2.2.1 = some (tyJxa1e45 k) := by decide +kernel
abbrev cJxa1e45_init_da8c8 : ByteArray := prog_21_method_1_code
def yJxa1e45_init_da8c8 : MethodName := ⟨RJxa1e45, "<init>", "()V"⟩
def RJxc12de : String := "java/util/AbstractList"
def TJxc12de : u_T := fun k => match k with
  | _ => ("", "", "", false)
def tyJxc12de : Nat → FieldType := fun k => match k with
  | _ => .int
abbrev wsJxc12de0 : List Cond := u_ws RJxc12de TJxc12de 0
theorem nmJxc12de : ∀ a, a < 0 → ∀ b, b < 0 → a ≠ b → (TJxc12de a).2.1 ≠ (TJxc12de b).2.1 := by decide +kernel
theorem tyJxc12de_ok : ∀ k, k < 0 → parseFieldDescriptor (TJxc12de k).2.2.1 = some (tyJxc12de k) := by decide +kernel
abbrev cJxc12de_init_da8c8 : ByteArray := prog_22_method_1_code
def yJxc12de_init_da8c8 : MethodName := ⟨RJxc12de, "<init>", "()V"⟩
def RJx4a65c : String := "java/util/ArrayList"
def TJx4a65c : u_T := fun k => match k with
  | 0 => ("java/util/AbstractList", "modCount", "I", false)
  | 1 => ("java/util/ArrayList", "elementData", "[Ljava/lang/Object;", false)
  | _ => ("java/util/ArrayList", "size", "I", false)
def tyJx4a65c : Nat → FieldType := fun k => match k with
  | 0 => .int
  | 1 => .array (.object "java/lang/Object")
  | _ => .int
abbrev wsJx4a65c0 : List Cond := u_ws RJx4a65c TJx4a65c 3
theorem nmJx4a65c : ∀ a, a < 3 → ∀ b, b < 3 → a ≠ b → (TJx4a65c a).2.1 ≠ (TJx4a65c b).2.1 := by decide +kernel
theorem tyJx4a65c_ok : ∀ k, k < 3 → parseFieldDescriptor (TJx4a65c k).2.2.1 = some (tyJx4a65c k) := by decide +kernel
abbrev cJx4a65c_init_da8c8 : ByteArray := prog_23_method_2_code
def yJx4a65c_init_da8c8 : MethodName := ⟨RJx4a65c, "<init>", "()V"⟩
abbrev cJx4a65c_grow_92f84 : ByteArray := prog_23_method_6_code
def yJx4a65c_grow_92f84 : MethodName := ⟨RJx4a65c, "grow", "(I)[Ljava/lang/Object;"⟩
abbrev cJx4a65c_grow_d5877 : ByteArray := prog_23_method_7_code
def yJx4a65c_grow_d5877 : MethodName := ⟨RJx4a65c, "grow", "()[Ljava/lang/Object;"⟩
abbrev cJx4a65c_size_8abf5 : ByteArray := prog_23_method_8_code
def yJx4a65c_size_8abf5 : MethodName := ⟨RJx4a65c, "size", "()I"⟩
abbrev cJx4a65c_elementData_915e3 : ByteArray := prog_23_method_18_code
def yJx4a65c_elementData_915e3 : MethodName := ⟨RJx4a65c, "elementData", "(I)Ljava/lang/Object;"⟩
abbrev cJx4a65c_get_915e3 : ByteArray := prog_23_method_20_code
def yJx4a65c_get_915e3 : MethodName := ⟨RJx4a65c, "get", "(I)Ljava/lang/Object;"⟩
abbrev cJx4a65c_add_72be8 : ByteArray := prog_23_method_24_code
def yJx4a65c_add_72be8 : MethodName := ⟨RJx4a65c, "add", "(Ljava/lang/Object;[Ljava/lang/Object;I)V"⟩
abbrev cJx4a65c_add_9ea2d : ByteArray := prog_23_method_25_code
def yJx4a65c_add_9ea2d : MethodName := ⟨RJx4a65c, "add", "(Ljava/lang/Object;)Z"⟩
def RJ7 : String := "java/util/Arrays"
def TJ7 : u_T := fun k => match k with
  | _ => ("", "", "", false)
def tyJ7 : Nat → FieldType := fun k => match k with
  | _ => .int
abbrev wsJ70 : List Cond := u_ws RJ7 TJ7 0
theorem nmJ7 : ∀ a, a < 0 → ∀ b, b < 0 → a ≠ b → (TJ7 a).2.1 ≠ (TJ7 b).2.1 := by decide +kernel
theorem tyJ7_ok : ∀ k, k < 0 → parseFieldDescriptor (TJ7 k).2.2.1 = some (tyJ7 k) := by decide +kernel
abbrev cJ7_copyOf_1904c : ByteArray := prog_24_method_119_code
def yJ7_copyOf_1904c : MethodName := ⟨RJ7, "copyOf", "([Ljava/lang/Object;I)[Ljava/lang/Object;"⟩
abbrev cJ7_copyOf_6403c : ByteArray := prog_24_method_120_code
def yJ7_copyOf_6403c : MethodName := ⟨RJ7, "copyOf", "([Ljava/lang/Object;ILjava/lang/Class;)[Ljava/lang/Object;"⟩
def RJx5ef63 : String := "java/util/Collection"
def TJx5ef63 : u_T := fun k => match k with
  | _ => ("", "", "", false)
def tyJx5ef63 : Nat → FieldType := fun k => match k with
  | _ => .int
abbrev wsJx5ef630 : List Cond := u_ws RJx5ef63 TJx5ef63 0
theorem nmJx5ef63 : ∀ a, a < 0 → ∀ b, b < 0 → a ≠ b → (TJx5ef63 a).2.1 ≠ (TJx5ef63 b).2.1 := by decide +kernel
theorem tyJx5ef63_ok : ∀ k, k < 0 → parseFieldDescriptor (TJx5ef63 k).2.2.1 = some (tyJx5ef63 k) := by decide +kernel
def RJxbd725 : String := "java/util/List"
def TJxbd725 : u_T := fun k => match k with
  | _ => ("", "", "", false)
def tyJxbd725 : Nat → FieldType := fun k => match k with
  | _ => .int
abbrev wsJxbd7250 : List Cond := u_ws RJxbd725 TJxbd725 0
theorem nmJxbd725 : ∀ a, a < 0 → ∀ b, b < 0 → a ≠ b → (TJxbd725 a).2.1 ≠ (TJxbd725 b).2.1 := by decide +kernel
theorem tyJxbd725_ok : ∀ k, k < 0 → parseFieldDescriptor (TJxbd725 k).2.2.1 = some (tyJxbd725 k) := by decide +kernel
def RJ15 : String := "java/util/Objects"
def TJ15 : u_T := fun k => match k with
  | _ => ("", "", "", false)
def tyJ15 : Nat → FieldType := fun k => match k with
  | _ => .int
abbrev wsJ150 : List Cond := u_ws RJ15 TJ15 0
theorem nmJ15 : ∀ a, a < 0 → ∀ b, b < 0 → a ≠ b → (TJ15 a).2.1 ≠ (TJ15 b).2.1 := by decide +kernel
theorem tyJ15_ok : ∀ k, k < 0 → parseFieldDescriptor (TJ15 k).2.2.1 = some (tyJ15 k) := by decide +kernel
abbrev cJ15_checkIndex_7cf53 : ByteArray := prog_27_method_17_code
def yJ15_checkIndex_7cf53 : MethodName := ⟨RJ15, "checkIndex", "(II)I"⟩
def RJxf0a74 : String := "java/util/RandomAccess"
def TJxf0a74 : u_T := fun k => match k with
  | _ => ("", "", "", false)
def tyJxf0a74 : Nat → FieldType := fun k => match k with
  | _ => .int
abbrev wsJxf0a740 : List Cond := u_ws RJxf0a74 TJxf0a74 0
theorem nmJxf0a74 : ∀ a, a < 0 → ∀ b, b < 0 → a ≠ b → (TJxf0a74 a).2.1 ≠ (TJxf0a74 b).2.1 := by decide +kernel
theorem tyJxf0a74_ok : ∀ k, k < 0 → parseFieldDescriptor (TJxf0a74 k).2.2.1 = some (tyJxf0a74 k) := by decide +kernel
def RJxa66e6 : String := "java/util/SequencedCollection"
def TJxa66e6 : u_T := fun k => match k with
  | _ => ("", "", "", false)
def tyJxa66e6 : Nat → FieldType := fun k => match k with
  | _ => .int
abbrev wsJxa66e60 : List Cond := u_ws RJxa66e6 TJxa66e6 0
theorem nmJxa66e6 : ∀ a, a < 0 → ∀ b, b < 0 → a ≠ b → (TJxa66e6 a).2.1 ≠ (TJxa66e6 b).2.1 := by decide +kernel
theorem tyJxa66e6_ok : ∀ k, k < 0 → parseFieldDescriptor (TJxa66e6 k).2.2.1 = some (tyJxa66e6 k) := by decide +kernel
def RJ8 : String := "jdk/internal/util/ArraysSupport"
def TJ8 : u_T := fun k => match k with
  | _ => ("", "", "", false)
def tyJ8 : Nat → FieldType := fun k => match k with
  | _ => .int
abbrev wsJ80 : List Cond := u_ws RJ8 TJ8 0
theorem nmJ8 : ∀ a, a < 0 → ∀ b, b < 0 → a ≠ b → (TJ8 a).2.1 ≠ (TJ8 b).2.1 := by decide +kernel
theorem tyJ8_ok : ∀ k, k < 0 → parseFieldDescriptor (TJ8 k).2.2.1 = some (tyJ8 k) := by decide +kernel
abbrev cJ8_newLength_cabcc : ByteArray := prog_30_method_27_code
def yJ8_newLength_cabcc : MethodName := ⟨RJ8, "newLength", "(III)I"⟩
abbrev cJ8_hugeLength_7cf53 : ByteArray := prog_30_method_28_code
def yJ8_hugeLength_7cf53 : MethodName := ⟨RJ8, "hugeLength", "(II)I"⟩
def RJ3 : String := "jdk/internal/util/Preconditions"
def TJ3 : u_T := fun k => match k with
  | _ => ("", "", "", false)
def tyJ3 : Nat → FieldType := fun k => match k with
  | _ => .int
abbrev wsJ30 : List Cond := u_ws RJ3 TJ3 0
theorem nmJ3 : ∀ a, a < 0 → ∀ b, b < 0 → a ≠ b → (TJ3 a).2.1 ≠ (TJ3 b).2.1 := by decide +kernel
theorem tyJ3_ok : ∀ k, k < 0 → parseFieldDescriptor (TJ3 k).2.2.1 = some (tyJ3 k) := by decide +kernel
abbrev cJ3_checkIndex_8e157 : ByteArray := prog_31_method_11_code
def yJ3_checkIndex_8e157 : MethodName := ⟨RJ3, "checkIndex", "(IILjava/util/function/BiFunction;)I"⟩
def RL : String := "RankStockLaw"
abbrev cL_beast : ByteArray := method_3_code
def yL_beast : MethodName := ⟨RL, "beast", "(LRankStock;I[J)I"⟩
abbrev cL_rider : ByteArray := method_4_code
def yL_rider : MethodName := ⟨RL, "rider", "(LRankStock;[J)I"⟩
abbrev cL_rodeo : ByteArray := method_5_code
def yL_rodeo : MethodName := ⟨RL, "rodeo", "(LRankStock;IIIIIII[J)I"⟩
abbrev cL_rodeoIs : ByteArray := method_6_code
def yL_rodeoIs : MethodName := ⟨RL, "rodeoIs", "(LRankStock;II[J)I"⟩
abbrev cL_enter : ByteArray := method_7_code
def yL_enter : MethodName := ⟨RL, "enter", "(LRankStock;IIII[J)I"⟩
abbrev cL_close : ByteArray := method_8_code
def yL_close : MethodName := ⟨RL, "close", "(LRankStock;I[J)I"⟩
abbrev cL_placed : ByteArray := method_9_code
def yL_placed : MethodName := ⟨RL, "placed", "(LRankStock;II[J)I"⟩
abbrev cL_most : ByteArray := method_10_code
def yL_most : MethodName := ⟨RL, "most", "(LRankStock;I[J)I"⟩
abbrev cL_hide : ByteArray := method_11_code
def yL_hide : MethodName := ⟨RL, "hide", "(LRankStock;I)I"⟩
abbrev cL_draw : ByteArray := method_12_code
def yL_draw : MethodName := ⟨RL, "draw", "(LRankStock;I[J)I"⟩
abbrev cL_drawn : ByteArray := method_13_code
def yL_drawn : MethodName := ⟨RL, "drawn", "(LRankStock;II[J)I"⟩
abbrev cL_ride : ByteArray := method_14_code
def yL_ride : MethodName := ⟨RL, "ride", "(LRankStock;IIIIZ[J)I"⟩
abbrev cL_isOffered : ByteArray := method_15_code
def yL_isOffered : MethodName := ⟨RL, "isOffered", "(LRankStock;II[J)I"⟩
abbrev cL_answer : ByteArray := method_16_code
def yL_answer : MethodName := ⟨RL, "answer", "(LRankStock;IIZ[J)I"⟩
abbrev cL_score : ByteArray := method_17_code
def yL_score : MethodName := ⟨RL, "score", "(LRankStock;II[J)I"⟩
abbrev cL_beastIs : ByteArray := method_18_code
def yL_beastIs : MethodName := ⟨RL, "beastIs", "(LRankStock;II[J)I"⟩
abbrev cL_pay : ByteArray := method_19_code
def yL_pay : MethodName := ⟨RL, "pay", "(LRankStock;I[J)I"⟩
abbrev cL_got : ByteArray := method_20_code
def yL_got : MethodName := ⟨RL, "got", "(LRankStock;II[J)I"⟩
abbrev cL_counts : ByteArray := method_21_code
def yL_counts : MethodName := ⟨RL, "counts", "(LRankStock;I[J)I"⟩
abbrev cL_ranked : ByteArray := method_22_code
def yL_ranked : MethodName := ⟨RL, "ranked", "(LRankStock;I[J)I"⟩
abbrev cL_law : ByteArray := code
def yL_law : MethodName := ⟨RL, "law", "([I)Z"⟩
abbrev vwCl : List vw_C := [(RJx4a65c, TJx4a65c, 3), (RX0, TX0, 7), (RX1, TX1, 11), (RX2, TX2, 11), (RX3, TX3, 4), (RX4, TX4, 32)]
end
section
theorem dJ6_compare_7cf53_0 : decode cJ6_compare_7cf53 0 = .ok (.iload_n 0, 1) := by decide +kernel
theorem dJ6_compare_7cf53_1 : decode cJ6_compare_7cf53 1 = .ok (.iload_n 1, 1) := by decide +kernel
theorem dJ6_compare_7cf53_2 : decode cJ6_compare_7cf53 2 = .ok (.if_icmp .ge 7, 3) := by decide +kernel
theorem dJ6_compare_7cf53_5 : decode cJ6_compare_7cf53 5 = .ok (.iconst (-1), 1) := by decide +kernel
theorem dJ6_compare_7cf53_6 : decode cJ6_compare_7cf53 6 = .ok (.goto 13, 3) := by decide +kernel
theorem dJ6_compare_7cf53_9 : decode cJ6_compare_7cf53 9 = .ok (.iload_n 0, 1) := by decide +kernel
theorem dJ6_compare_7cf53_10 : decode cJ6_compare_7cf53 10 = .ok (.iload_n 1, 1) := by decide +kernel
theorem dJ6_compare_7cf53_11 : decode cJ6_compare_7cf53 11 = .ok (.if_icmp .ne 7, 3) := by decide +kernel
theorem dJ6_compare_7cf53_14 : decode cJ6_compare_7cf53 14 = .ok (.iconst 0, 1) := by decide +kernel
theorem dJ6_compare_7cf53_15 : decode cJ6_compare_7cf53 15 = .ok (.goto 4, 3) := by decide +kernel
theorem dJ6_compare_7cf53_18 : decode cJ6_compare_7cf53 18 = .ok (.iconst 1, 1) := by decide +kernel
theorem dJ6_compare_7cf53_19 : decode cJ6_compare_7cf53 19 = .ok (.ireturn, 1) := by decide +kernel
theorem dJ6_bitCount_0f7a4_0 : decode cJ6_bitCount_0f7a4 0 = .ok (.iload_n 0, 1) := by decide +kernel
theorem dJ6_bitCount_0f7a4_1 : decode cJ6_bitCount_0f7a4 1 = .ok (.iload_n 0, 1) := by decide +kernel
theorem dJ6_bitCount_0f7a4_2 : decode cJ6_bitCount_0f7a4 2 = .ok (.iconst 1, 1) := by decide +kernel
theorem dJ6_bitCount_0f7a4_3 : decode cJ6_bitCount_0f7a4 3 = .ok (.iushr, 1) := by decide +kernel
theorem dJ6_bitCount_0f7a4_4 : decode cJ6_bitCount_0f7a4 4 = .ok (.ldc_w 265, 3) := by decide +kernel
theorem dJ6_bitCount_0f7a4_7 : decode cJ6_bitCount_0f7a4 7 = .ok (.iand, 1) := by decide +kernel
theorem dJ6_bitCount_0f7a4_8 : decode cJ6_bitCount_0f7a4 8 = .ok (.isub, 1) := by decide +kernel
theorem dJ6_bitCount_0f7a4_9 : decode cJ6_bitCount_0f7a4 9 = .ok (.istore_n 0, 1) := by decide +kernel
theorem dJ6_bitCount_0f7a4_10 : decode cJ6_bitCount_0f7a4 10 = .ok (.iload_n 0, 1) := by decide +kernel
theorem dJ6_bitCount_0f7a4_11 : decode cJ6_bitCount_0f7a4 11 = .ok (.ldc_w 266, 3) := by decide +kernel
theorem dJ6_bitCount_0f7a4_14 : decode cJ6_bitCount_0f7a4 14 = .ok (.iand, 1) := by decide +kernel
theorem dJ6_bitCount_0f7a4_15 : decode cJ6_bitCount_0f7a4 15 = .ok (.iload_n 0, 1) := by decide +kernel
theorem dJ6_bitCount_0f7a4_16 : decode cJ6_bitCount_0f7a4 16 = .ok (.iconst 2, 1) := by decide +kernel
theorem dJ6_bitCount_0f7a4_17 : decode cJ6_bitCount_0f7a4 17 = .ok (.iushr, 1) := by decide +kernel
theorem dJ6_bitCount_0f7a4_18 : decode cJ6_bitCount_0f7a4 18 = .ok (.ldc_w 266, 3) := by decide +kernel
theorem dJ6_bitCount_0f7a4_21 : decode cJ6_bitCount_0f7a4 21 = .ok (.iand, 1) := by decide +kernel
theorem dJ6_bitCount_0f7a4_22 : decode cJ6_bitCount_0f7a4 22 = .ok (.iadd, 1) := by decide +kernel
theorem dJ6_bitCount_0f7a4_23 : decode cJ6_bitCount_0f7a4 23 = .ok (.istore_n 0, 1) := by decide +kernel
theorem dJ6_bitCount_0f7a4_24 : decode cJ6_bitCount_0f7a4 24 = .ok (.iload_n 0, 1) := by decide +kernel
theorem dJ6_bitCount_0f7a4_25 : decode cJ6_bitCount_0f7a4 25 = .ok (.iload_n 0, 1) := by decide +kernel
theorem dJ6_bitCount_0f7a4_26 : decode cJ6_bitCount_0f7a4 26 = .ok (.iconst 4, 1) := by decide +kernel
theorem dJ6_bitCount_0f7a4_27 : decode cJ6_bitCount_0f7a4 27 = .ok (.iushr, 1) := by decide +kernel
theorem dJ6_bitCount_0f7a4_28 : decode cJ6_bitCount_0f7a4 28 = .ok (.iadd, 1) := by decide +kernel
theorem dJ6_bitCount_0f7a4_29 : decode cJ6_bitCount_0f7a4 29 = .ok (.ldc_w 267, 3) := by decide +kernel
theorem dJ6_bitCount_0f7a4_32 : decode cJ6_bitCount_0f7a4 32 = .ok (.iand, 1) := by decide +kernel
theorem dJ6_bitCount_0f7a4_33 : decode cJ6_bitCount_0f7a4 33 = .ok (.istore_n 0, 1) := by decide +kernel
theorem dJ6_bitCount_0f7a4_34 : decode cJ6_bitCount_0f7a4 34 = .ok (.iload_n 0, 1) := by decide +kernel
theorem dJ6_bitCount_0f7a4_35 : decode cJ6_bitCount_0f7a4 35 = .ok (.iload_n 0, 1) := by decide +kernel
theorem dJ6_bitCount_0f7a4_36 : decode cJ6_bitCount_0f7a4 36 = .ok (.bipush 8, 2) := by decide +kernel
theorem dJ6_bitCount_0f7a4_38 : decode cJ6_bitCount_0f7a4 38 = .ok (.iushr, 1) := by decide +kernel
theorem dJ6_bitCount_0f7a4_39 : decode cJ6_bitCount_0f7a4 39 = .ok (.iadd, 1) := by decide +kernel
theorem dJ6_bitCount_0f7a4_40 : decode cJ6_bitCount_0f7a4 40 = .ok (.istore_n 0, 1) := by decide +kernel
theorem dJ6_bitCount_0f7a4_41 : decode cJ6_bitCount_0f7a4 41 = .ok (.iload_n 0, 1) := by decide +kernel
theorem dJ6_bitCount_0f7a4_42 : decode cJ6_bitCount_0f7a4 42 = .ok (.iload_n 0, 1) := by decide +kernel
theorem dJ6_bitCount_0f7a4_43 : decode cJ6_bitCount_0f7a4 43 = .ok (.bipush 16, 2) := by decide +kernel
theorem dJ6_bitCount_0f7a4_45 : decode cJ6_bitCount_0f7a4 45 = .ok (.iushr, 1) := by decide +kernel
theorem dJ6_bitCount_0f7a4_46 : decode cJ6_bitCount_0f7a4 46 = .ok (.iadd, 1) := by decide +kernel
theorem dJ6_bitCount_0f7a4_47 : decode cJ6_bitCount_0f7a4 47 = .ok (.istore_n 0, 1) := by decide +kernel
theorem dJ6_bitCount_0f7a4_48 : decode cJ6_bitCount_0f7a4 48 = .ok (.iload_n 0, 1) := by decide +kernel
theorem dJ6_bitCount_0f7a4_49 : decode cJ6_bitCount_0f7a4 49 = .ok (.bipush 63, 2) := by decide +kernel
theorem dJ6_bitCount_0f7a4_51 : decode cJ6_bitCount_0f7a4 51 = .ok (.iand, 1) := by decide +kernel
theorem dJ6_bitCount_0f7a4_52 : decode cJ6_bitCount_0f7a4 52 = .ok (.ireturn, 1) := by decide +kernel
theorem dJ13_bitCount_95d88_0 : decode cJ13_bitCount_95d88 0 = .ok (.lload_n 0, 1) := by decide +kernel
theorem dJ13_bitCount_95d88_1 : decode cJ13_bitCount_95d88 1 = .ok (.lload_n 0, 1) := by decide +kernel
theorem dJ13_bitCount_95d88_2 : decode cJ13_bitCount_95d88 2 = .ok (.iconst 1, 1) := by decide +kernel
theorem dJ13_bitCount_95d88_3 : decode cJ13_bitCount_95d88 3 = .ok (.lushr, 1) := by decide +kernel
theorem dJ13_bitCount_95d88_4 : decode cJ13_bitCount_95d88 4 = .ok (.ldc2_w 314, 3) := by decide +kernel
theorem dJ13_bitCount_95d88_7 : decode cJ13_bitCount_95d88 7 = .ok (.land, 1) := by decide +kernel
theorem dJ13_bitCount_95d88_8 : decode cJ13_bitCount_95d88 8 = .ok (.lsub, 1) := by decide +kernel
theorem dJ13_bitCount_95d88_9 : decode cJ13_bitCount_95d88 9 = .ok (.lstore_n 0, 1) := by decide +kernel
theorem dJ13_bitCount_95d88_10 : decode cJ13_bitCount_95d88 10 = .ok (.lload_n 0, 1) := by decide +kernel
theorem dJ13_bitCount_95d88_11 : decode cJ13_bitCount_95d88 11 = .ok (.ldc2_w 316, 3) := by decide +kernel
theorem dJ13_bitCount_95d88_14 : decode cJ13_bitCount_95d88 14 = .ok (.land, 1) := by decide +kernel
theorem dJ13_bitCount_95d88_15 : decode cJ13_bitCount_95d88 15 = .ok (.lload_n 0, 1) := by decide +kernel
theorem dJ13_bitCount_95d88_16 : decode cJ13_bitCount_95d88 16 = .ok (.iconst 2, 1) := by decide +kernel
theorem dJ13_bitCount_95d88_17 : decode cJ13_bitCount_95d88 17 = .ok (.lushr, 1) := by decide +kernel
theorem dJ13_bitCount_95d88_18 : decode cJ13_bitCount_95d88 18 = .ok (.ldc2_w 316, 3) := by decide +kernel
theorem dJ13_bitCount_95d88_21 : decode cJ13_bitCount_95d88 21 = .ok (.land, 1) := by decide +kernel
theorem dJ13_bitCount_95d88_22 : decode cJ13_bitCount_95d88 22 = .ok (.ladd, 1) := by decide +kernel
theorem dJ13_bitCount_95d88_23 : decode cJ13_bitCount_95d88 23 = .ok (.lstore_n 0, 1) := by decide +kernel
theorem dJ13_bitCount_95d88_24 : decode cJ13_bitCount_95d88 24 = .ok (.lload_n 0, 1) := by decide +kernel
theorem dJ13_bitCount_95d88_25 : decode cJ13_bitCount_95d88 25 = .ok (.lload_n 0, 1) := by decide +kernel
theorem dJ13_bitCount_95d88_26 : decode cJ13_bitCount_95d88 26 = .ok (.iconst 4, 1) := by decide +kernel
theorem dJ13_bitCount_95d88_27 : decode cJ13_bitCount_95d88 27 = .ok (.lushr, 1) := by decide +kernel
theorem dJ13_bitCount_95d88_28 : decode cJ13_bitCount_95d88 28 = .ok (.ladd, 1) := by decide +kernel
theorem dJ13_bitCount_95d88_29 : decode cJ13_bitCount_95d88 29 = .ok (.ldc2_w 318, 3) := by decide +kernel
theorem dJ13_bitCount_95d88_32 : decode cJ13_bitCount_95d88 32 = .ok (.land, 1) := by decide +kernel
theorem dJ13_bitCount_95d88_33 : decode cJ13_bitCount_95d88 33 = .ok (.lstore_n 0, 1) := by decide +kernel
theorem dJ13_bitCount_95d88_34 : decode cJ13_bitCount_95d88 34 = .ok (.lload_n 0, 1) := by decide +kernel
theorem dJ13_bitCount_95d88_35 : decode cJ13_bitCount_95d88 35 = .ok (.lload_n 0, 1) := by decide +kernel
theorem dJ13_bitCount_95d88_36 : decode cJ13_bitCount_95d88 36 = .ok (.bipush 8, 2) := by decide +kernel
theorem dJ13_bitCount_95d88_38 : decode cJ13_bitCount_95d88 38 = .ok (.lushr, 1) := by decide +kernel
theorem dJ13_bitCount_95d88_39 : decode cJ13_bitCount_95d88 39 = .ok (.ladd, 1) := by decide +kernel
theorem dJ13_bitCount_95d88_40 : decode cJ13_bitCount_95d88 40 = .ok (.lstore_n 0, 1) := by decide +kernel
theorem dJ13_bitCount_95d88_41 : decode cJ13_bitCount_95d88 41 = .ok (.lload_n 0, 1) := by decide +kernel
theorem dJ13_bitCount_95d88_42 : decode cJ13_bitCount_95d88 42 = .ok (.lload_n 0, 1) := by decide +kernel
theorem dJ13_bitCount_95d88_43 : decode cJ13_bitCount_95d88 43 = .ok (.bipush 16, 2) := by decide +kernel
theorem dJ13_bitCount_95d88_45 : decode cJ13_bitCount_95d88 45 = .ok (.lushr, 1) := by decide +kernel
theorem dJ13_bitCount_95d88_46 : decode cJ13_bitCount_95d88 46 = .ok (.ladd, 1) := by decide +kernel
theorem dJ13_bitCount_95d88_47 : decode cJ13_bitCount_95d88 47 = .ok (.lstore_n 0, 1) := by decide +kernel
theorem dJ13_bitCount_95d88_48 : decode cJ13_bitCount_95d88 48 = .ok (.lload_n 0, 1) := by decide +kernel
theorem dJ13_bitCount_95d88_49 : decode cJ13_bitCount_95d88 49 = .ok (.lload_n 0, 1) := by decide +kernel
theorem dJ13_bitCount_95d88_50 : decode cJ13_bitCount_95d88 50 = .ok (.bipush 32, 2) := by decide +kernel
theorem dJ13_bitCount_95d88_52 : decode cJ13_bitCount_95d88 52 = .ok (.lushr, 1) := by decide +kernel
theorem dJ13_bitCount_95d88_53 : decode cJ13_bitCount_95d88 53 = .ok (.ladd, 1) := by decide +kernel
theorem dJ13_bitCount_95d88_54 : decode cJ13_bitCount_95d88 54 = .ok (.lstore_n 0, 1) := by decide +kernel
theorem dJ13_bitCount_95d88_55 : decode cJ13_bitCount_95d88 55 = .ok (.lload_n 0, 1) := by decide +kernel
theorem dJ13_bitCount_95d88_56 : decode cJ13_bitCount_95d88 56 = .ok (.l2i, 1) := by decide +kernel
theorem dJ13_bitCount_95d88_57 : decode cJ13_bitCount_95d88 57 = .ok (.bipush 127, 2) := by decide +kernel
theorem dJ13_bitCount_95d88_59 : decode cJ13_bitCount_95d88 59 = .ok (.iand, 1) := by decide +kernel
theorem dJ13_bitCount_95d88_60 : decode cJ13_bitCount_95d88 60 = .ok (.ireturn, 1) := by decide +kernel
theorem dJ9_abs_0f7a4_0 : decode cJ9_abs_0f7a4 0 = .ok (.iload_n 0, 1) := by decide +kernel
theorem dJ9_abs_0f7a4_1 : decode cJ9_abs_0f7a4 1 = .ok (.ifCond .ge 8, 3) := by decide +kernel
theorem dJ9_abs_0f7a4_4 : decode cJ9_abs_0f7a4 4 = .ok (.iload_n 0, 1) := by decide +kernel
theorem dJ9_abs_0f7a4_5 : decode cJ9_abs_0f7a4 5 = .ok (.ineg, 1) := by decide +kernel
theorem dJ9_abs_0f7a4_6 : decode cJ9_abs_0f7a4 6 = .ok (.goto 4, 3) := by decide +kernel
theorem dJ9_abs_0f7a4_9 : decode cJ9_abs_0f7a4 9 = .ok (.iload_n 0, 1) := by decide +kernel
theorem dJ9_abs_0f7a4_10 : decode cJ9_abs_0f7a4 10 = .ok (.ireturn, 1) := by decide +kernel
theorem dJ9_max_7cf53_0 : decode cJ9_max_7cf53 0 = .ok (.iload_n 0, 1) := by decide +kernel
theorem dJ9_max_7cf53_1 : decode cJ9_max_7cf53 1 = .ok (.iload_n 1, 1) := by decide +kernel
theorem dJ9_max_7cf53_2 : decode cJ9_max_7cf53 2 = .ok (.if_icmp .lt 7, 3) := by decide +kernel
theorem dJ9_max_7cf53_5 : decode cJ9_max_7cf53 5 = .ok (.iload_n 0, 1) := by decide +kernel
theorem dJ9_max_7cf53_6 : decode cJ9_max_7cf53 6 = .ok (.goto 4, 3) := by decide +kernel
theorem dJ9_max_7cf53_9 : decode cJ9_max_7cf53 9 = .ok (.iload_n 1, 1) := by decide +kernel
theorem dJ9_max_7cf53_10 : decode cJ9_max_7cf53 10 = .ok (.ireturn, 1) := by decide +kernel
theorem dJ9_min_7cf53_0 : decode cJ9_min_7cf53 0 = .ok (.iload_n 0, 1) := by decide +kernel
theorem dJ9_min_7cf53_1 : decode cJ9_min_7cf53 1 = .ok (.iload_n 1, 1) := by decide +kernel
theorem dJ9_min_7cf53_2 : decode cJ9_min_7cf53 2 = .ok (.if_icmp .gt 7, 3) := by decide +kernel
theorem dJ9_min_7cf53_5 : decode cJ9_min_7cf53 5 = .ok (.iload_n 0, 1) := by decide +kernel
theorem dJ9_min_7cf53_6 : decode cJ9_min_7cf53 6 = .ok (.goto 4, 3) := by decide +kernel
theorem dJ9_min_7cf53_9 : decode cJ9_min_7cf53 9 = .ok (.iload_n 1, 1) := by decide +kernel
theorem dJ9_min_7cf53_10 : decode cJ9_min_7cf53 10 = .ok (.ireturn, 1) := by decide +kernel
theorem dJxa1e45_init_da8c8_0 : decode cJxa1e45_init_da8c8 0 = .ok (.aload_n 0, 1) := by decide +kernel
theorem dJxa1e45_init_da8c8_1 : decode cJxa1e45_init_da8c8 1 = .ok (.invokespecial 1, 3) := by decide +kernel
theorem dJxa1e45_init_da8c8_4 : decode cJxa1e45_init_da8c8 4 = .ok (.return_, 1) := by decide +kernel
theorem dJxc12de_init_da8c8_0 : decode cJxc12de_init_da8c8 0 = .ok (.aload_n 0, 1) := by decide +kernel
theorem dJxc12de_init_da8c8_1 : decode cJxc12de_init_da8c8 1 = .ok (.invokespecial 1, 3) := by decide +kernel
theorem dJxc12de_init_da8c8_4 : decode cJxc12de_init_da8c8 4 = .ok (.aload_n 0, 1) := by decide +kernel
theorem dJxc12de_init_da8c8_5 : decode cJxc12de_init_da8c8 5 = .ok (.iconst 0, 1) := by decide +kernel
theorem dJxc12de_init_da8c8_6 : decode cJxc12de_init_da8c8 6 = .ok (.putfield 7, 3) := by decide +kernel
theorem dJxc12de_init_da8c8_9 : decode cJxc12de_init_da8c8 9 = .ok (.return_, 1) := by decide +kernel
theorem dJx4a65c_init_da8c8_0 : decode cJx4a65c_init_da8c8 0 = .ok (.aload_n 0, 1) := by decide +kernel
theorem dJx4a65c_init_da8c8_1 : decode cJx4a65c_init_da8c8 1 = .ok (.invokespecial 1, 3) := by decide +kernel
theorem dJx4a65c_init_da8c8_4 : decode cJx4a65c_init_da8c8 4 = .ok (.aload_n 0, 1) := by decide +kernel
theorem dJx4a65c_init_da8c8_5 : decode cJx4a65c_init_da8c8 5 = .ok (.getstatic 39, 3) := by decide +kernel
theorem dJx4a65c_init_da8c8_8 : decode cJx4a65c_init_da8c8 8 = .ok (.putfield 9, 3) := by decide +kernel
theorem dJx4a65c_init_da8c8_11 : decode cJx4a65c_init_da8c8 11 = .ok (.return_, 1) := by decide +kernel
theorem dJx4a65c_grow_92f84_0 : decode cJx4a65c_grow_92f84 0 = .ok (.aload_n 0, 1) := by decide +kernel
theorem dJx4a65c_grow_92f84_1 : decode cJx4a65c_grow_92f84 1 = .ok (.getfield 9, 3) := by decide +kernel
theorem dJx4a65c_grow_92f84_4 : decode cJx4a65c_grow_92f84 4 = .ok (.arraylength, 1) := by decide +kernel
theorem dJx4a65c_grow_92f84_5 : decode cJx4a65c_grow_92f84 5 = .ok (.istore_n 2, 1) := by decide +kernel
theorem dJx4a65c_grow_92f84_6 : decode cJx4a65c_grow_92f84 6 = .ok (.iload_n 2, 1) := by decide +kernel
theorem dJx4a65c_grow_92f84_7 : decode cJx4a65c_grow_92f84 7 = .ok (.ifCond .gt 13, 3) := by decide +kernel
theorem dJx4a65c_grow_92f84_10 : decode cJx4a65c_grow_92f84 10 = .ok (.aload_n 0, 1) := by decide +kernel
theorem dJx4a65c_grow_92f84_11 : decode cJx4a65c_grow_92f84 11 = .ok (.getfield 9, 3) := by decide +kernel
theorem dJx4a65c_grow_92f84_14 : decode cJx4a65c_grow_92f84 14 = .ok (.getstatic 39, 3) := by decide +kernel
theorem dJx4a65c_grow_92f84_17 : decode cJx4a65c_grow_92f84 17 = .ok (.if_acmp .eq 28, 3) := by decide +kernel
theorem dJx4a65c_grow_92f84_20 : decode cJx4a65c_grow_92f84 20 = .ok (.iload_n 2, 1) := by decide +kernel
theorem dJx4a65c_grow_92f84_21 : decode cJx4a65c_grow_92f84 21 = .ok (.iload_n 1, 1) := by decide +kernel
theorem dJx4a65c_grow_92f84_22 : decode cJx4a65c_grow_92f84 22 = .ok (.iload_n 2, 1) := by decide +kernel
theorem dJx4a65c_grow_92f84_23 : decode cJx4a65c_grow_92f84 23 = .ok (.isub, 1) := by decide +kernel
theorem dJx4a65c_grow_92f84_24 : decode cJx4a65c_grow_92f84 24 = .ok (.iload_n 2, 1) := by decide +kernel
theorem dJx4a65c_grow_92f84_25 : decode cJx4a65c_grow_92f84 25 = .ok (.iconst 1, 1) := by decide +kernel
theorem dJx4a65c_grow_92f84_26 : decode cJx4a65c_grow_92f84 26 = .ok (.ishr, 1) := by decide +kernel
theorem dJx4a65c_grow_92f84_27 : decode cJx4a65c_grow_92f84 27 = .ok (.invokestatic 73, 3) := by decide +kernel
theorem dJx4a65c_grow_92f84_30 : decode cJx4a65c_grow_92f84 30 = .ok (.istore_n 3, 1) := by decide +kernel
theorem dJx4a65c_grow_92f84_31 : decode cJx4a65c_grow_92f84 31 = .ok (.aload_n 0, 1) := by decide +kernel
theorem dJx4a65c_grow_92f84_32 : decode cJx4a65c_grow_92f84 32 = .ok (.aload_n 0, 1) := by decide +kernel
theorem dJx4a65c_grow_92f84_33 : decode cJx4a65c_grow_92f84 33 = .ok (.getfield 9, 3) := by decide +kernel
theorem dJx4a65c_grow_92f84_36 : decode cJx4a65c_grow_92f84 36 = .ok (.iload_n 3, 1) := by decide +kernel
theorem dJx4a65c_grow_92f84_37 : decode cJx4a65c_grow_92f84 37 = .ok (.invokestatic 66, 3) := by decide +kernel
theorem dJx4a65c_grow_92f84_40 : decode cJx4a65c_grow_92f84 40 = .ok (.dup_x1, 1) := by decide +kernel
theorem dJx4a65c_grow_92f84_41 : decode cJx4a65c_grow_92f84 41 = .ok (.putfield 9, 3) := by decide +kernel
theorem dJx4a65c_grow_92f84_44 : decode cJx4a65c_grow_92f84 44 = .ok (.areturn, 1) := by decide +kernel
theorem dJx4a65c_grow_92f84_45 : decode cJx4a65c_grow_92f84 45 = .ok (.aload_n 0, 1) := by decide +kernel
theorem dJx4a65c_grow_92f84_46 : decode cJx4a65c_grow_92f84 46 = .ok (.bipush 10, 2) := by decide +kernel
theorem dJx4a65c_grow_92f84_48 : decode cJx4a65c_grow_92f84 48 = .ok (.iload_n 1, 1) := by decide +kernel
theorem dJx4a65c_grow_92f84_49 : decode cJx4a65c_grow_92f84 49 = .ok (.invokestatic 79, 3) := by decide +kernel
theorem dJx4a65c_grow_92f84_52 : decode cJx4a65c_grow_92f84 52 = .ok (.anewarray 7, 3) := by decide +kernel
theorem dJx4a65c_grow_92f84_55 : decode cJx4a65c_grow_92f84 55 = .ok (.dup_x1, 1) := by decide +kernel
theorem dJx4a65c_grow_92f84_56 : decode cJx4a65c_grow_92f84 56 = .ok (.putfield 9, 3) := by decide +kernel
theorem dJx4a65c_grow_92f84_59 : decode cJx4a65c_grow_92f84 59 = .ok (.areturn, 1) := by decide +kernel
theorem dJx4a65c_grow_d5877_0 : decode cJx4a65c_grow_d5877 0 = .ok (.aload_n 0, 1) := by decide +kernel
theorem dJx4a65c_grow_d5877_1 : decode cJx4a65c_grow_d5877 1 = .ok (.aload_n 0, 1) := by decide +kernel
theorem dJx4a65c_grow_d5877_2 : decode cJx4a65c_grow_d5877 2 = .ok (.getfield 48, 3) := by decide +kernel
theorem dJx4a65c_grow_d5877_5 : decode cJx4a65c_grow_d5877 5 = .ok (.iconst 1, 1) := by decide +kernel
theorem dJx4a65c_grow_d5877_6 : decode cJx4a65c_grow_d5877 6 = .ok (.iadd, 1) := by decide +kernel
theorem dJx4a65c_grow_d5877_7 : decode cJx4a65c_grow_d5877 7 = .ok (.invokevirtual 69, 3) := by decide +kernel
theorem dJx4a65c_grow_d5877_10 : decode cJx4a65c_grow_d5877 10 = .ok (.areturn, 1) := by decide +kernel
theorem dJx4a65c_size_8abf5_0 : decode cJx4a65c_size_8abf5 0 = .ok (.aload_n 0, 1) := by decide +kernel
theorem dJx4a65c_size_8abf5_1 : decode cJx4a65c_size_8abf5 1 = .ok (.getfield 48, 3) := by decide +kernel
theorem dJx4a65c_size_8abf5_4 : decode cJx4a65c_size_8abf5 4 = .ok (.ireturn, 1) := by decide +kernel
theorem dJx4a65c_elementData_915e3_0 : decode cJx4a65c_elementData_915e3 0 = .ok (.aload_n 0, 1) := by decide +kernel
theorem dJx4a65c_elementData_915e3_1 : decode cJx4a65c_elementData_915e3 1 = .ok (.getfield 9, 3) := by decide +kernel
theorem dJx4a65c_elementData_915e3_4 : decode cJx4a65c_elementData_915e3 4 = .ok (.iload_n 1, 1) := by decide +kernel
theorem dJx4a65c_elementData_915e3_5 : decode cJx4a65c_elementData_915e3 5 = .ok (.aaload, 1) := by decide +kernel
theorem dJx4a65c_elementData_915e3_6 : decode cJx4a65c_elementData_915e3 6 = .ok (.areturn, 1) := by decide +kernel
theorem dJx4a65c_get_915e3_0 : decode cJx4a65c_get_915e3 0 = .ok (.iload_n 1, 1) := by decide +kernel
theorem dJx4a65c_get_915e3_1 : decode cJx4a65c_get_915e3 1 = .ok (.aload_n 0, 1) := by decide +kernel
theorem dJx4a65c_get_915e3_2 : decode cJx4a65c_get_915e3 2 = .ok (.getfield 48, 3) := by decide +kernel
theorem dJx4a65c_get_915e3_5 : decode cJx4a65c_get_915e3 5 = .ok (.invokestatic 118, 3) := by decide +kernel
theorem dJx4a65c_get_915e3_8 : decode cJx4a65c_get_915e3 8 = .ok (.pop, 1) := by decide +kernel
theorem dJx4a65c_get_915e3_9 : decode cJx4a65c_get_915e3 9 = .ok (.aload_n 0, 1) := by decide +kernel
theorem dJx4a65c_get_915e3_10 : decode cJx4a65c_get_915e3 10 = .ok (.iload_n 1, 1) := by decide +kernel
theorem dJx4a65c_get_915e3_11 : decode cJx4a65c_get_915e3 11 = .ok (.invokevirtual 123, 3) := by decide +kernel
theorem dJx4a65c_get_915e3_14 : decode cJx4a65c_get_915e3 14 = .ok (.areturn, 1) := by decide +kernel
theorem dJx4a65c_add_72be8_0 : decode cJx4a65c_add_72be8 0 = .ok (.iload_n 3, 1) := by decide +kernel
theorem dJx4a65c_add_72be8_1 : decode cJx4a65c_add_72be8 1 = .ok (.aload_n 2, 1) := by decide +kernel
theorem dJx4a65c_add_72be8_2 : decode cJx4a65c_add_72be8 2 = .ok (.arraylength, 1) := by decide +kernel
theorem dJx4a65c_add_72be8_3 : decode cJx4a65c_add_72be8 3 = .ok (.if_icmp .ne 8, 3) := by decide +kernel
theorem dJx4a65c_add_72be8_6 : decode cJx4a65c_add_72be8 6 = .ok (.aload_n 0, 1) := by decide +kernel
theorem dJx4a65c_add_72be8_7 : decode cJx4a65c_add_72be8 7 = .ok (.invokevirtual 129, 3) := by decide +kernel
theorem dJx4a65c_add_72be8_10 : decode cJx4a65c_add_72be8 10 = .ok (.astore_n 2, 1) := by decide +kernel
theorem dJx4a65c_add_72be8_11 : decode cJx4a65c_add_72be8 11 = .ok (.aload_n 2, 1) := by decide +kernel
theorem dJx4a65c_add_72be8_12 : decode cJx4a65c_add_72be8 12 = .ok (.iload_n 3, 1) := by decide +kernel
theorem dJx4a65c_add_72be8_13 : decode cJx4a65c_add_72be8 13 = .ok (.aload_n 1, 1) := by decide +kernel
theorem dJx4a65c_add_72be8_14 : decode cJx4a65c_add_72be8 14 = .ok (.aastore, 1) := by decide +kernel
theorem dJx4a65c_add_72be8_15 : decode cJx4a65c_add_72be8 15 = .ok (.aload_n 0, 1) := by decide +kernel
theorem dJx4a65c_add_72be8_16 : decode cJx4a65c_add_72be8 16 = .ok (.iload_n 3, 1) := by decide +kernel
theorem dJx4a65c_add_72be8_17 : decode cJx4a65c_add_72be8 17 = .ok (.iconst 1, 1) := by decide +kernel
theorem dJx4a65c_add_72be8_18 : decode cJx4a65c_add_72be8 18 = .ok (.iadd, 1) := by decide +kernel
theorem dJx4a65c_add_72be8_19 : decode cJx4a65c_add_72be8 19 = .ok (.putfield 48, 3) := by decide +kernel
theorem dJx4a65c_add_72be8_22 : decode cJx4a65c_add_72be8 22 = .ok (.return_, 1) := by decide +kernel
theorem dJx4a65c_add_9ea2d_0 : decode cJx4a65c_add_9ea2d 0 = .ok (.aload_n 0, 1) := by decide +kernel
theorem dJx4a65c_add_9ea2d_1 : decode cJx4a65c_add_9ea2d 1 = .ok (.dup, 1) := by decide +kernel
theorem dJx4a65c_add_9ea2d_2 : decode cJx4a65c_add_9ea2d 2 = .ok (.getfield 63, 3) := by decide +kernel
theorem dJx4a65c_add_9ea2d_5 : decode cJx4a65c_add_9ea2d 5 = .ok (.iconst 1, 1) := by decide +kernel
theorem dJx4a65c_add_9ea2d_6 : decode cJx4a65c_add_9ea2d 6 = .ok (.iadd, 1) := by decide +kernel
theorem dJx4a65c_add_9ea2d_7 : decode cJx4a65c_add_9ea2d 7 = .ok (.putfield 63, 3) := by decide +kernel
theorem dJx4a65c_add_9ea2d_10 : decode cJx4a65c_add_9ea2d 10 = .ok (.aload_n 0, 1) := by decide +kernel
theorem dJx4a65c_add_9ea2d_11 : decode cJx4a65c_add_9ea2d 11 = .ok (.aload_n 1, 1) := by decide +kernel
theorem dJx4a65c_add_9ea2d_12 : decode cJx4a65c_add_9ea2d 12 = .ok (.aload_n 0, 1) := by decide +kernel
theorem dJx4a65c_add_9ea2d_13 : decode cJx4a65c_add_9ea2d 13 = .ok (.getfield 9, 3) := by decide +kernel
theorem dJx4a65c_add_9ea2d_16 : decode cJx4a65c_add_9ea2d 16 = .ok (.aload_n 0, 1) := by decide +kernel
theorem dJx4a65c_add_9ea2d_17 : decode cJx4a65c_add_9ea2d 17 = .ok (.getfield 48, 3) := by decide +kernel
theorem dJx4a65c_add_9ea2d_20 : decode cJx4a65c_add_9ea2d 20 = .ok (.invokevirtual 131, 3) := by decide +kernel
theorem dJx4a65c_add_9ea2d_23 : decode cJx4a65c_add_9ea2d 23 = .ok (.iconst 1, 1) := by decide +kernel
theorem dJx4a65c_add_9ea2d_24 : decode cJx4a65c_add_9ea2d 24 = .ok (.ireturn, 1) := by decide +kernel
theorem dJ7_copyOf_1904c_0 : decode cJ7_copyOf_1904c 0 = .ok (.aload_n 0, 1) := by decide +kernel
theorem dJ7_copyOf_1904c_1 : decode cJ7_copyOf_1904c 1 = .ok (.iload_n 1, 1) := by decide +kernel
theorem dJ7_copyOf_1904c_2 : decode cJ7_copyOf_1904c 2 = .ok (.aload_n 0, 1) := by decide +kernel
theorem dJ7_copyOf_1904c_3 : decode cJ7_copyOf_1904c 3 = .ok (.invokevirtual 86, 3) := by decide +kernel
theorem dJ7_copyOf_1904c_6 : decode cJ7_copyOf_1904c 6 = .ok (.invokestatic 300, 3) := by decide +kernel
theorem dJ7_copyOf_1904c_9 : decode cJ7_copyOf_1904c 9 = .ok (.areturn, 1) := by decide +kernel
theorem dJ7_copyOf_6403c_0 : decode cJ7_copyOf_6403c 0 = .ok (.aload_n 2, 1) := by decide +kernel
theorem dJ7_copyOf_6403c_1 : decode cJ7_copyOf_6403c 1 = .ok (.ldc 110, 2) := by decide +kernel
theorem dJ7_copyOf_6403c_3 : decode cJ7_copyOf_6403c 3 = .ok (.if_acmp .ne 10, 3) := by decide +kernel
theorem dJ7_copyOf_6403c_6 : decode cJ7_copyOf_6403c 6 = .ok (.iload_n 1, 1) := by decide +kernel
theorem dJ7_copyOf_6403c_7 : decode cJ7_copyOf_6403c 7 = .ok (.anewarray 2, 3) := by decide +kernel
theorem dJ7_copyOf_6403c_10 : decode cJ7_copyOf_6403c 10 = .ok (.goto 14, 3) := by decide +kernel
theorem dJ7_copyOf_6403c_13 : decode cJ7_copyOf_6403c 13 = .ok (.aload_n 2, 1) := by decide +kernel
theorem dJ7_copyOf_6403c_14 : decode cJ7_copyOf_6403c 14 = .ok (.invokevirtual 90, 3) := by decide +kernel
theorem dJ7_copyOf_6403c_17 : decode cJ7_copyOf_6403c 17 = .ok (.iload_n 1, 1) := by decide +kernel
theorem dJ7_copyOf_6403c_18 : decode cJ7_copyOf_6403c 18 = .ok (.invokestatic 95, 3) := by decide +kernel
theorem dJ7_copyOf_6403c_21 : decode cJ7_copyOf_6403c 21 = .ok (.checkcast 110, 3) := by decide +kernel
theorem dJ7_copyOf_6403c_24 : decode cJ7_copyOf_6403c 24 = .ok (.astore_n 3, 1) := by decide +kernel
theorem dJ7_copyOf_6403c_25 : decode cJ7_copyOf_6403c 25 = .ok (.aload_n 0, 1) := by decide +kernel
theorem dJ7_copyOf_6403c_26 : decode cJ7_copyOf_6403c 26 = .ok (.iconst 0, 1) := by decide +kernel
theorem dJ7_copyOf_6403c_27 : decode cJ7_copyOf_6403c 27 = .ok (.aload_n 3, 1) := by decide +kernel
theorem dJ7_copyOf_6403c_28 : decode cJ7_copyOf_6403c 28 = .ok (.iconst 0, 1) := by decide +kernel
theorem dJ7_copyOf_6403c_29 : decode cJ7_copyOf_6403c 29 = .ok (.aload_n 0, 1) := by decide +kernel
theorem dJ7_copyOf_6403c_30 : decode cJ7_copyOf_6403c 30 = .ok (.arraylength, 1) := by decide +kernel
theorem dJ7_copyOf_6403c_31 : decode cJ7_copyOf_6403c 31 = .ok (.iload_n 1, 1) := by decide +kernel
theorem dJ7_copyOf_6403c_32 : decode cJ7_copyOf_6403c 32 = .ok (.invokestatic 304, 3) := by decide +kernel
theorem dJ7_copyOf_6403c_35 : decode cJ7_copyOf_6403c 35 = .ok (.invokestatic 150, 3) := by decide +kernel
theorem dJ7_copyOf_6403c_38 : decode cJ7_copyOf_6403c 38 = .ok (.aload_n 3, 1) := by decide +kernel
theorem dJ7_copyOf_6403c_39 : decode cJ7_copyOf_6403c 39 = .ok (.areturn, 1) := by decide +kernel
theorem dJ15_checkIndex_7cf53_0 : decode cJ15_checkIndex_7cf53 0 = .ok (.iload_n 0, 1) := by decide +kernel
theorem dJ15_checkIndex_7cf53_1 : decode cJ15_checkIndex_7cf53 1 = .ok (.iload_n 1, 1) := by decide +kernel
theorem dJ15_checkIndex_7cf53_2 : decode cJ15_checkIndex_7cf53 2 = .ok (.aconst_null, 1) := by decide +kernel
theorem dJ15_checkIndex_7cf53_3 : decode cJ15_checkIndex_7cf53 3 = .ok (.invokestatic 105, 3) := by decide +kernel
theorem dJ15_checkIndex_7cf53_6 : decode cJ15_checkIndex_7cf53 6 = .ok (.ireturn, 1) := by decide +kernel
theorem dJ8_newLength_cabcc_0 : decode cJ8_newLength_cabcc 0 = .ok (.iload_n 0, 1) := by decide +kernel
theorem dJ8_newLength_cabcc_1 : decode cJ8_newLength_cabcc 1 = .ok (.iload_n 1, 1) := by decide +kernel
theorem dJ8_newLength_cabcc_2 : decode cJ8_newLength_cabcc 2 = .ok (.iload_n 2, 1) := by decide +kernel
theorem dJ8_newLength_cabcc_3 : decode cJ8_newLength_cabcc 3 = .ok (.invokestatic 194, 3) := by decide +kernel
theorem dJ8_newLength_cabcc_6 : decode cJ8_newLength_cabcc 6 = .ok (.iadd, 1) := by decide +kernel
theorem dJ8_newLength_cabcc_7 : decode cJ8_newLength_cabcc 7 = .ok (.istore_n 3, 1) := by decide +kernel
theorem dJ8_newLength_cabcc_8 : decode cJ8_newLength_cabcc 8 = .ok (.iconst 0, 1) := by decide +kernel
theorem dJ8_newLength_cabcc_9 : decode cJ8_newLength_cabcc 9 = .ok (.iload_n 3, 1) := by decide +kernel
theorem dJ8_newLength_cabcc_10 : decode cJ8_newLength_cabcc 10 = .ok (.if_icmp .ge 11, 3) := by decide +kernel
theorem dJ8_newLength_cabcc_13 : decode cJ8_newLength_cabcc 13 = .ok (.iload_n 3, 1) := by decide +kernel
theorem dJ8_newLength_cabcc_14 : decode cJ8_newLength_cabcc 14 = .ok (.ldc 200, 2) := by decide +kernel
theorem dJ8_newLength_cabcc_16 : decode cJ8_newLength_cabcc 16 = .ok (.if_icmp .gt 5, 3) := by decide +kernel
theorem dJ8_newLength_cabcc_19 : decode cJ8_newLength_cabcc 19 = .ok (.iload_n 3, 1) := by decide +kernel
theorem dJ8_newLength_cabcc_20 : decode cJ8_newLength_cabcc 20 = .ok (.ireturn, 1) := by decide +kernel
theorem dJ8_newLength_cabcc_21 : decode cJ8_newLength_cabcc 21 = .ok (.iload_n 0, 1) := by decide +kernel
theorem dJ8_newLength_cabcc_22 : decode cJ8_newLength_cabcc 22 = .ok (.iload_n 1, 1) := by decide +kernel
theorem dJ8_newLength_cabcc_23 : decode cJ8_newLength_cabcc 23 = .ok (.invokestatic 201, 3) := by decide +kernel
theorem dJ8_newLength_cabcc_26 : decode cJ8_newLength_cabcc 26 = .ok (.ireturn, 1) := by decide +kernel
theorem dJ8_hugeLength_7cf53_0 : decode cJ8_hugeLength_7cf53 0 = .ok (.iload_n 0, 1) := by decide +kernel
theorem dJ8_hugeLength_7cf53_1 : decode cJ8_hugeLength_7cf53 1 = .ok (.iload_n 1, 1) := by decide +kernel
theorem dJ8_hugeLength_7cf53_2 : decode cJ8_hugeLength_7cf53 2 = .ok (.iadd, 1) := by decide +kernel
theorem dJ8_hugeLength_7cf53_3 : decode cJ8_hugeLength_7cf53 3 = .ok (.istore_n 2, 1) := by decide +kernel
theorem dJ8_hugeLength_7cf53_4 : decode cJ8_hugeLength_7cf53 4 = .ok (.iload_n 2, 1) := by decide +kernel
theorem dJ8_hugeLength_7cf53_5 : decode cJ8_hugeLength_7cf53 5 = .ok (.ifCond .ge 44, 3) := by decide +kernel
theorem dJ8_hugeLength_7cf53_8 : decode cJ8_hugeLength_7cf53 8 = .ok (.new 204, 3) := by decide +kernel
theorem dJ8_hugeLength_7cf53_11 : decode cJ8_hugeLength_7cf53 11 = .ok (.dup, 1) := by decide +kernel
theorem dJ8_hugeLength_7cf53_12 : decode cJ8_hugeLength_7cf53 12 = .ok (.new 89, 3) := by decide +kernel
theorem dJ8_hugeLength_7cf53_15 : decode cJ8_hugeLength_7cf53 15 = .ok (.dup, 1) := by decide +kernel
theorem dJ8_hugeLength_7cf53_16 : decode cJ8_hugeLength_7cf53 16 = .ok (.invokespecial 91, 3) := by decide +kernel
theorem dJ8_hugeLength_7cf53_19 : decode cJ8_hugeLength_7cf53 19 = .ok (.ldc 206, 2) := by decide +kernel
theorem dJ8_hugeLength_7cf53_21 : decode cJ8_hugeLength_7cf53 21 = .ok (.invokevirtual 94, 3) := by decide +kernel
theorem dJ8_hugeLength_7cf53_24 : decode cJ8_hugeLength_7cf53 24 = .ok (.iload_n 0, 1) := by decide +kernel
theorem dJ8_hugeLength_7cf53_25 : decode cJ8_hugeLength_7cf53 25 = .ok (.invokevirtual 98, 3) := by decide +kernel
theorem dJ8_hugeLength_7cf53_28 : decode cJ8_hugeLength_7cf53 28 = .ok (.ldc 208, 2) := by decide +kernel
theorem dJ8_hugeLength_7cf53_30 : decode cJ8_hugeLength_7cf53 30 = .ok (.invokevirtual 94, 3) := by decide +kernel
theorem dJ8_hugeLength_7cf53_33 : decode cJ8_hugeLength_7cf53 33 = .ok (.iload_n 1, 1) := by decide +kernel
theorem dJ8_hugeLength_7cf53_34 : decode cJ8_hugeLength_7cf53 34 = .ok (.invokevirtual 98, 3) := by decide +kernel
theorem dJ8_hugeLength_7cf53_37 : decode cJ8_hugeLength_7cf53 37 = .ok (.ldc 210, 2) := by decide +kernel
theorem dJ8_hugeLength_7cf53_39 : decode cJ8_hugeLength_7cf53 39 = .ok (.invokevirtual 94, 3) := by decide +kernel
theorem dJ8_hugeLength_7cf53_42 : decode cJ8_hugeLength_7cf53 42 = .ok (.invokevirtual 101, 3) := by decide +kernel
theorem dJ8_hugeLength_7cf53_45 : decode cJ8_hugeLength_7cf53 45 = .ok (.invokespecial 212, 3) := by decide +kernel
theorem dJ8_hugeLength_7cf53_48 : decode cJ8_hugeLength_7cf53 48 = .ok (.athrow, 1) := by decide +kernel
theorem dJ8_hugeLength_7cf53_49 : decode cJ8_hugeLength_7cf53 49 = .ok (.iload_n 2, 1) := by decide +kernel
theorem dJ8_hugeLength_7cf53_50 : decode cJ8_hugeLength_7cf53 50 = .ok (.ldc 200, 2) := by decide +kernel
theorem dJ8_hugeLength_7cf53_52 : decode cJ8_hugeLength_7cf53 52 = .ok (.if_icmp .gt 6, 3) := by decide +kernel
theorem dJ8_hugeLength_7cf53_55 : decode cJ8_hugeLength_7cf53 55 = .ok (.ldc 200, 2) := by decide +kernel
theorem dJ8_hugeLength_7cf53_57 : decode cJ8_hugeLength_7cf53 57 = .ok (.ireturn, 1) := by decide +kernel
theorem dJ8_hugeLength_7cf53_58 : decode cJ8_hugeLength_7cf53 58 = .ok (.iload_n 2, 1) := by decide +kernel
theorem dJ8_hugeLength_7cf53_59 : decode cJ8_hugeLength_7cf53 59 = .ok (.ireturn, 1) := by decide +kernel
theorem dJ3_checkIndex_8e157_0 : decode cJ3_checkIndex_8e157 0 = .ok (.iload_n 0, 1) := by decide +kernel
theorem dJ3_checkIndex_8e157_1 : decode cJ3_checkIndex_8e157 1 = .ok (.ifCond .lt 8, 3) := by decide +kernel
theorem dJ3_checkIndex_8e157_4 : decode cJ3_checkIndex_8e157 4 = .ok (.iload_n 0, 1) := by decide +kernel
theorem dJ3_checkIndex_8e157_5 : decode cJ3_checkIndex_8e157 5 = .ok (.iload_n 1, 1) := by decide +kernel
theorem dJ3_checkIndex_8e157_6 : decode cJ3_checkIndex_8e157 6 = .ok (.if_icmp .lt 10, 3) := by decide +kernel
theorem dJ3_checkIndex_8e157_9 : decode cJ3_checkIndex_8e157 9 = .ok (.aload_n 2, 1) := by decide +kernel
theorem dJ3_checkIndex_8e157_10 : decode cJ3_checkIndex_8e157 10 = .ok (.iload_n 0, 1) := by decide +kernel
theorem dJ3_checkIndex_8e157_11 : decode cJ3_checkIndex_8e157 11 = .ok (.iload_n 1, 1) := by decide +kernel
theorem dJ3_checkIndex_8e157_12 : decode cJ3_checkIndex_8e157 12 = .ok (.invokestatic 95, 3) := by decide +kernel
theorem dJ3_checkIndex_8e157_15 : decode cJ3_checkIndex_8e157 15 = .ok (.athrow, 1) := by decide +kernel
theorem dJ3_checkIndex_8e157_16 : decode cJ3_checkIndex_8e157 16 = .ok (.iload_n 0, 1) := by decide +kernel
theorem dJ3_checkIndex_8e157_17 : decode cJ3_checkIndex_8e157 17 = .ok (.ireturn, 1) := by decide +kernel
end
section
theorem dL_beast_0 : decode cL_beast 0 = .ok (.aload_n 2, 1) := by decide +kernel
theorem dL_beast_1 : decode cL_beast 1 = .ok (.iconst 0, 1) := by decide +kernel
theorem dL_beast_2 : decode cL_beast 2 = .ok (.aload_n 0, 1) := by decide +kernel
theorem dL_beast_3 : decode cL_beast 3 = .ok (.iload_n 1, 1) := by decide +kernel
theorem dL_beast_4 : decode cL_beast 4 = .ok (.invokevirtual 7, 3) := by decide +kernel
theorem dL_beast_7 : decode cL_beast 7 = .ok (.i2l, 1) := by decide +kernel
theorem dL_beast_8 : decode cL_beast 8 = .ok (.lastore, 1) := by decide +kernel
theorem dL_beast_9 : decode cL_beast 9 = .ok (.goto 9, 3) := by decide +kernel
theorem dL_beast_12 : decode cL_beast 12 = .ok (.astore_n 3, 1) := by decide +kernel
theorem dL_beast_13 : decode cL_beast 13 = .ok (.iconst 1, 1) := by decide +kernel
theorem dL_beast_14 : decode cL_beast 14 = .ok (.ireturn, 1) := by decide +kernel
theorem dL_beast_15 : decode cL_beast 15 = .ok (.astore_n 3, 1) := by decide +kernel
theorem dL_beast_16 : decode cL_beast 16 = .ok (.iconst 2, 1) := by decide +kernel
theorem dL_beast_17 : decode cL_beast 17 = .ok (.ireturn, 1) := by decide +kernel
theorem dL_beast_18 : decode cL_beast 18 = .ok (.iconst 0, 1) := by decide +kernel
theorem dL_beast_19 : decode cL_beast 19 = .ok (.ireturn, 1) := by decide +kernel
theorem dL_rider_0 : decode cL_rider 0 = .ok (.aload_n 1, 1) := by decide +kernel
theorem dL_rider_1 : decode cL_rider 1 = .ok (.iconst 0, 1) := by decide +kernel
theorem dL_rider_2 : decode cL_rider 2 = .ok (.aload_n 0, 1) := by decide +kernel
theorem dL_rider_3 : decode cL_rider 3 = .ok (.invokevirtual 17, 3) := by decide +kernel
theorem dL_rider_6 : decode cL_rider 6 = .ok (.i2l, 1) := by decide +kernel
theorem dL_rider_7 : decode cL_rider 7 = .ok (.lastore, 1) := by decide +kernel
theorem dL_rider_8 : decode cL_rider 8 = .ok (.goto 6, 3) := by decide +kernel
theorem dL_rider_11 : decode cL_rider 11 = .ok (.astore_n 2, 1) := by decide +kernel
theorem dL_rider_12 : decode cL_rider 12 = .ok (.iconst 1, 1) := by decide +kernel
theorem dL_rider_13 : decode cL_rider 13 = .ok (.ireturn, 1) := by decide +kernel
theorem dL_rider_14 : decode cL_rider 14 = .ok (.iconst 0, 1) := by decide +kernel
theorem dL_rider_15 : decode cL_rider 15 = .ok (.ireturn, 1) := by decide +kernel
theorem dL_rodeo_0 : decode cL_rodeo 0 = .ok (.aload 8, 2) := by decide +kernel
theorem dL_rodeo_2 : decode cL_rodeo 2 = .ok (.iconst 0, 1) := by decide +kernel
theorem dL_rodeo_3 : decode cL_rodeo 3 = .ok (.aload_n 0, 1) := by decide +kernel
theorem dL_rodeo_4 : decode cL_rodeo 4 = .ok (.iload_n 1, 1) := by decide +kernel
theorem dL_rodeo_5 : decode cL_rodeo 5 = .ok (.iload_n 2, 1) := by decide +kernel
theorem dL_rodeo_6 : decode cL_rodeo 6 = .ok (.iload_n 3, 1) := by decide +kernel
theorem dL_rodeo_7 : decode cL_rodeo 7 = .ok (.iload 4, 2) := by decide +kernel
theorem dL_rodeo_9 : decode cL_rodeo 9 = .ok (.iload 5, 2) := by decide +kernel
theorem dL_rodeo_11 : decode cL_rodeo 11 = .ok (.iload 6, 2) := by decide +kernel
theorem dL_rodeo_13 : decode cL_rodeo 13 = .ok (.iload 7, 2) := by decide +kernel
theorem dL_rodeo_15 : decode cL_rodeo 15 = .ok (.invokevirtual 21, 3) := by decide +kernel
theorem dL_rodeo_18 : decode cL_rodeo 18 = .ok (.i2l, 1) := by decide +kernel
theorem dL_rodeo_19 : decode cL_rodeo 19 = .ok (.lastore, 1) := by decide +kernel
theorem dL_rodeo_20 : decode cL_rodeo 20 = .ok (.goto 11, 3) := by decide +kernel
theorem dL_rodeo_23 : decode cL_rodeo 23 = .ok (.astore 9, 2) := by decide +kernel
theorem dL_rodeo_25 : decode cL_rodeo 25 = .ok (.iconst 1, 1) := by decide +kernel
theorem dL_rodeo_26 : decode cL_rodeo 26 = .ok (.ireturn, 1) := by decide +kernel
theorem dL_rodeo_27 : decode cL_rodeo 27 = .ok (.astore 9, 2) := by decide +kernel
theorem dL_rodeo_29 : decode cL_rodeo 29 = .ok (.iconst 2, 1) := by decide +kernel
theorem dL_rodeo_30 : decode cL_rodeo 30 = .ok (.ireturn, 1) := by decide +kernel
theorem dL_rodeo_31 : decode cL_rodeo 31 = .ok (.iconst 0, 1) := by decide +kernel
theorem dL_rodeo_32 : decode cL_rodeo 32 = .ok (.ireturn, 1) := by decide +kernel
theorem dL_rodeoIs_0 : decode cL_rodeoIs 0 = .ok (.aload_n 3, 1) := by decide +kernel
theorem dL_rodeoIs_1 : decode cL_rodeoIs 1 = .ok (.iconst 0, 1) := by decide +kernel
theorem dL_rodeoIs_2 : decode cL_rodeoIs 2 = .ok (.aload_n 0, 1) := by decide +kernel
theorem dL_rodeoIs_3 : decode cL_rodeoIs 3 = .ok (.iload_n 1, 1) := by decide +kernel
theorem dL_rodeoIs_4 : decode cL_rodeoIs 4 = .ok (.iload_n 2, 1) := by decide +kernel
theorem dL_rodeoIs_5 : decode cL_rodeoIs 5 = .ok (.invokevirtual 25, 3) := by decide +kernel
theorem dL_rodeoIs_8 : decode cL_rodeoIs 8 = .ok (.i2l, 1) := by decide +kernel
theorem dL_rodeoIs_9 : decode cL_rodeoIs 9 = .ok (.lastore, 1) := by decide +kernel
theorem dL_rodeoIs_10 : decode cL_rodeoIs 10 = .ok (.goto 11, 3) := by decide +kernel
theorem dL_rodeoIs_13 : decode cL_rodeoIs 13 = .ok (.astore 4, 2) := by decide +kernel
theorem dL_rodeoIs_15 : decode cL_rodeoIs 15 = .ok (.iconst 1, 1) := by decide +kernel
theorem dL_rodeoIs_16 : decode cL_rodeoIs 16 = .ok (.ireturn, 1) := by decide +kernel
theorem dL_rodeoIs_17 : decode cL_rodeoIs 17 = .ok (.astore 4, 2) := by decide +kernel
theorem dL_rodeoIs_19 : decode cL_rodeoIs 19 = .ok (.iconst 2, 1) := by decide +kernel
theorem dL_rodeoIs_20 : decode cL_rodeoIs 20 = .ok (.ireturn, 1) := by decide +kernel
theorem dL_rodeoIs_21 : decode cL_rodeoIs 21 = .ok (.iconst 0, 1) := by decide +kernel
theorem dL_rodeoIs_22 : decode cL_rodeoIs 22 = .ok (.ireturn, 1) := by decide +kernel
theorem dL_enter_0 : decode cL_enter 0 = .ok (.aload 5, 2) := by decide +kernel
theorem dL_enter_2 : decode cL_enter 2 = .ok (.iconst 0, 1) := by decide +kernel
theorem dL_enter_3 : decode cL_enter 3 = .ok (.aload_n 0, 1) := by decide +kernel
theorem dL_enter_4 : decode cL_enter 4 = .ok (.iload_n 1, 1) := by decide +kernel
theorem dL_enter_5 : decode cL_enter 5 = .ok (.iload_n 2, 1) := by decide +kernel
theorem dL_enter_6 : decode cL_enter 6 = .ok (.iload_n 3, 1) := by decide +kernel
theorem dL_enter_7 : decode cL_enter 7 = .ok (.iload 4, 2) := by decide +kernel
theorem dL_enter_9 : decode cL_enter 9 = .ok (.invokevirtual 31, 3) := by decide +kernel
theorem dL_enter_12 : decode cL_enter 12 = .ok (.i2l, 1) := by decide +kernel
theorem dL_enter_13 : decode cL_enter 13 = .ok (.lastore, 1) := by decide +kernel
theorem dL_enter_14 : decode cL_enter 14 = .ok (.goto 15, 3) := by decide +kernel
theorem dL_enter_17 : decode cL_enter 17 = .ok (.astore 6, 2) := by decide +kernel
theorem dL_enter_19 : decode cL_enter 19 = .ok (.iconst 1, 1) := by decide +kernel
theorem dL_enter_20 : decode cL_enter 20 = .ok (.ireturn, 1) := by decide +kernel
theorem dL_enter_21 : decode cL_enter 21 = .ok (.astore 6, 2) := by decide +kernel
theorem dL_enter_23 : decode cL_enter 23 = .ok (.iconst 2, 1) := by decide +kernel
theorem dL_enter_24 : decode cL_enter 24 = .ok (.ireturn, 1) := by decide +kernel
theorem dL_enter_25 : decode cL_enter 25 = .ok (.astore 6, 2) := by decide +kernel
theorem dL_enter_27 : decode cL_enter 27 = .ok (.iconst 3, 1) := by decide +kernel
theorem dL_enter_28 : decode cL_enter 28 = .ok (.ireturn, 1) := by decide +kernel
theorem dL_enter_29 : decode cL_enter 29 = .ok (.iconst 0, 1) := by decide +kernel
theorem dL_enter_30 : decode cL_enter 30 = .ok (.ireturn, 1) := by decide +kernel
theorem dL_close_0 : decode cL_close 0 = .ok (.aload_n 2, 1) := by decide +kernel
theorem dL_close_1 : decode cL_close 1 = .ok (.iconst 0, 1) := by decide +kernel
theorem dL_close_2 : decode cL_close 2 = .ok (.aload_n 0, 1) := by decide +kernel
theorem dL_close_3 : decode cL_close 3 = .ok (.iload_n 1, 1) := by decide +kernel
theorem dL_close_4 : decode cL_close 4 = .ok (.invokevirtual 35, 3) := by decide +kernel
theorem dL_close_7 : decode cL_close 7 = .ok (.i2l, 1) := by decide +kernel
theorem dL_close_8 : decode cL_close 8 = .ok (.lastore, 1) := by decide +kernel
theorem dL_close_9 : decode cL_close 9 = .ok (.goto 9, 3) := by decide +kernel
theorem dL_close_12 : decode cL_close 12 = .ok (.astore_n 3, 1) := by decide +kernel
theorem dL_close_13 : decode cL_close 13 = .ok (.iconst 1, 1) := by decide +kernel
theorem dL_close_14 : decode cL_close 14 = .ok (.ireturn, 1) := by decide +kernel
theorem dL_close_15 : decode cL_close 15 = .ok (.astore_n 3, 1) := by decide +kernel
theorem dL_close_16 : decode cL_close 16 = .ok (.iconst 2, 1) := by decide +kernel
theorem dL_close_17 : decode cL_close 17 = .ok (.ireturn, 1) := by decide +kernel
theorem dL_close_18 : decode cL_close 18 = .ok (.iconst 0, 1) := by decide +kernel
theorem dL_close_19 : decode cL_close 19 = .ok (.ireturn, 1) := by decide +kernel
theorem dL_placed_0 : decode cL_placed 0 = .ok (.aload_n 3, 1) := by decide +kernel
theorem dL_placed_1 : decode cL_placed 1 = .ok (.iconst 0, 1) := by decide +kernel
theorem dL_placed_2 : decode cL_placed 2 = .ok (.aload_n 0, 1) := by decide +kernel
theorem dL_placed_3 : decode cL_placed 3 = .ok (.iload_n 1, 1) := by decide +kernel
theorem dL_placed_4 : decode cL_placed 4 = .ok (.iload_n 2, 1) := by decide +kernel
theorem dL_placed_5 : decode cL_placed 5 = .ok (.invokevirtual 38, 3) := by decide +kernel
theorem dL_placed_8 : decode cL_placed 8 = .ok (.i2l, 1) := by decide +kernel
theorem dL_placed_9 : decode cL_placed 9 = .ok (.lastore, 1) := by decide +kernel
theorem dL_placed_10 : decode cL_placed 10 = .ok (.goto 7, 3) := by decide +kernel
theorem dL_placed_13 : decode cL_placed 13 = .ok (.astore 4, 2) := by decide +kernel
theorem dL_placed_15 : decode cL_placed 15 = .ok (.iconst 1, 1) := by decide +kernel
theorem dL_placed_16 : decode cL_placed 16 = .ok (.ireturn, 1) := by decide +kernel
theorem dL_placed_17 : decode cL_placed 17 = .ok (.iconst 0, 1) := by decide +kernel
theorem dL_placed_18 : decode cL_placed 18 = .ok (.ireturn, 1) := by decide +kernel
theorem dL_most_0 : decode cL_most 0 = .ok (.aload_n 2, 1) := by decide +kernel
theorem dL_most_1 : decode cL_most 1 = .ok (.iconst 0, 1) := by decide +kernel
theorem dL_most_2 : decode cL_most 2 = .ok (.aload_n 0, 1) := by decide +kernel
theorem dL_most_3 : decode cL_most 3 = .ok (.iload_n 1, 1) := by decide +kernel
theorem dL_most_4 : decode cL_most 4 = .ok (.invokevirtual 41, 3) := by decide +kernel
theorem dL_most_7 : decode cL_most 7 = .ok (.i2l, 1) := by decide +kernel
theorem dL_most_8 : decode cL_most 8 = .ok (.lastore, 1) := by decide +kernel
theorem dL_most_9 : decode cL_most 9 = .ok (.goto 6, 3) := by decide +kernel
theorem dL_most_12 : decode cL_most 12 = .ok (.astore_n 3, 1) := by decide +kernel
theorem dL_most_13 : decode cL_most 13 = .ok (.iconst 1, 1) := by decide +kernel
theorem dL_most_14 : decode cL_most 14 = .ok (.ireturn, 1) := by decide +kernel
theorem dL_most_15 : decode cL_most 15 = .ok (.iconst 0, 1) := by decide +kernel
theorem dL_most_16 : decode cL_most 16 = .ok (.ireturn, 1) := by decide +kernel
theorem dL_hide_0 : decode cL_hide 0 = .ok (.aload_n 0, 1) := by decide +kernel
theorem dL_hide_1 : decode cL_hide 1 = .ok (.iload_n 1, 1) := by decide +kernel
theorem dL_hide_2 : decode cL_hide 2 = .ok (.invokevirtual 44, 3) := by decide +kernel
theorem dL_hide_5 : decode cL_hide 5 = .ok (.goto 6, 3) := by decide +kernel
theorem dL_hide_8 : decode cL_hide 8 = .ok (.astore_n 2, 1) := by decide +kernel
theorem dL_hide_9 : decode cL_hide 9 = .ok (.iconst 1, 1) := by decide +kernel
theorem dL_hide_10 : decode cL_hide 10 = .ok (.ireturn, 1) := by decide +kernel
theorem dL_hide_11 : decode cL_hide 11 = .ok (.iconst 0, 1) := by decide +kernel
theorem dL_hide_12 : decode cL_hide 12 = .ok (.ireturn, 1) := by decide +kernel
theorem dL_draw_0 : decode cL_draw 0 = .ok (.aload_n 2, 1) := by decide +kernel
theorem dL_draw_1 : decode cL_draw 1 = .ok (.iconst 0, 1) := by decide +kernel
theorem dL_draw_2 : decode cL_draw 2 = .ok (.aload_n 0, 1) := by decide +kernel
theorem dL_draw_3 : decode cL_draw 3 = .ok (.iload_n 1, 1) := by decide +kernel
theorem dL_draw_4 : decode cL_draw 4 = .ok (.invokevirtual 48, 3) := by decide +kernel
theorem dL_draw_7 : decode cL_draw 7 = .ok (.i2l, 1) := by decide +kernel
theorem dL_draw_8 : decode cL_draw 8 = .ok (.lastore, 1) := by decide +kernel
theorem dL_draw_9 : decode cL_draw 9 = .ok (.goto 9, 3) := by decide +kernel
theorem dL_draw_12 : decode cL_draw 12 = .ok (.astore_n 3, 1) := by decide +kernel
theorem dL_draw_13 : decode cL_draw 13 = .ok (.iconst 1, 1) := by decide +kernel
theorem dL_draw_14 : decode cL_draw 14 = .ok (.ireturn, 1) := by decide +kernel
theorem dL_draw_15 : decode cL_draw 15 = .ok (.astore_n 3, 1) := by decide +kernel
theorem dL_draw_16 : decode cL_draw 16 = .ok (.iconst 2, 1) := by decide +kernel
theorem dL_draw_17 : decode cL_draw 17 = .ok (.ireturn, 1) := by decide +kernel
theorem dL_draw_18 : decode cL_draw 18 = .ok (.iconst 0, 1) := by decide +kernel
theorem dL_draw_19 : decode cL_draw 19 = .ok (.ireturn, 1) := by decide +kernel
theorem dL_drawn_0 : decode cL_drawn 0 = .ok (.aload_n 3, 1) := by decide +kernel
theorem dL_drawn_1 : decode cL_drawn 1 = .ok (.iconst 0, 1) := by decide +kernel
theorem dL_drawn_2 : decode cL_drawn 2 = .ok (.aload_n 0, 1) := by decide +kernel
theorem dL_drawn_3 : decode cL_drawn 3 = .ok (.iload_n 1, 1) := by decide +kernel
theorem dL_drawn_4 : decode cL_drawn 4 = .ok (.iload_n 2, 1) := by decide +kernel
theorem dL_drawn_5 : decode cL_drawn 5 = .ok (.invokevirtual 51, 3) := by decide +kernel
theorem dL_drawn_8 : decode cL_drawn 8 = .ok (.i2l, 1) := by decide +kernel
theorem dL_drawn_9 : decode cL_drawn 9 = .ok (.lastore, 1) := by decide +kernel
theorem dL_drawn_10 : decode cL_drawn 10 = .ok (.goto 7, 3) := by decide +kernel
theorem dL_drawn_13 : decode cL_drawn 13 = .ok (.astore 4, 2) := by decide +kernel
theorem dL_drawn_15 : decode cL_drawn 15 = .ok (.iconst 1, 1) := by decide +kernel
theorem dL_drawn_16 : decode cL_drawn 16 = .ok (.ireturn, 1) := by decide +kernel
theorem dL_drawn_17 : decode cL_drawn 17 = .ok (.iconst 0, 1) := by decide +kernel
theorem dL_drawn_18 : decode cL_drawn 18 = .ok (.ireturn, 1) := by decide +kernel
theorem dL_ride_0 : decode cL_ride 0 = .ok (.aload 6, 2) := by decide +kernel
theorem dL_ride_2 : decode cL_ride 2 = .ok (.iconst 0, 1) := by decide +kernel
theorem dL_ride_3 : decode cL_ride 3 = .ok (.aload_n 0, 1) := by decide +kernel
theorem dL_ride_4 : decode cL_ride 4 = .ok (.iload_n 1, 1) := by decide +kernel
theorem dL_ride_5 : decode cL_ride 5 = .ok (.iload_n 2, 1) := by decide +kernel
theorem dL_ride_6 : decode cL_ride 6 = .ok (.iload_n 3, 1) := by decide +kernel
theorem dL_ride_7 : decode cL_ride 7 = .ok (.iload 4, 2) := by decide +kernel
theorem dL_ride_9 : decode cL_ride 9 = .ok (.iload 5, 2) := by decide +kernel
theorem dL_ride_11 : decode cL_ride 11 = .ok (.invokevirtual 54, 3) := by decide +kernel
theorem dL_ride_14 : decode cL_ride 14 = .ok (.i2l, 1) := by decide +kernel
theorem dL_ride_15 : decode cL_ride 15 = .ok (.lastore, 1) := by decide +kernel
theorem dL_ride_16 : decode cL_ride 16 = .ok (.goto 15, 3) := by decide +kernel
theorem dL_ride_19 : decode cL_ride 19 = .ok (.astore 7, 2) := by decide +kernel
theorem dL_ride_21 : decode cL_ride 21 = .ok (.iconst 1, 1) := by decide +kernel
theorem dL_ride_22 : decode cL_ride 22 = .ok (.ireturn, 1) := by decide +kernel
theorem dL_ride_23 : decode cL_ride 23 = .ok (.astore 7, 2) := by decide +kernel
theorem dL_ride_25 : decode cL_ride 25 = .ok (.iconst 2, 1) := by decide +kernel
theorem dL_ride_26 : decode cL_ride 26 = .ok (.ireturn, 1) := by decide +kernel
theorem dL_ride_27 : decode cL_ride 27 = .ok (.astore 7, 2) := by decide +kernel
theorem dL_ride_29 : decode cL_ride 29 = .ok (.iconst 3, 1) := by decide +kernel
theorem dL_ride_30 : decode cL_ride 30 = .ok (.ireturn, 1) := by decide +kernel
theorem dL_ride_31 : decode cL_ride 31 = .ok (.iconst 0, 1) := by decide +kernel
theorem dL_ride_32 : decode cL_ride 32 = .ok (.ireturn, 1) := by decide +kernel
theorem dL_isOffered_0 : decode cL_isOffered 0 = .ok (.aload_n 3, 1) := by decide +kernel
theorem dL_isOffered_1 : decode cL_isOffered 1 = .ok (.iconst 0, 1) := by decide +kernel
theorem dL_isOffered_2 : decode cL_isOffered 2 = .ok (.aload_n 0, 1) := by decide +kernel
theorem dL_isOffered_3 : decode cL_isOffered 3 = .ok (.iload_n 1, 1) := by decide +kernel
theorem dL_isOffered_4 : decode cL_isOffered 4 = .ok (.iload_n 2, 1) := by decide +kernel
theorem dL_isOffered_5 : decode cL_isOffered 5 = .ok (.invokevirtual 58, 3) := by decide +kernel
theorem dL_isOffered_8 : decode cL_isOffered 8 = .ok (.ifCond .eq 7, 3) := by decide +kernel
theorem dL_isOffered_11 : decode cL_isOffered 11 = .ok (.lconst 1, 1) := by decide +kernel
theorem dL_isOffered_12 : decode cL_isOffered 12 = .ok (.goto 4, 3) := by decide +kernel
theorem dL_isOffered_15 : decode cL_isOffered 15 = .ok (.lconst 0, 1) := by decide +kernel
theorem dL_isOffered_16 : decode cL_isOffered 16 = .ok (.lastore, 1) := by decide +kernel
theorem dL_isOffered_17 : decode cL_isOffered 17 = .ok (.goto 7, 3) := by decide +kernel
theorem dL_isOffered_20 : decode cL_isOffered 20 = .ok (.astore 4, 2) := by decide +kernel
theorem dL_isOffered_22 : decode cL_isOffered 22 = .ok (.iconst 1, 1) := by decide +kernel
theorem dL_isOffered_23 : decode cL_isOffered 23 = .ok (.ireturn, 1) := by decide +kernel
theorem dL_isOffered_24 : decode cL_isOffered 24 = .ok (.iconst 0, 1) := by decide +kernel
theorem dL_isOffered_25 : decode cL_isOffered 25 = .ok (.ireturn, 1) := by decide +kernel
theorem dL_answer_0 : decode cL_answer 0 = .ok (.aload 4, 2) := by decide +kernel
theorem dL_answer_2 : decode cL_answer 2 = .ok (.iconst 0, 1) := by decide +kernel
theorem dL_answer_3 : decode cL_answer 3 = .ok (.aload_n 0, 1) := by decide +kernel
theorem dL_answer_4 : decode cL_answer 4 = .ok (.iload_n 1, 1) := by decide +kernel
theorem dL_answer_5 : decode cL_answer 5 = .ok (.iload_n 2, 1) := by decide +kernel
theorem dL_answer_6 : decode cL_answer 6 = .ok (.iload_n 3, 1) := by decide +kernel
theorem dL_answer_7 : decode cL_answer 7 = .ok (.invokevirtual 62, 3) := by decide +kernel
theorem dL_answer_10 : decode cL_answer 10 = .ok (.i2l, 1) := by decide +kernel
theorem dL_answer_11 : decode cL_answer 11 = .ok (.lastore, 1) := by decide +kernel
theorem dL_answer_12 : decode cL_answer 12 = .ok (.goto 11, 3) := by decide +kernel
theorem dL_answer_15 : decode cL_answer 15 = .ok (.astore 5, 2) := by decide +kernel
theorem dL_answer_17 : decode cL_answer 17 = .ok (.iconst 1, 1) := by decide +kernel
theorem dL_answer_18 : decode cL_answer 18 = .ok (.ireturn, 1) := by decide +kernel
theorem dL_answer_19 : decode cL_answer 19 = .ok (.astore 5, 2) := by decide +kernel
theorem dL_answer_21 : decode cL_answer 21 = .ok (.iconst 2, 1) := by decide +kernel
theorem dL_answer_22 : decode cL_answer 22 = .ok (.ireturn, 1) := by decide +kernel
theorem dL_answer_23 : decode cL_answer 23 = .ok (.iconst 0, 1) := by decide +kernel
theorem dL_answer_24 : decode cL_answer 24 = .ok (.ireturn, 1) := by decide +kernel
theorem dL_score_0 : decode cL_score 0 = .ok (.aload_n 3, 1) := by decide +kernel
theorem dL_score_1 : decode cL_score 1 = .ok (.iconst 0, 1) := by decide +kernel
theorem dL_score_2 : decode cL_score 2 = .ok (.aload_n 0, 1) := by decide +kernel
theorem dL_score_3 : decode cL_score 3 = .ok (.iload_n 1, 1) := by decide +kernel
theorem dL_score_4 : decode cL_score 4 = .ok (.iload_n 2, 1) := by decide +kernel
theorem dL_score_5 : decode cL_score 5 = .ok (.invokevirtual 66, 3) := by decide +kernel
theorem dL_score_8 : decode cL_score 8 = .ok (.i2l, 1) := by decide +kernel
theorem dL_score_9 : decode cL_score 9 = .ok (.lastore, 1) := by decide +kernel
theorem dL_score_10 : decode cL_score 10 = .ok (.goto 7, 3) := by decide +kernel
theorem dL_score_13 : decode cL_score 13 = .ok (.astore 4, 2) := by decide +kernel
theorem dL_score_15 : decode cL_score 15 = .ok (.iconst 1, 1) := by decide +kernel
theorem dL_score_16 : decode cL_score 16 = .ok (.ireturn, 1) := by decide +kernel
theorem dL_score_17 : decode cL_score 17 = .ok (.iconst 0, 1) := by decide +kernel
theorem dL_score_18 : decode cL_score 18 = .ok (.ireturn, 1) := by decide +kernel
theorem dL_beastIs_0 : decode cL_beastIs 0 = .ok (.aload_n 3, 1) := by decide +kernel
theorem dL_beastIs_1 : decode cL_beastIs 1 = .ok (.iconst 0, 1) := by decide +kernel
theorem dL_beastIs_2 : decode cL_beastIs 2 = .ok (.aload_n 0, 1) := by decide +kernel
theorem dL_beastIs_3 : decode cL_beastIs 3 = .ok (.iload_n 1, 1) := by decide +kernel
theorem dL_beastIs_4 : decode cL_beastIs 4 = .ok (.iload_n 2, 1) := by decide +kernel
theorem dL_beastIs_5 : decode cL_beastIs 5 = .ok (.invokevirtual 69, 3) := by decide +kernel
theorem dL_beastIs_8 : decode cL_beastIs 8 = .ok (.i2l, 1) := by decide +kernel
theorem dL_beastIs_9 : decode cL_beastIs 9 = .ok (.lastore, 1) := by decide +kernel
theorem dL_beastIs_10 : decode cL_beastIs 10 = .ok (.goto 11, 3) := by decide +kernel
theorem dL_beastIs_13 : decode cL_beastIs 13 = .ok (.astore 4, 2) := by decide +kernel
theorem dL_beastIs_15 : decode cL_beastIs 15 = .ok (.iconst 1, 1) := by decide +kernel
theorem dL_beastIs_16 : decode cL_beastIs 16 = .ok (.ireturn, 1) := by decide +kernel
theorem dL_beastIs_17 : decode cL_beastIs 17 = .ok (.astore 4, 2) := by decide +kernel
theorem dL_beastIs_19 : decode cL_beastIs 19 = .ok (.iconst 2, 1) := by decide +kernel
theorem dL_beastIs_20 : decode cL_beastIs 20 = .ok (.ireturn, 1) := by decide +kernel
theorem dL_beastIs_21 : decode cL_beastIs 21 = .ok (.iconst 0, 1) := by decide +kernel
theorem dL_beastIs_22 : decode cL_beastIs 22 = .ok (.ireturn, 1) := by decide +kernel
theorem dL_pay_0 : decode cL_pay 0 = .ok (.aload_n 2, 1) := by decide +kernel
theorem dL_pay_1 : decode cL_pay 1 = .ok (.iconst 0, 1) := by decide +kernel
theorem dL_pay_2 : decode cL_pay 2 = .ok (.aload_n 0, 1) := by decide +kernel
theorem dL_pay_3 : decode cL_pay 3 = .ok (.iload_n 1, 1) := by decide +kernel
theorem dL_pay_4 : decode cL_pay 4 = .ok (.invokevirtual 72, 3) := by decide +kernel
theorem dL_pay_7 : decode cL_pay 7 = .ok (.i2l, 1) := by decide +kernel
theorem dL_pay_8 : decode cL_pay 8 = .ok (.lastore, 1) := by decide +kernel
theorem dL_pay_9 : decode cL_pay 9 = .ok (.goto 9, 3) := by decide +kernel
theorem dL_pay_12 : decode cL_pay 12 = .ok (.astore_n 3, 1) := by decide +kernel
theorem dL_pay_13 : decode cL_pay 13 = .ok (.iconst 1, 1) := by decide +kernel
theorem dL_pay_14 : decode cL_pay 14 = .ok (.ireturn, 1) := by decide +kernel
theorem dL_pay_15 : decode cL_pay 15 = .ok (.astore_n 3, 1) := by decide +kernel
theorem dL_pay_16 : decode cL_pay 16 = .ok (.iconst 2, 1) := by decide +kernel
theorem dL_pay_17 : decode cL_pay 17 = .ok (.ireturn, 1) := by decide +kernel
theorem dL_pay_18 : decode cL_pay 18 = .ok (.iconst 0, 1) := by decide +kernel
theorem dL_pay_19 : decode cL_pay 19 = .ok (.ireturn, 1) := by decide +kernel
theorem dL_got_0 : decode cL_got 0 = .ok (.aload_n 3, 1) := by decide +kernel
theorem dL_got_1 : decode cL_got 1 = .ok (.iconst 0, 1) := by decide +kernel
theorem dL_got_2 : decode cL_got 2 = .ok (.aload_n 0, 1) := by decide +kernel
theorem dL_got_3 : decode cL_got 3 = .ok (.iload_n 1, 1) := by decide +kernel
theorem dL_got_4 : decode cL_got 4 = .ok (.iload_n 2, 1) := by decide +kernel
theorem dL_got_5 : decode cL_got 5 = .ok (.invokevirtual 75, 3) := by decide +kernel
theorem dL_got_8 : decode cL_got 8 = .ok (.i2l, 1) := by decide +kernel
theorem dL_got_9 : decode cL_got 9 = .ok (.lastore, 1) := by decide +kernel
theorem dL_got_10 : decode cL_got 10 = .ok (.goto 7, 3) := by decide +kernel
theorem dL_got_13 : decode cL_got 13 = .ok (.astore 4, 2) := by decide +kernel
theorem dL_got_15 : decode cL_got 15 = .ok (.iconst 1, 1) := by decide +kernel
theorem dL_got_16 : decode cL_got 16 = .ok (.ireturn, 1) := by decide +kernel
theorem dL_got_17 : decode cL_got 17 = .ok (.iconst 0, 1) := by decide +kernel
theorem dL_got_18 : decode cL_got 18 = .ok (.ireturn, 1) := by decide +kernel
theorem dL_counts_0 : decode cL_counts 0 = .ok (.aload_n 2, 1) := by decide +kernel
theorem dL_counts_1 : decode cL_counts 1 = .ok (.iconst 0, 1) := by decide +kernel
theorem dL_counts_2 : decode cL_counts 2 = .ok (.aload_n 0, 1) := by decide +kernel
theorem dL_counts_3 : decode cL_counts 3 = .ok (.iload_n 1, 1) := by decide +kernel
theorem dL_counts_4 : decode cL_counts 4 = .ok (.invokevirtual 78, 3) := by decide +kernel
theorem dL_counts_7 : decode cL_counts 7 = .ok (.i2l, 1) := by decide +kernel
theorem dL_counts_8 : decode cL_counts 8 = .ok (.lastore, 1) := by decide +kernel
theorem dL_counts_9 : decode cL_counts 9 = .ok (.goto 6, 3) := by decide +kernel
theorem dL_counts_12 : decode cL_counts 12 = .ok (.astore_n 3, 1) := by decide +kernel
theorem dL_counts_13 : decode cL_counts 13 = .ok (.iconst 1, 1) := by decide +kernel
theorem dL_counts_14 : decode cL_counts 14 = .ok (.ireturn, 1) := by decide +kernel
theorem dL_counts_15 : decode cL_counts 15 = .ok (.iconst 0, 1) := by decide +kernel
theorem dL_counts_16 : decode cL_counts 16 = .ok (.ireturn, 1) := by decide +kernel
theorem dL_ranked_0 : decode cL_ranked 0 = .ok (.aload_n 2, 1) := by decide +kernel
theorem dL_ranked_1 : decode cL_ranked 1 = .ok (.iconst 0, 1) := by decide +kernel
theorem dL_ranked_2 : decode cL_ranked 2 = .ok (.aload_n 0, 1) := by decide +kernel
theorem dL_ranked_3 : decode cL_ranked 3 = .ok (.iload_n 1, 1) := by decide +kernel
theorem dL_ranked_4 : decode cL_ranked 4 = .ok (.invokevirtual 81, 3) := by decide +kernel
theorem dL_ranked_7 : decode cL_ranked 7 = .ok (.i2l, 1) := by decide +kernel
theorem dL_ranked_8 : decode cL_ranked 8 = .ok (.lastore, 1) := by decide +kernel
theorem dL_ranked_9 : decode cL_ranked 9 = .ok (.goto 6, 3) := by decide +kernel
theorem dL_ranked_12 : decode cL_ranked 12 = .ok (.astore_n 3, 1) := by decide +kernel
theorem dL_ranked_13 : decode cL_ranked 13 = .ok (.iconst 1, 1) := by decide +kernel
theorem dL_ranked_14 : decode cL_ranked 14 = .ok (.ireturn, 1) := by decide +kernel
theorem dL_ranked_15 : decode cL_ranked 15 = .ok (.iconst 0, 1) := by decide +kernel
theorem dL_ranked_16 : decode cL_ranked 16 = .ok (.ireturn, 1) := by decide +kernel
theorem dL_law_0 : decode cL_law 0 = .ok (.new 8, 3) := by decide +kernel
theorem dL_law_3 : decode cL_law 3 = .ok (.dup, 1) := by decide +kernel
theorem dL_law_4 : decode cL_law 4 = .ok (.invokespecial 84, 3) := by decide +kernel
theorem dL_law_7 : decode cL_law 7 = .ok (.astore_n 1, 1) := by decide +kernel
theorem dL_law_8 : decode cL_law 8 = .ok (.new 85, 3) := by decide +kernel
theorem dL_law_11 : decode cL_law 11 = .ok (.dup, 1) := by decide +kernel
theorem dL_law_12 : decode cL_law 12 = .ok (.invokespecial 87, 3) := by decide +kernel
theorem dL_law_15 : decode cL_law 15 = .ok (.astore_n 2, 1) := by decide +kernel
theorem dL_law_16 : decode cL_law 16 = .ok (.iconst 1, 1) := by decide +kernel
theorem dL_law_17 : decode cL_law 17 = .ok (.newarray .long, 2) := by decide +kernel
theorem dL_law_19 : decode cL_law 19 = .ok (.astore_n 3, 1) := by decide +kernel
theorem dL_law_20 : decode cL_law 20 = .ok (.iconst 0, 1) := by decide +kernel
theorem dL_law_21 : decode cL_law 21 = .ok (.istore 4, 2) := by decide +kernel
theorem dL_law_23 : decode cL_law 23 = .ok (.iload 4, 2) := by decide +kernel
theorem dL_law_25 : decode cL_law 25 = .ok (.aload_n 0, 1) := by decide +kernel
theorem dL_law_26 : decode cL_law 26 = .ok (.arraylength, 1) := by decide +kernel
theorem dL_law_27 : decode cL_law 27 = .ok (.bipush 8, 2) := by decide +kernel
theorem dL_law_29 : decode cL_law 29 = .ok (.isub, 1) := by decide +kernel
theorem dL_law_30 : decode cL_law 30 = .ok (.if_icmp .gt 1524, 3) := by decide +kernel
theorem dL_law_33 : decode cL_law 33 = .ok (.aload_n 0, 1) := by decide +kernel
theorem dL_law_34 : decode cL_law 34 = .ok (.iload 4, 2) := by decide +kernel
theorem dL_law_36 : decode cL_law 36 = .ok (.iaload, 1) := by decide +kernel
theorem dL_law_37 : decode cL_law 37 = .ok (.bipush 31, 2) := by decide +kernel
theorem dL_law_39 : decode cL_law 39 = .ok (.iand, 1) := by decide +kernel
theorem dL_law_40 : decode cL_law 40 = .ok (.tableswitch 1508 0 20 #[100, 156, 200, 332, 400, 492, 548, 616, 672, 708, 764, 832, 952, 1027, 1123, 1191, 1259, 1315, 1383, 1439, 1495], 100) := by decide +kernel
theorem dL_law_140 : decode cL_law 140 = .ok (.aload_n 1, 1) := by decide +kernel
theorem dL_law_141 : decode cL_law 141 = .ok (.aload_n 0, 1) := by decide +kernel
theorem dL_law_142 : decode cL_law 142 = .ok (.iload 4, 2) := by decide +kernel
theorem dL_law_144 : decode cL_law 144 = .ok (.iconst 1, 1) := by decide +kernel
theorem dL_law_145 : decode cL_law 145 = .ok (.iadd, 1) := by decide +kernel
theorem dL_law_146 : decode cL_law 146 = .ok (.iaload, 1) := by decide +kernel
theorem dL_law_147 : decode cL_law 147 = .ok (.aload_n 3, 1) := by decide +kernel
theorem dL_law_148 : decode cL_law 148 = .ok (.invokestatic 88, 3) := by decide +kernel
theorem dL_law_151 : decode cL_law 151 = .ok (.istore 5, 2) := by decide +kernel
theorem dL_law_153 : decode cL_law 153 = .ok (.aload_n 2, 1) := by decide +kernel
theorem dL_law_154 : decode cL_law 154 = .ok (.aload_n 0, 1) := by decide +kernel
theorem dL_law_155 : decode cL_law 155 = .ok (.iload 4, 2) := by decide +kernel
theorem dL_law_157 : decode cL_law 157 = .ok (.iconst 1, 1) := by decide +kernel
theorem dL_law_158 : decode cL_law 158 = .ok (.iadd, 1) := by decide +kernel
theorem dL_law_159 : decode cL_law 159 = .ok (.iaload, 1) := by decide +kernel
theorem dL_law_160 : decode cL_law 160 = .ok (.invokevirtual 93, 3) := by decide +kernel
theorem dL_law_163 : decode cL_law 163 = .ok (.istore 6, 2) := by decide +kernel
theorem dL_law_165 : decode cL_law 165 = .ok (.aload_n 2, 1) := by decide +kernel
theorem dL_law_166 : decode cL_law 166 = .ok (.invokevirtual 94, 3) := by decide +kernel
theorem dL_law_169 : decode cL_law 169 = .ok (.iload 5, 2) := by decide +kernel
theorem dL_law_171 : decode cL_law 171 = .ok (.if_icmp .eq 5, 3) := by decide +kernel
theorem dL_law_174 : decode cL_law 174 = .ok (.iconst 0, 1) := by decide +kernel
theorem dL_law_175 : decode cL_law 175 = .ok (.ireturn, 1) := by decide +kernel
theorem dL_law_176 : decode cL_law 176 = .ok (.iload 5, 2) := by decide +kernel
theorem dL_law_178 : decode cL_law 178 = .ok (.ifCond .ne 15, 3) := by decide +kernel
theorem dL_law_181 : decode cL_law 181 = .ok (.aload_n 3, 1) := by decide +kernel
theorem dL_law_182 : decode cL_law 182 = .ok (.iconst 0, 1) := by decide +kernel
theorem dL_law_183 : decode cL_law 183 = .ok (.laload, 1) := by decide +kernel
theorem dL_law_184 : decode cL_law 184 = .ok (.iload 6, 2) := by decide +kernel
theorem dL_law_186 : decode cL_law 186 = .ok (.i2l, 1) := by decide +kernel
theorem dL_law_187 : decode cL_law 187 = .ok (.lcmp, 1) := by decide +kernel
theorem dL_law_188 : decode cL_law 188 = .ok (.ifCond .eq 5, 3) := by decide +kernel
theorem dL_law_191 : decode cL_law 191 = .ok (.iconst 0, 1) := by decide +kernel
theorem dL_law_192 : decode cL_law 192 = .ok (.ireturn, 1) := by decide +kernel
theorem dL_law_193 : decode cL_law 193 = .ok (.goto 1355, 3) := by decide +kernel
theorem dL_law_196 : decode cL_law 196 = .ok (.aload_n 1, 1) := by decide +kernel
theorem dL_law_197 : decode cL_law 197 = .ok (.aload_n 3, 1) := by decide +kernel
theorem dL_law_198 : decode cL_law 198 = .ok (.invokestatic 97, 3) := by decide +kernel
theorem dL_law_201 : decode cL_law 201 = .ok (.istore 5, 2) := by decide +kernel
theorem dL_law_203 : decode cL_law 203 = .ok (.aload_n 2, 1) := by decide +kernel
theorem dL_law_204 : decode cL_law 204 = .ok (.invokevirtual 100, 3) := by decide +kernel
theorem dL_law_207 : decode cL_law 207 = .ok (.istore 6, 2) := by decide +kernel
theorem dL_law_209 : decode cL_law 209 = .ok (.aload_n 2, 1) := by decide +kernel
theorem dL_law_210 : decode cL_law 210 = .ok (.invokevirtual 94, 3) := by decide +kernel
theorem dL_law_213 : decode cL_law 213 = .ok (.iload 5, 2) := by decide +kernel
theorem dL_law_215 : decode cL_law 215 = .ok (.if_icmp .eq 5, 3) := by decide +kernel
theorem dL_law_218 : decode cL_law 218 = .ok (.iconst 0, 1) := by decide +kernel
theorem dL_law_219 : decode cL_law 219 = .ok (.ireturn, 1) := by decide +kernel
theorem dL_law_220 : decode cL_law 220 = .ok (.iload 5, 2) := by decide +kernel
theorem dL_law_222 : decode cL_law 222 = .ok (.ifCond .ne 15, 3) := by decide +kernel
theorem dL_law_225 : decode cL_law 225 = .ok (.aload_n 3, 1) := by decide +kernel
theorem dL_law_226 : decode cL_law 226 = .ok (.iconst 0, 1) := by decide +kernel
theorem dL_law_227 : decode cL_law 227 = .ok (.laload, 1) := by decide +kernel
theorem dL_law_228 : decode cL_law 228 = .ok (.iload 6, 2) := by decide +kernel
theorem dL_law_230 : decode cL_law 230 = .ok (.i2l, 1) := by decide +kernel
theorem dL_law_231 : decode cL_law 231 = .ok (.lcmp, 1) := by decide +kernel
theorem dL_law_232 : decode cL_law 232 = .ok (.ifCond .eq 5, 3) := by decide +kernel
theorem dL_law_235 : decode cL_law 235 = .ok (.iconst 0, 1) := by decide +kernel
theorem dL_law_236 : decode cL_law 236 = .ok (.ireturn, 1) := by decide +kernel
theorem dL_law_237 : decode cL_law 237 = .ok (.goto 1311, 3) := by decide +kernel
theorem dL_law_240 : decode cL_law 240 = .ok (.aload_n 1, 1) := by decide +kernel
theorem dL_law_241 : decode cL_law 241 = .ok (.aload_n 0, 1) := by decide +kernel
theorem dL_law_242 : decode cL_law 242 = .ok (.iload 4, 2) := by decide +kernel
theorem dL_law_244 : decode cL_law 244 = .ok (.iconst 1, 1) := by decide +kernel
theorem dL_law_245 : decode cL_law 245 = .ok (.iadd, 1) := by decide +kernel
theorem dL_law_246 : decode cL_law 246 = .ok (.iaload, 1) := by decide +kernel
theorem dL_law_247 : decode cL_law 247 = .ok (.aload_n 0, 1) := by decide +kernel
theorem dL_law_248 : decode cL_law 248 = .ok (.iload 4, 2) := by decide +kernel
theorem dL_law_250 : decode cL_law 250 = .ok (.iconst 2, 1) := by decide +kernel
theorem dL_law_251 : decode cL_law 251 = .ok (.iadd, 1) := by decide +kernel
theorem dL_law_252 : decode cL_law 252 = .ok (.iaload, 1) := by decide +kernel
theorem dL_law_253 : decode cL_law 253 = .ok (.aload_n 0, 1) := by decide +kernel
theorem dL_law_254 : decode cL_law 254 = .ok (.iload 4, 2) := by decide +kernel
theorem dL_law_256 : decode cL_law 256 = .ok (.iconst 3, 1) := by decide +kernel
theorem dL_law_257 : decode cL_law 257 = .ok (.iadd, 1) := by decide +kernel
theorem dL_law_258 : decode cL_law 258 = .ok (.iaload, 1) := by decide +kernel
theorem dL_law_259 : decode cL_law 259 = .ok (.aload_n 0, 1) := by decide +kernel
theorem dL_law_260 : decode cL_law 260 = .ok (.iload 4, 2) := by decide +kernel
theorem dL_law_262 : decode cL_law 262 = .ok (.iconst 4, 1) := by decide +kernel
theorem dL_law_263 : decode cL_law 263 = .ok (.iadd, 1) := by decide +kernel
theorem dL_law_264 : decode cL_law 264 = .ok (.iaload, 1) := by decide +kernel
theorem dL_law_265 : decode cL_law 265 = .ok (.aload_n 0, 1) := by decide +kernel
theorem dL_law_266 : decode cL_law 266 = .ok (.iload 4, 2) := by decide +kernel
theorem dL_law_268 : decode cL_law 268 = .ok (.iconst 5, 1) := by decide +kernel
theorem dL_law_269 : decode cL_law 269 = .ok (.iadd, 1) := by decide +kernel
theorem dL_law_270 : decode cL_law 270 = .ok (.iaload, 1) := by decide +kernel
theorem dL_law_271 : decode cL_law 271 = .ok (.aload_n 0, 1) := by decide +kernel
theorem dL_law_272 : decode cL_law 272 = .ok (.iload 4, 2) := by decide +kernel
theorem dL_law_274 : decode cL_law 274 = .ok (.bipush 6, 2) := by decide +kernel
theorem dL_law_276 : decode cL_law 276 = .ok (.iadd, 1) := by decide +kernel
theorem dL_law_277 : decode cL_law 277 = .ok (.iaload, 1) := by decide +kernel
theorem dL_law_278 : decode cL_law 278 = .ok (.aload_n 0, 1) := by decide +kernel
theorem dL_law_279 : decode cL_law 279 = .ok (.iload 4, 2) := by decide +kernel
theorem dL_law_281 : decode cL_law 281 = .ok (.bipush 7, 2) := by decide +kernel
theorem dL_law_283 : decode cL_law 283 = .ok (.iadd, 1) := by decide +kernel
theorem dL_law_284 : decode cL_law 284 = .ok (.iaload, 1) := by decide +kernel
theorem dL_law_285 : decode cL_law 285 = .ok (.aload_n 3, 1) := by decide +kernel
theorem dL_law_286 : decode cL_law 286 = .ok (.invokestatic 101, 3) := by decide +kernel
theorem dL_law_289 : decode cL_law 289 = .ok (.istore 5, 2) := by decide +kernel
theorem dL_law_291 : decode cL_law 291 = .ok (.aload_n 2, 1) := by decide +kernel
theorem dL_law_292 : decode cL_law 292 = .ok (.aload_n 0, 1) := by decide +kernel
theorem dL_law_293 : decode cL_law 293 = .ok (.iload 4, 2) := by decide +kernel
theorem dL_law_295 : decode cL_law 295 = .ok (.iconst 1, 1) := by decide +kernel
theorem dL_law_296 : decode cL_law 296 = .ok (.iadd, 1) := by decide +kernel
theorem dL_law_297 : decode cL_law 297 = .ok (.iaload, 1) := by decide +kernel
theorem dL_law_298 : decode cL_law 298 = .ok (.aload_n 0, 1) := by decide +kernel
theorem dL_law_299 : decode cL_law 299 = .ok (.iload 4, 2) := by decide +kernel
theorem dL_law_301 : decode cL_law 301 = .ok (.iconst 2, 1) := by decide +kernel
theorem dL_law_302 : decode cL_law 302 = .ok (.iadd, 1) := by decide +kernel
theorem dL_law_303 : decode cL_law 303 = .ok (.iaload, 1) := by decide +kernel
theorem dL_law_304 : decode cL_law 304 = .ok (.aload_n 0, 1) := by decide +kernel
theorem dL_law_305 : decode cL_law 305 = .ok (.iload 4, 2) := by decide +kernel
theorem dL_law_307 : decode cL_law 307 = .ok (.iconst 3, 1) := by decide +kernel
theorem dL_law_308 : decode cL_law 308 = .ok (.iadd, 1) := by decide +kernel
theorem dL_law_309 : decode cL_law 309 = .ok (.iaload, 1) := by decide +kernel
theorem dL_law_310 : decode cL_law 310 = .ok (.aload_n 0, 1) := by decide +kernel
theorem dL_law_311 : decode cL_law 311 = .ok (.iload 4, 2) := by decide +kernel
theorem dL_law_313 : decode cL_law 313 = .ok (.iconst 4, 1) := by decide +kernel
theorem dL_law_314 : decode cL_law 314 = .ok (.iadd, 1) := by decide +kernel
theorem dL_law_315 : decode cL_law 315 = .ok (.iaload, 1) := by decide +kernel
theorem dL_law_316 : decode cL_law 316 = .ok (.aload_n 0, 1) := by decide +kernel
theorem dL_law_317 : decode cL_law 317 = .ok (.iload 4, 2) := by decide +kernel
theorem dL_law_319 : decode cL_law 319 = .ok (.iconst 5, 1) := by decide +kernel
theorem dL_law_320 : decode cL_law 320 = .ok (.iadd, 1) := by decide +kernel
theorem dL_law_321 : decode cL_law 321 = .ok (.iaload, 1) := by decide +kernel
theorem dL_law_322 : decode cL_law 322 = .ok (.aload_n 0, 1) := by decide +kernel
theorem dL_law_323 : decode cL_law 323 = .ok (.iload 4, 2) := by decide +kernel
theorem dL_law_325 : decode cL_law 325 = .ok (.bipush 6, 2) := by decide +kernel
theorem dL_law_327 : decode cL_law 327 = .ok (.iadd, 1) := by decide +kernel
theorem dL_law_328 : decode cL_law 328 = .ok (.iaload, 1) := by decide +kernel
theorem dL_law_329 : decode cL_law 329 = .ok (.aload_n 0, 1) := by decide +kernel
theorem dL_law_330 : decode cL_law 330 = .ok (.iload 4, 2) := by decide +kernel
theorem dL_law_332 : decode cL_law 332 = .ok (.bipush 7, 2) := by decide +kernel
theorem dL_law_334 : decode cL_law 334 = .ok (.iadd, 1) := by decide +kernel
theorem dL_law_335 : decode cL_law 335 = .ok (.iaload, 1) := by decide +kernel
theorem dL_law_336 : decode cL_law 336 = .ok (.invokevirtual 104, 3) := by decide +kernel
theorem dL_law_339 : decode cL_law 339 = .ok (.istore 6, 2) := by decide +kernel
theorem dL_law_341 : decode cL_law 341 = .ok (.aload_n 2, 1) := by decide +kernel
theorem dL_law_342 : decode cL_law 342 = .ok (.invokevirtual 94, 3) := by decide +kernel
theorem dL_law_345 : decode cL_law 345 = .ok (.iload 5, 2) := by decide +kernel
theorem dL_law_347 : decode cL_law 347 = .ok (.if_icmp .eq 5, 3) := by decide +kernel
theorem dL_law_350 : decode cL_law 350 = .ok (.iconst 0, 1) := by decide +kernel
theorem dL_law_351 : decode cL_law 351 = .ok (.ireturn, 1) := by decide +kernel
theorem dL_law_352 : decode cL_law 352 = .ok (.iload 5, 2) := by decide +kernel
theorem dL_law_354 : decode cL_law 354 = .ok (.ifCond .ne 15, 3) := by decide +kernel
theorem dL_law_357 : decode cL_law 357 = .ok (.aload_n 3, 1) := by decide +kernel
theorem dL_law_358 : decode cL_law 358 = .ok (.iconst 0, 1) := by decide +kernel
theorem dL_law_359 : decode cL_law 359 = .ok (.laload, 1) := by decide +kernel
theorem dL_law_360 : decode cL_law 360 = .ok (.iload 6, 2) := by decide +kernel
theorem dL_law_362 : decode cL_law 362 = .ok (.i2l, 1) := by decide +kernel
theorem dL_law_363 : decode cL_law 363 = .ok (.lcmp, 1) := by decide +kernel
theorem dL_law_364 : decode cL_law 364 = .ok (.ifCond .eq 5, 3) := by decide +kernel
theorem dL_law_367 : decode cL_law 367 = .ok (.iconst 0, 1) := by decide +kernel
theorem dL_law_368 : decode cL_law 368 = .ok (.ireturn, 1) := by decide +kernel
theorem dL_law_369 : decode cL_law 369 = .ok (.goto 1179, 3) := by decide +kernel
theorem dL_law_372 : decode cL_law 372 = .ok (.aload_n 1, 1) := by decide +kernel
theorem dL_law_373 : decode cL_law 373 = .ok (.aload_n 0, 1) := by decide +kernel
theorem dL_law_374 : decode cL_law 374 = .ok (.iload 4, 2) := by decide +kernel
theorem dL_law_376 : decode cL_law 376 = .ok (.iconst 1, 1) := by decide +kernel
theorem dL_law_377 : decode cL_law 377 = .ok (.iadd, 1) := by decide +kernel
theorem dL_law_378 : decode cL_law 378 = .ok (.iaload, 1) := by decide +kernel
theorem dL_law_379 : decode cL_law 379 = .ok (.aload_n 0, 1) := by decide +kernel
theorem dL_law_380 : decode cL_law 380 = .ok (.iload 4, 2) := by decide +kernel
theorem dL_law_382 : decode cL_law 382 = .ok (.iconst 2, 1) := by decide +kernel
theorem dL_law_383 : decode cL_law 383 = .ok (.iadd, 1) := by decide +kernel
theorem dL_law_384 : decode cL_law 384 = .ok (.iaload, 1) := by decide +kernel
theorem dL_law_385 : decode cL_law 385 = .ok (.aload_n 3, 1) := by decide +kernel
theorem dL_law_386 : decode cL_law 386 = .ok (.invokestatic 105, 3) := by decide +kernel
theorem dL_law_389 : decode cL_law 389 = .ok (.istore 5, 2) := by decide +kernel
theorem dL_law_391 : decode cL_law 391 = .ok (.aload_n 2, 1) := by decide +kernel
theorem dL_law_392 : decode cL_law 392 = .ok (.aload_n 0, 1) := by decide +kernel
theorem dL_law_393 : decode cL_law 393 = .ok (.iload 4, 2) := by decide +kernel
theorem dL_law_395 : decode cL_law 395 = .ok (.iconst 1, 1) := by decide +kernel
theorem dL_law_396 : decode cL_law 396 = .ok (.iadd, 1) := by decide +kernel
theorem dL_law_397 : decode cL_law 397 = .ok (.iaload, 1) := by decide +kernel
theorem dL_law_398 : decode cL_law 398 = .ok (.aload_n 0, 1) := by decide +kernel
theorem dL_law_399 : decode cL_law 399 = .ok (.iload 4, 2) := by decide +kernel
theorem dL_law_401 : decode cL_law 401 = .ok (.iconst 2, 1) := by decide +kernel
theorem dL_law_402 : decode cL_law 402 = .ok (.iadd, 1) := by decide +kernel
theorem dL_law_403 : decode cL_law 403 = .ok (.iaload, 1) := by decide +kernel
theorem dL_law_404 : decode cL_law 404 = .ok (.invokevirtual 108, 3) := by decide +kernel
theorem dL_law_407 : decode cL_law 407 = .ok (.istore 6, 2) := by decide +kernel
theorem dL_law_409 : decode cL_law 409 = .ok (.aload_n 2, 1) := by decide +kernel
theorem dL_law_410 : decode cL_law 410 = .ok (.invokevirtual 94, 3) := by decide +kernel
theorem dL_law_413 : decode cL_law 413 = .ok (.iload 5, 2) := by decide +kernel
theorem dL_law_415 : decode cL_law 415 = .ok (.if_icmp .eq 5, 3) := by decide +kernel
theorem dL_law_418 : decode cL_law 418 = .ok (.iconst 0, 1) := by decide +kernel
theorem dL_law_419 : decode cL_law 419 = .ok (.ireturn, 1) := by decide +kernel
theorem dL_law_420 : decode cL_law 420 = .ok (.iload 5, 2) := by decide +kernel
theorem dL_law_422 : decode cL_law 422 = .ok (.ifCond .ne 15, 3) := by decide +kernel
theorem dL_law_425 : decode cL_law 425 = .ok (.aload_n 3, 1) := by decide +kernel
theorem dL_law_426 : decode cL_law 426 = .ok (.iconst 0, 1) := by decide +kernel
theorem dL_law_427 : decode cL_law 427 = .ok (.laload, 1) := by decide +kernel
theorem dL_law_428 : decode cL_law 428 = .ok (.iload 6, 2) := by decide +kernel
theorem dL_law_430 : decode cL_law 430 = .ok (.i2l, 1) := by decide +kernel
theorem dL_law_431 : decode cL_law 431 = .ok (.lcmp, 1) := by decide +kernel
theorem dL_law_432 : decode cL_law 432 = .ok (.ifCond .eq 5, 3) := by decide +kernel
theorem dL_law_435 : decode cL_law 435 = .ok (.iconst 0, 1) := by decide +kernel
theorem dL_law_436 : decode cL_law 436 = .ok (.ireturn, 1) := by decide +kernel
theorem dL_law_437 : decode cL_law 437 = .ok (.goto 1111, 3) := by decide +kernel
theorem dL_law_440 : decode cL_law 440 = .ok (.aload_n 1, 1) := by decide +kernel
theorem dL_law_441 : decode cL_law 441 = .ok (.aload_n 0, 1) := by decide +kernel
theorem dL_law_442 : decode cL_law 442 = .ok (.iload 4, 2) := by decide +kernel
theorem dL_law_444 : decode cL_law 444 = .ok (.iconst 1, 1) := by decide +kernel
theorem dL_law_445 : decode cL_law 445 = .ok (.iadd, 1) := by decide +kernel
theorem dL_law_446 : decode cL_law 446 = .ok (.iaload, 1) := by decide +kernel
theorem dL_law_447 : decode cL_law 447 = .ok (.aload_n 0, 1) := by decide +kernel
theorem dL_law_448 : decode cL_law 448 = .ok (.iload 4, 2) := by decide +kernel
theorem dL_law_450 : decode cL_law 450 = .ok (.iconst 2, 1) := by decide +kernel
theorem dL_law_451 : decode cL_law 451 = .ok (.iadd, 1) := by decide +kernel
theorem dL_law_452 : decode cL_law 452 = .ok (.iaload, 1) := by decide +kernel
theorem dL_law_453 : decode cL_law 453 = .ok (.aload_n 0, 1) := by decide +kernel
theorem dL_law_454 : decode cL_law 454 = .ok (.iload 4, 2) := by decide +kernel
theorem dL_law_456 : decode cL_law 456 = .ok (.iconst 3, 1) := by decide +kernel
theorem dL_law_457 : decode cL_law 457 = .ok (.iadd, 1) := by decide +kernel
theorem dL_law_458 : decode cL_law 458 = .ok (.iaload, 1) := by decide +kernel
theorem dL_law_459 : decode cL_law 459 = .ok (.aload_n 0, 1) := by decide +kernel
theorem dL_law_460 : decode cL_law 460 = .ok (.iload 4, 2) := by decide +kernel
theorem dL_law_462 : decode cL_law 462 = .ok (.iconst 4, 1) := by decide +kernel
theorem dL_law_463 : decode cL_law 463 = .ok (.iadd, 1) := by decide +kernel
theorem dL_law_464 : decode cL_law 464 = .ok (.iaload, 1) := by decide +kernel
theorem dL_law_465 : decode cL_law 465 = .ok (.aload_n 3, 1) := by decide +kernel
theorem dL_law_466 : decode cL_law 466 = .ok (.invokestatic 109, 3) := by decide +kernel
theorem dL_law_469 : decode cL_law 469 = .ok (.istore 5, 2) := by decide +kernel
theorem dL_law_471 : decode cL_law 471 = .ok (.aload_n 2, 1) := by decide +kernel
theorem dL_law_472 : decode cL_law 472 = .ok (.aload_n 0, 1) := by decide +kernel
theorem dL_law_473 : decode cL_law 473 = .ok (.iload 4, 2) := by decide +kernel
theorem dL_law_475 : decode cL_law 475 = .ok (.iconst 1, 1) := by decide +kernel
theorem dL_law_476 : decode cL_law 476 = .ok (.iadd, 1) := by decide +kernel
theorem dL_law_477 : decode cL_law 477 = .ok (.iaload, 1) := by decide +kernel
theorem dL_law_478 : decode cL_law 478 = .ok (.aload_n 0, 1) := by decide +kernel
theorem dL_law_479 : decode cL_law 479 = .ok (.iload 4, 2) := by decide +kernel
theorem dL_law_481 : decode cL_law 481 = .ok (.iconst 2, 1) := by decide +kernel
theorem dL_law_482 : decode cL_law 482 = .ok (.iadd, 1) := by decide +kernel
theorem dL_law_483 : decode cL_law 483 = .ok (.iaload, 1) := by decide +kernel
theorem dL_law_484 : decode cL_law 484 = .ok (.aload_n 0, 1) := by decide +kernel
theorem dL_law_485 : decode cL_law 485 = .ok (.iload 4, 2) := by decide +kernel
theorem dL_law_487 : decode cL_law 487 = .ok (.iconst 3, 1) := by decide +kernel
theorem dL_law_488 : decode cL_law 488 = .ok (.iadd, 1) := by decide +kernel
theorem dL_law_489 : decode cL_law 489 = .ok (.iaload, 1) := by decide +kernel
theorem dL_law_490 : decode cL_law 490 = .ok (.aload_n 0, 1) := by decide +kernel
theorem dL_law_491 : decode cL_law 491 = .ok (.iload 4, 2) := by decide +kernel
theorem dL_law_493 : decode cL_law 493 = .ok (.iconst 4, 1) := by decide +kernel
theorem dL_law_494 : decode cL_law 494 = .ok (.iadd, 1) := by decide +kernel
theorem dL_law_495 : decode cL_law 495 = .ok (.iaload, 1) := by decide +kernel
theorem dL_law_496 : decode cL_law 496 = .ok (.invokevirtual 112, 3) := by decide +kernel
theorem dL_law_499 : decode cL_law 499 = .ok (.istore 6, 2) := by decide +kernel
theorem dL_law_501 : decode cL_law 501 = .ok (.aload_n 2, 1) := by decide +kernel
theorem dL_law_502 : decode cL_law 502 = .ok (.invokevirtual 94, 3) := by decide +kernel
theorem dL_law_505 : decode cL_law 505 = .ok (.iload 5, 2) := by decide +kernel
theorem dL_law_507 : decode cL_law 507 = .ok (.if_icmp .eq 5, 3) := by decide +kernel
theorem dL_law_510 : decode cL_law 510 = .ok (.iconst 0, 1) := by decide +kernel
theorem dL_law_511 : decode cL_law 511 = .ok (.ireturn, 1) := by decide +kernel
theorem dL_law_512 : decode cL_law 512 = .ok (.iload 5, 2) := by decide +kernel
theorem dL_law_514 : decode cL_law 514 = .ok (.ifCond .ne 15, 3) := by decide +kernel
theorem dL_law_517 : decode cL_law 517 = .ok (.aload_n 3, 1) := by decide +kernel
theorem dL_law_518 : decode cL_law 518 = .ok (.iconst 0, 1) := by decide +kernel
theorem dL_law_519 : decode cL_law 519 = .ok (.laload, 1) := by decide +kernel
theorem dL_law_520 : decode cL_law 520 = .ok (.iload 6, 2) := by decide +kernel
theorem dL_law_522 : decode cL_law 522 = .ok (.i2l, 1) := by decide +kernel
theorem dL_law_523 : decode cL_law 523 = .ok (.lcmp, 1) := by decide +kernel
theorem dL_law_524 : decode cL_law 524 = .ok (.ifCond .eq 5, 3) := by decide +kernel
theorem dL_law_527 : decode cL_law 527 = .ok (.iconst 0, 1) := by decide +kernel
theorem dL_law_528 : decode cL_law 528 = .ok (.ireturn, 1) := by decide +kernel
theorem dL_law_529 : decode cL_law 529 = .ok (.goto 1019, 3) := by decide +kernel
theorem dL_law_532 : decode cL_law 532 = .ok (.aload_n 1, 1) := by decide +kernel
theorem dL_law_533 : decode cL_law 533 = .ok (.aload_n 0, 1) := by decide +kernel
theorem dL_law_534 : decode cL_law 534 = .ok (.iload 4, 2) := by decide +kernel
theorem dL_law_536 : decode cL_law 536 = .ok (.iconst 1, 1) := by decide +kernel
theorem dL_law_537 : decode cL_law 537 = .ok (.iadd, 1) := by decide +kernel
theorem dL_law_538 : decode cL_law 538 = .ok (.iaload, 1) := by decide +kernel
theorem dL_law_539 : decode cL_law 539 = .ok (.aload_n 3, 1) := by decide +kernel
theorem dL_law_540 : decode cL_law 540 = .ok (.invokestatic 113, 3) := by decide +kernel
theorem dL_law_543 : decode cL_law 543 = .ok (.istore 5, 2) := by decide +kernel
theorem dL_law_545 : decode cL_law 545 = .ok (.aload_n 2, 1) := by decide +kernel
theorem dL_law_546 : decode cL_law 546 = .ok (.aload_n 0, 1) := by decide +kernel
theorem dL_law_547 : decode cL_law 547 = .ok (.iload 4, 2) := by decide +kernel
theorem dL_law_549 : decode cL_law 549 = .ok (.iconst 1, 1) := by decide +kernel
theorem dL_law_550 : decode cL_law 550 = .ok (.iadd, 1) := by decide +kernel
theorem dL_law_551 : decode cL_law 551 = .ok (.iaload, 1) := by decide +kernel
theorem dL_law_552 : decode cL_law 552 = .ok (.invokevirtual 115, 3) := by decide +kernel
theorem dL_law_555 : decode cL_law 555 = .ok (.istore 6, 2) := by decide +kernel
theorem dL_law_557 : decode cL_law 557 = .ok (.aload_n 2, 1) := by decide +kernel
theorem dL_law_558 : decode cL_law 558 = .ok (.invokevirtual 94, 3) := by decide +kernel
theorem dL_law_561 : decode cL_law 561 = .ok (.iload 5, 2) := by decide +kernel
theorem dL_law_563 : decode cL_law 563 = .ok (.if_icmp .eq 5, 3) := by decide +kernel
theorem dL_law_566 : decode cL_law 566 = .ok (.iconst 0, 1) := by decide +kernel
theorem dL_law_567 : decode cL_law 567 = .ok (.ireturn, 1) := by decide +kernel
theorem dL_law_568 : decode cL_law 568 = .ok (.iload 5, 2) := by decide +kernel
theorem dL_law_570 : decode cL_law 570 = .ok (.ifCond .ne 15, 3) := by decide +kernel
theorem dL_law_573 : decode cL_law 573 = .ok (.aload_n 3, 1) := by decide +kernel
theorem dL_law_574 : decode cL_law 574 = .ok (.iconst 0, 1) := by decide +kernel
theorem dL_law_575 : decode cL_law 575 = .ok (.laload, 1) := by decide +kernel
theorem dL_law_576 : decode cL_law 576 = .ok (.iload 6, 2) := by decide +kernel
theorem dL_law_578 : decode cL_law 578 = .ok (.i2l, 1) := by decide +kernel
theorem dL_law_579 : decode cL_law 579 = .ok (.lcmp, 1) := by decide +kernel
theorem dL_law_580 : decode cL_law 580 = .ok (.ifCond .eq 5, 3) := by decide +kernel
theorem dL_law_583 : decode cL_law 583 = .ok (.iconst 0, 1) := by decide +kernel
theorem dL_law_584 : decode cL_law 584 = .ok (.ireturn, 1) := by decide +kernel
theorem dL_law_585 : decode cL_law 585 = .ok (.goto 963, 3) := by decide +kernel
theorem dL_law_588 : decode cL_law 588 = .ok (.aload_n 1, 1) := by decide +kernel
theorem dL_law_589 : decode cL_law 589 = .ok (.aload_n 0, 1) := by decide +kernel
theorem dL_law_590 : decode cL_law 590 = .ok (.iload 4, 2) := by decide +kernel
theorem dL_law_592 : decode cL_law 592 = .ok (.iconst 1, 1) := by decide +kernel
theorem dL_law_593 : decode cL_law 593 = .ok (.iadd, 1) := by decide +kernel
theorem dL_law_594 : decode cL_law 594 = .ok (.iaload, 1) := by decide +kernel
theorem dL_law_595 : decode cL_law 595 = .ok (.aload_n 0, 1) := by decide +kernel
theorem dL_law_596 : decode cL_law 596 = .ok (.iload 4, 2) := by decide +kernel
theorem dL_law_598 : decode cL_law 598 = .ok (.iconst 2, 1) := by decide +kernel
theorem dL_law_599 : decode cL_law 599 = .ok (.iadd, 1) := by decide +kernel
theorem dL_law_600 : decode cL_law 600 = .ok (.iaload, 1) := by decide +kernel
theorem dL_law_601 : decode cL_law 601 = .ok (.aload_n 3, 1) := by decide +kernel
theorem dL_law_602 : decode cL_law 602 = .ok (.invokestatic 116, 3) := by decide +kernel
theorem dL_law_605 : decode cL_law 605 = .ok (.istore 5, 2) := by decide +kernel
theorem dL_law_607 : decode cL_law 607 = .ok (.aload_n 2, 1) := by decide +kernel
theorem dL_law_608 : decode cL_law 608 = .ok (.aload_n 0, 1) := by decide +kernel
theorem dL_law_609 : decode cL_law 609 = .ok (.iload 4, 2) := by decide +kernel
theorem dL_law_611 : decode cL_law 611 = .ok (.iconst 1, 1) := by decide +kernel
theorem dL_law_612 : decode cL_law 612 = .ok (.iadd, 1) := by decide +kernel
theorem dL_law_613 : decode cL_law 613 = .ok (.iaload, 1) := by decide +kernel
theorem dL_law_614 : decode cL_law 614 = .ok (.aload_n 0, 1) := by decide +kernel
theorem dL_law_615 : decode cL_law 615 = .ok (.iload 4, 2) := by decide +kernel
theorem dL_law_617 : decode cL_law 617 = .ok (.iconst 2, 1) := by decide +kernel
theorem dL_law_618 : decode cL_law 618 = .ok (.iadd, 1) := by decide +kernel
theorem dL_law_619 : decode cL_law 619 = .ok (.iaload, 1) := by decide +kernel
theorem dL_law_620 : decode cL_law 620 = .ok (.invokevirtual 118, 3) := by decide +kernel
theorem dL_law_623 : decode cL_law 623 = .ok (.istore 6, 2) := by decide +kernel
theorem dL_law_625 : decode cL_law 625 = .ok (.aload_n 2, 1) := by decide +kernel
theorem dL_law_626 : decode cL_law 626 = .ok (.invokevirtual 94, 3) := by decide +kernel
theorem dL_law_629 : decode cL_law 629 = .ok (.iload 5, 2) := by decide +kernel
theorem dL_law_631 : decode cL_law 631 = .ok (.if_icmp .eq 5, 3) := by decide +kernel
theorem dL_law_634 : decode cL_law 634 = .ok (.iconst 0, 1) := by decide +kernel
theorem dL_law_635 : decode cL_law 635 = .ok (.ireturn, 1) := by decide +kernel
theorem dL_law_636 : decode cL_law 636 = .ok (.iload 5, 2) := by decide +kernel
theorem dL_law_638 : decode cL_law 638 = .ok (.ifCond .ne 15, 3) := by decide +kernel
theorem dL_law_641 : decode cL_law 641 = .ok (.aload_n 3, 1) := by decide +kernel
theorem dL_law_642 : decode cL_law 642 = .ok (.iconst 0, 1) := by decide +kernel
theorem dL_law_643 : decode cL_law 643 = .ok (.laload, 1) := by decide +kernel
theorem dL_law_644 : decode cL_law 644 = .ok (.iload 6, 2) := by decide +kernel
theorem dL_law_646 : decode cL_law 646 = .ok (.i2l, 1) := by decide +kernel
theorem dL_law_647 : decode cL_law 647 = .ok (.lcmp, 1) := by decide +kernel
theorem dL_law_648 : decode cL_law 648 = .ok (.ifCond .eq 5, 3) := by decide +kernel
theorem dL_law_651 : decode cL_law 651 = .ok (.iconst 0, 1) := by decide +kernel
theorem dL_law_652 : decode cL_law 652 = .ok (.ireturn, 1) := by decide +kernel
theorem dL_law_653 : decode cL_law 653 = .ok (.goto 895, 3) := by decide +kernel
theorem dL_law_656 : decode cL_law 656 = .ok (.aload_n 1, 1) := by decide +kernel
theorem dL_law_657 : decode cL_law 657 = .ok (.aload_n 0, 1) := by decide +kernel
theorem dL_law_658 : decode cL_law 658 = .ok (.iload 4, 2) := by decide +kernel
theorem dL_law_660 : decode cL_law 660 = .ok (.iconst 1, 1) := by decide +kernel
theorem dL_law_661 : decode cL_law 661 = .ok (.iadd, 1) := by decide +kernel
theorem dL_law_662 : decode cL_law 662 = .ok (.iaload, 1) := by decide +kernel
theorem dL_law_663 : decode cL_law 663 = .ok (.aload_n 3, 1) := by decide +kernel
theorem dL_law_664 : decode cL_law 664 = .ok (.invokestatic 119, 3) := by decide +kernel
theorem dL_law_667 : decode cL_law 667 = .ok (.istore 5, 2) := by decide +kernel
theorem dL_law_669 : decode cL_law 669 = .ok (.aload_n 2, 1) := by decide +kernel
theorem dL_law_670 : decode cL_law 670 = .ok (.aload_n 0, 1) := by decide +kernel
theorem dL_law_671 : decode cL_law 671 = .ok (.iload 4, 2) := by decide +kernel
theorem dL_law_673 : decode cL_law 673 = .ok (.iconst 1, 1) := by decide +kernel
theorem dL_law_674 : decode cL_law 674 = .ok (.iadd, 1) := by decide +kernel
theorem dL_law_675 : decode cL_law 675 = .ok (.iaload, 1) := by decide +kernel
theorem dL_law_676 : decode cL_law 676 = .ok (.invokevirtual 121, 3) := by decide +kernel
theorem dL_law_679 : decode cL_law 679 = .ok (.istore 6, 2) := by decide +kernel
theorem dL_law_681 : decode cL_law 681 = .ok (.aload_n 2, 1) := by decide +kernel
theorem dL_law_682 : decode cL_law 682 = .ok (.invokevirtual 94, 3) := by decide +kernel
theorem dL_law_685 : decode cL_law 685 = .ok (.iload 5, 2) := by decide +kernel
theorem dL_law_687 : decode cL_law 687 = .ok (.if_icmp .eq 5, 3) := by decide +kernel
theorem dL_law_690 : decode cL_law 690 = .ok (.iconst 0, 1) := by decide +kernel
theorem dL_law_691 : decode cL_law 691 = .ok (.ireturn, 1) := by decide +kernel
theorem dL_law_692 : decode cL_law 692 = .ok (.iload 5, 2) := by decide +kernel
theorem dL_law_694 : decode cL_law 694 = .ok (.ifCond .ne 15, 3) := by decide +kernel
theorem dL_law_697 : decode cL_law 697 = .ok (.aload_n 3, 1) := by decide +kernel
theorem dL_law_698 : decode cL_law 698 = .ok (.iconst 0, 1) := by decide +kernel
theorem dL_law_699 : decode cL_law 699 = .ok (.laload, 1) := by decide +kernel
theorem dL_law_700 : decode cL_law 700 = .ok (.iload 6, 2) := by decide +kernel
theorem dL_law_702 : decode cL_law 702 = .ok (.i2l, 1) := by decide +kernel
theorem dL_law_703 : decode cL_law 703 = .ok (.lcmp, 1) := by decide +kernel
theorem dL_law_704 : decode cL_law 704 = .ok (.ifCond .eq 5, 3) := by decide +kernel
theorem dL_law_707 : decode cL_law 707 = .ok (.iconst 0, 1) := by decide +kernel
theorem dL_law_708 : decode cL_law 708 = .ok (.ireturn, 1) := by decide +kernel
theorem dL_law_709 : decode cL_law 709 = .ok (.goto 839, 3) := by decide +kernel
theorem dL_law_712 : decode cL_law 712 = .ok (.aload_n 1, 1) := by decide +kernel
theorem dL_law_713 : decode cL_law 713 = .ok (.aload_n 0, 1) := by decide +kernel
theorem dL_law_714 : decode cL_law 714 = .ok (.iload 4, 2) := by decide +kernel
theorem dL_law_716 : decode cL_law 716 = .ok (.iconst 1, 1) := by decide +kernel
theorem dL_law_717 : decode cL_law 717 = .ok (.iadd, 1) := by decide +kernel
theorem dL_law_718 : decode cL_law 718 = .ok (.iaload, 1) := by decide +kernel
theorem dL_law_719 : decode cL_law 719 = .ok (.invokestatic 122, 3) := by decide +kernel
theorem dL_law_722 : decode cL_law 722 = .ok (.istore 5, 2) := by decide +kernel
theorem dL_law_724 : decode cL_law 724 = .ok (.aload_n 2, 1) := by decide +kernel
theorem dL_law_725 : decode cL_law 725 = .ok (.aload_n 0, 1) := by decide +kernel
theorem dL_law_726 : decode cL_law 726 = .ok (.iload 4, 2) := by decide +kernel
theorem dL_law_728 : decode cL_law 728 = .ok (.iconst 1, 1) := by decide +kernel
theorem dL_law_729 : decode cL_law 729 = .ok (.iadd, 1) := by decide +kernel
theorem dL_law_730 : decode cL_law 730 = .ok (.iaload, 1) := by decide +kernel
theorem dL_law_731 : decode cL_law 731 = .ok (.invokevirtual 125, 3) := by decide +kernel
theorem dL_law_734 : decode cL_law 734 = .ok (.aload_n 2, 1) := by decide +kernel
theorem dL_law_735 : decode cL_law 735 = .ok (.invokevirtual 94, 3) := by decide +kernel
theorem dL_law_738 : decode cL_law 738 = .ok (.iload 5, 2) := by decide +kernel
theorem dL_law_740 : decode cL_law 740 = .ok (.if_icmp .eq 5, 3) := by decide +kernel
theorem dL_law_743 : decode cL_law 743 = .ok (.iconst 0, 1) := by decide +kernel
theorem dL_law_744 : decode cL_law 744 = .ok (.ireturn, 1) := by decide +kernel
theorem dL_law_745 : decode cL_law 745 = .ok (.goto 803, 3) := by decide +kernel
theorem dL_law_748 : decode cL_law 748 = .ok (.aload_n 1, 1) := by decide +kernel
theorem dL_law_749 : decode cL_law 749 = .ok (.aload_n 0, 1) := by decide +kernel
theorem dL_law_750 : decode cL_law 750 = .ok (.iload 4, 2) := by decide +kernel
theorem dL_law_752 : decode cL_law 752 = .ok (.iconst 1, 1) := by decide +kernel
theorem dL_law_753 : decode cL_law 753 = .ok (.iadd, 1) := by decide +kernel
theorem dL_law_754 : decode cL_law 754 = .ok (.iaload, 1) := by decide +kernel
theorem dL_law_755 : decode cL_law 755 = .ok (.aload_n 3, 1) := by decide +kernel
theorem dL_law_756 : decode cL_law 756 = .ok (.invokestatic 126, 3) := by decide +kernel
theorem dL_law_759 : decode cL_law 759 = .ok (.istore 5, 2) := by decide +kernel
theorem dL_law_761 : decode cL_law 761 = .ok (.aload_n 2, 1) := by decide +kernel
theorem dL_law_762 : decode cL_law 762 = .ok (.aload_n 0, 1) := by decide +kernel
theorem dL_law_763 : decode cL_law 763 = .ok (.iload 4, 2) := by decide +kernel
theorem dL_law_765 : decode cL_law 765 = .ok (.iconst 1, 1) := by decide +kernel
theorem dL_law_766 : decode cL_law 766 = .ok (.iadd, 1) := by decide +kernel
theorem dL_law_767 : decode cL_law 767 = .ok (.iaload, 1) := by decide +kernel
theorem dL_law_768 : decode cL_law 768 = .ok (.invokevirtual 128, 3) := by decide +kernel
theorem dL_law_771 : decode cL_law 771 = .ok (.istore 6, 2) := by decide +kernel
theorem dL_law_773 : decode cL_law 773 = .ok (.aload_n 2, 1) := by decide +kernel
theorem dL_law_774 : decode cL_law 774 = .ok (.invokevirtual 94, 3) := by decide +kernel
theorem dL_law_777 : decode cL_law 777 = .ok (.iload 5, 2) := by decide +kernel
theorem dL_law_779 : decode cL_law 779 = .ok (.if_icmp .eq 5, 3) := by decide +kernel
theorem dL_law_782 : decode cL_law 782 = .ok (.iconst 0, 1) := by decide +kernel
theorem dL_law_783 : decode cL_law 783 = .ok (.ireturn, 1) := by decide +kernel
theorem dL_law_784 : decode cL_law 784 = .ok (.iload 5, 2) := by decide +kernel
theorem dL_law_786 : decode cL_law 786 = .ok (.ifCond .ne 15, 3) := by decide +kernel
theorem dL_law_789 : decode cL_law 789 = .ok (.aload_n 3, 1) := by decide +kernel
theorem dL_law_790 : decode cL_law 790 = .ok (.iconst 0, 1) := by decide +kernel
theorem dL_law_791 : decode cL_law 791 = .ok (.laload, 1) := by decide +kernel
theorem dL_law_792 : decode cL_law 792 = .ok (.iload 6, 2) := by decide +kernel
theorem dL_law_794 : decode cL_law 794 = .ok (.i2l, 1) := by decide +kernel
theorem dL_law_795 : decode cL_law 795 = .ok (.lcmp, 1) := by decide +kernel
theorem dL_law_796 : decode cL_law 796 = .ok (.ifCond .eq 5, 3) := by decide +kernel
theorem dL_law_799 : decode cL_law 799 = .ok (.iconst 0, 1) := by decide +kernel
theorem dL_law_800 : decode cL_law 800 = .ok (.ireturn, 1) := by decide +kernel
theorem dL_law_801 : decode cL_law 801 = .ok (.goto 747, 3) := by decide +kernel
theorem dL_law_804 : decode cL_law 804 = .ok (.aload_n 1, 1) := by decide +kernel
theorem dL_law_805 : decode cL_law 805 = .ok (.aload_n 0, 1) := by decide +kernel
theorem dL_law_806 : decode cL_law 806 = .ok (.iload 4, 2) := by decide +kernel
theorem dL_law_808 : decode cL_law 808 = .ok (.iconst 1, 1) := by decide +kernel
theorem dL_law_809 : decode cL_law 809 = .ok (.iadd, 1) := by decide +kernel
theorem dL_law_810 : decode cL_law 810 = .ok (.iaload, 1) := by decide +kernel
theorem dL_law_811 : decode cL_law 811 = .ok (.aload_n 0, 1) := by decide +kernel
theorem dL_law_812 : decode cL_law 812 = .ok (.iload 4, 2) := by decide +kernel
theorem dL_law_814 : decode cL_law 814 = .ok (.iconst 2, 1) := by decide +kernel
theorem dL_law_815 : decode cL_law 815 = .ok (.iadd, 1) := by decide +kernel
theorem dL_law_816 : decode cL_law 816 = .ok (.iaload, 1) := by decide +kernel
theorem dL_law_817 : decode cL_law 817 = .ok (.aload_n 3, 1) := by decide +kernel
theorem dL_law_818 : decode cL_law 818 = .ok (.invokestatic 129, 3) := by decide +kernel
theorem dL_law_821 : decode cL_law 821 = .ok (.istore 5, 2) := by decide +kernel
theorem dL_law_823 : decode cL_law 823 = .ok (.aload_n 2, 1) := by decide +kernel
theorem dL_law_824 : decode cL_law 824 = .ok (.aload_n 0, 1) := by decide +kernel
theorem dL_law_825 : decode cL_law 825 = .ok (.iload 4, 2) := by decide +kernel
theorem dL_law_827 : decode cL_law 827 = .ok (.iconst 1, 1) := by decide +kernel
theorem dL_law_828 : decode cL_law 828 = .ok (.iadd, 1) := by decide +kernel
theorem dL_law_829 : decode cL_law 829 = .ok (.iaload, 1) := by decide +kernel
theorem dL_law_830 : decode cL_law 830 = .ok (.aload_n 0, 1) := by decide +kernel
theorem dL_law_831 : decode cL_law 831 = .ok (.iload 4, 2) := by decide +kernel
theorem dL_law_833 : decode cL_law 833 = .ok (.iconst 2, 1) := by decide +kernel
theorem dL_law_834 : decode cL_law 834 = .ok (.iadd, 1) := by decide +kernel
theorem dL_law_835 : decode cL_law 835 = .ok (.iaload, 1) := by decide +kernel
theorem dL_law_836 : decode cL_law 836 = .ok (.invokevirtual 131, 3) := by decide +kernel
theorem dL_law_839 : decode cL_law 839 = .ok (.istore 6, 2) := by decide +kernel
theorem dL_law_841 : decode cL_law 841 = .ok (.aload_n 2, 1) := by decide +kernel
theorem dL_law_842 : decode cL_law 842 = .ok (.invokevirtual 94, 3) := by decide +kernel
theorem dL_law_845 : decode cL_law 845 = .ok (.iload 5, 2) := by decide +kernel
theorem dL_law_847 : decode cL_law 847 = .ok (.if_icmp .eq 5, 3) := by decide +kernel
theorem dL_law_850 : decode cL_law 850 = .ok (.iconst 0, 1) := by decide +kernel
theorem dL_law_851 : decode cL_law 851 = .ok (.ireturn, 1) := by decide +kernel
theorem dL_law_852 : decode cL_law 852 = .ok (.iload 5, 2) := by decide +kernel
theorem dL_law_854 : decode cL_law 854 = .ok (.ifCond .ne 15, 3) := by decide +kernel
theorem dL_law_857 : decode cL_law 857 = .ok (.aload_n 3, 1) := by decide +kernel
theorem dL_law_858 : decode cL_law 858 = .ok (.iconst 0, 1) := by decide +kernel
theorem dL_law_859 : decode cL_law 859 = .ok (.laload, 1) := by decide +kernel
theorem dL_law_860 : decode cL_law 860 = .ok (.iload 6, 2) := by decide +kernel
theorem dL_law_862 : decode cL_law 862 = .ok (.i2l, 1) := by decide +kernel
theorem dL_law_863 : decode cL_law 863 = .ok (.lcmp, 1) := by decide +kernel
theorem dL_law_864 : decode cL_law 864 = .ok (.ifCond .eq 5, 3) := by decide +kernel
theorem dL_law_867 : decode cL_law 867 = .ok (.iconst 0, 1) := by decide +kernel
theorem dL_law_868 : decode cL_law 868 = .ok (.ireturn, 1) := by decide +kernel
theorem dL_law_869 : decode cL_law 869 = .ok (.goto 679, 3) := by decide +kernel
theorem dL_law_872 : decode cL_law 872 = .ok (.aload_n 1, 1) := by decide +kernel
theorem dL_law_873 : decode cL_law 873 = .ok (.aload_n 0, 1) := by decide +kernel
theorem dL_law_874 : decode cL_law 874 = .ok (.iload 4, 2) := by decide +kernel
theorem dL_law_876 : decode cL_law 876 = .ok (.iconst 1, 1) := by decide +kernel
theorem dL_law_877 : decode cL_law 877 = .ok (.iadd, 1) := by decide +kernel
theorem dL_law_878 : decode cL_law 878 = .ok (.iaload, 1) := by decide +kernel
theorem dL_law_879 : decode cL_law 879 = .ok (.aload_n 0, 1) := by decide +kernel
theorem dL_law_880 : decode cL_law 880 = .ok (.iload 4, 2) := by decide +kernel
theorem dL_law_882 : decode cL_law 882 = .ok (.iconst 2, 1) := by decide +kernel
theorem dL_law_883 : decode cL_law 883 = .ok (.iadd, 1) := by decide +kernel
theorem dL_law_884 : decode cL_law 884 = .ok (.iaload, 1) := by decide +kernel
theorem dL_law_885 : decode cL_law 885 = .ok (.aload_n 0, 1) := by decide +kernel
theorem dL_law_886 : decode cL_law 886 = .ok (.iload 4, 2) := by decide +kernel
theorem dL_law_888 : decode cL_law 888 = .ok (.iconst 3, 1) := by decide +kernel
theorem dL_law_889 : decode cL_law 889 = .ok (.iadd, 1) := by decide +kernel
theorem dL_law_890 : decode cL_law 890 = .ok (.iaload, 1) := by decide +kernel
theorem dL_law_891 : decode cL_law 891 = .ok (.aload_n 0, 1) := by decide +kernel
theorem dL_law_892 : decode cL_law 892 = .ok (.iload 4, 2) := by decide +kernel
theorem dL_law_894 : decode cL_law 894 = .ok (.iconst 4, 1) := by decide +kernel
theorem dL_law_895 : decode cL_law 895 = .ok (.iadd, 1) := by decide +kernel
theorem dL_law_896 : decode cL_law 896 = .ok (.iaload, 1) := by decide +kernel
theorem dL_law_897 : decode cL_law 897 = .ok (.aload_n 0, 1) := by decide +kernel
theorem dL_law_898 : decode cL_law 898 = .ok (.iload 4, 2) := by decide +kernel
theorem dL_law_900 : decode cL_law 900 = .ok (.iconst 5, 1) := by decide +kernel
theorem dL_law_901 : decode cL_law 901 = .ok (.iadd, 1) := by decide +kernel
theorem dL_law_902 : decode cL_law 902 = .ok (.iaload, 1) := by decide +kernel
theorem dL_law_903 : decode cL_law 903 = .ok (.ifCond .eq 7, 3) := by decide +kernel
theorem dL_law_906 : decode cL_law 906 = .ok (.iconst 1, 1) := by decide +kernel
theorem dL_law_907 : decode cL_law 907 = .ok (.goto 4, 3) := by decide +kernel
theorem dL_law_910 : decode cL_law 910 = .ok (.iconst 0, 1) := by decide +kernel
theorem dL_law_911 : decode cL_law 911 = .ok (.aload_n 3, 1) := by decide +kernel
theorem dL_law_912 : decode cL_law 912 = .ok (.invokestatic 132, 3) := by decide +kernel
theorem dL_law_915 : decode cL_law 915 = .ok (.istore 5, 2) := by decide +kernel
theorem dL_law_917 : decode cL_law 917 = .ok (.aload_n 2, 1) := by decide +kernel
theorem dL_law_918 : decode cL_law 918 = .ok (.aload_n 0, 1) := by decide +kernel
theorem dL_law_919 : decode cL_law 919 = .ok (.iload 4, 2) := by decide +kernel
theorem dL_law_921 : decode cL_law 921 = .ok (.iconst 1, 1) := by decide +kernel
theorem dL_law_922 : decode cL_law 922 = .ok (.iadd, 1) := by decide +kernel
theorem dL_law_923 : decode cL_law 923 = .ok (.iaload, 1) := by decide +kernel
theorem dL_law_924 : decode cL_law 924 = .ok (.aload_n 0, 1) := by decide +kernel
theorem dL_law_925 : decode cL_law 925 = .ok (.iload 4, 2) := by decide +kernel
theorem dL_law_927 : decode cL_law 927 = .ok (.iconst 2, 1) := by decide +kernel
theorem dL_law_928 : decode cL_law 928 = .ok (.iadd, 1) := by decide +kernel
theorem dL_law_929 : decode cL_law 929 = .ok (.iaload, 1) := by decide +kernel
theorem dL_law_930 : decode cL_law 930 = .ok (.aload_n 0, 1) := by decide +kernel
theorem dL_law_931 : decode cL_law 931 = .ok (.iload 4, 2) := by decide +kernel
theorem dL_law_933 : decode cL_law 933 = .ok (.iconst 3, 1) := by decide +kernel
theorem dL_law_934 : decode cL_law 934 = .ok (.iadd, 1) := by decide +kernel
theorem dL_law_935 : decode cL_law 935 = .ok (.iaload, 1) := by decide +kernel
theorem dL_law_936 : decode cL_law 936 = .ok (.aload_n 0, 1) := by decide +kernel
theorem dL_law_937 : decode cL_law 937 = .ok (.iload 4, 2) := by decide +kernel
theorem dL_law_939 : decode cL_law 939 = .ok (.iconst 4, 1) := by decide +kernel
theorem dL_law_940 : decode cL_law 940 = .ok (.iadd, 1) := by decide +kernel
theorem dL_law_941 : decode cL_law 941 = .ok (.iaload, 1) := by decide +kernel
theorem dL_law_942 : decode cL_law 942 = .ok (.aload_n 0, 1) := by decide +kernel
theorem dL_law_943 : decode cL_law 943 = .ok (.iload 4, 2) := by decide +kernel
theorem dL_law_945 : decode cL_law 945 = .ok (.iconst 5, 1) := by decide +kernel
theorem dL_law_946 : decode cL_law 946 = .ok (.iadd, 1) := by decide +kernel
theorem dL_law_947 : decode cL_law 947 = .ok (.iaload, 1) := by decide +kernel
theorem dL_law_948 : decode cL_law 948 = .ok (.ifCond .eq 7, 3) := by decide +kernel
theorem dL_law_951 : decode cL_law 951 = .ok (.iconst 1, 1) := by decide +kernel
theorem dL_law_952 : decode cL_law 952 = .ok (.goto 4, 3) := by decide +kernel
theorem dL_law_955 : decode cL_law 955 = .ok (.iconst 0, 1) := by decide +kernel
theorem dL_law_956 : decode cL_law 956 = .ok (.invokevirtual 135, 3) := by decide +kernel
theorem dL_law_959 : decode cL_law 959 = .ok (.istore 6, 2) := by decide +kernel
theorem dL_law_961 : decode cL_law 961 = .ok (.aload_n 2, 1) := by decide +kernel
theorem dL_law_962 : decode cL_law 962 = .ok (.invokevirtual 94, 3) := by decide +kernel
theorem dL_law_965 : decode cL_law 965 = .ok (.iload 5, 2) := by decide +kernel
theorem dL_law_967 : decode cL_law 967 = .ok (.if_icmp .eq 5, 3) := by decide +kernel
theorem dL_law_970 : decode cL_law 970 = .ok (.iconst 0, 1) := by decide +kernel
theorem dL_law_971 : decode cL_law 971 = .ok (.ireturn, 1) := by decide +kernel
theorem dL_law_972 : decode cL_law 972 = .ok (.iload 5, 2) := by decide +kernel
theorem dL_law_974 : decode cL_law 974 = .ok (.ifCond .ne 15, 3) := by decide +kernel
theorem dL_law_977 : decode cL_law 977 = .ok (.aload_n 3, 1) := by decide +kernel
theorem dL_law_978 : decode cL_law 978 = .ok (.iconst 0, 1) := by decide +kernel
theorem dL_law_979 : decode cL_law 979 = .ok (.laload, 1) := by decide +kernel
theorem dL_law_980 : decode cL_law 980 = .ok (.iload 6, 2) := by decide +kernel
end
section
theorem dL_law_982 : decode cL_law 982 = .ok (.i2l, 1) := by decide +kernel
theorem dL_law_983 : decode cL_law 983 = .ok (.lcmp, 1) := by decide +kernel
theorem dL_law_984 : decode cL_law 984 = .ok (.ifCond .eq 5, 3) := by decide +kernel
theorem dL_law_987 : decode cL_law 987 = .ok (.iconst 0, 1) := by decide +kernel
theorem dL_law_988 : decode cL_law 988 = .ok (.ireturn, 1) := by decide +kernel
theorem dL_law_989 : decode cL_law 989 = .ok (.goto 559, 3) := by decide +kernel
theorem dL_law_992 : decode cL_law 992 = .ok (.aload_n 1, 1) := by decide +kernel
theorem dL_law_993 : decode cL_law 993 = .ok (.aload_n 0, 1) := by decide +kernel
theorem dL_law_994 : decode cL_law 994 = .ok (.iload 4, 2) := by decide +kernel
theorem dL_law_996 : decode cL_law 996 = .ok (.iconst 1, 1) := by decide +kernel
theorem dL_law_997 : decode cL_law 997 = .ok (.iadd, 1) := by decide +kernel
theorem dL_law_998 : decode cL_law 998 = .ok (.iaload, 1) := by decide +kernel
theorem dL_law_999 : decode cL_law 999 = .ok (.aload_n 0, 1) := by decide +kernel
theorem dL_law_1000 : decode cL_law 1000 = .ok (.iload 4, 2) := by decide +kernel
theorem dL_law_1002 : decode cL_law 1002 = .ok (.iconst 2, 1) := by decide +kernel
theorem dL_law_1003 : decode cL_law 1003 = .ok (.iadd, 1) := by decide +kernel
theorem dL_law_1004 : decode cL_law 1004 = .ok (.iaload, 1) := by decide +kernel
theorem dL_law_1005 : decode cL_law 1005 = .ok (.aload_n 3, 1) := by decide +kernel
theorem dL_law_1006 : decode cL_law 1006 = .ok (.invokestatic 136, 3) := by decide +kernel
theorem dL_law_1009 : decode cL_law 1009 = .ok (.istore 5, 2) := by decide +kernel
theorem dL_law_1011 : decode cL_law 1011 = .ok (.aload_n 2, 1) := by decide +kernel
theorem dL_law_1012 : decode cL_law 1012 = .ok (.aload_n 0, 1) := by decide +kernel
theorem dL_law_1013 : decode cL_law 1013 = .ok (.iload 4, 2) := by decide +kernel
theorem dL_law_1015 : decode cL_law 1015 = .ok (.iconst 1, 1) := by decide +kernel
theorem dL_law_1016 : decode cL_law 1016 = .ok (.iadd, 1) := by decide +kernel
theorem dL_law_1017 : decode cL_law 1017 = .ok (.iaload, 1) := by decide +kernel
theorem dL_law_1018 : decode cL_law 1018 = .ok (.aload_n 0, 1) := by decide +kernel
theorem dL_law_1019 : decode cL_law 1019 = .ok (.iload 4, 2) := by decide +kernel
theorem dL_law_1021 : decode cL_law 1021 = .ok (.iconst 2, 1) := by decide +kernel
theorem dL_law_1022 : decode cL_law 1022 = .ok (.iadd, 1) := by decide +kernel
theorem dL_law_1023 : decode cL_law 1023 = .ok (.iaload, 1) := by decide +kernel
theorem dL_law_1024 : decode cL_law 1024 = .ok (.invokevirtual 138, 3) := by decide +kernel
theorem dL_law_1027 : decode cL_law 1027 = .ok (.istore 6, 2) := by decide +kernel
theorem dL_law_1029 : decode cL_law 1029 = .ok (.aload_n 2, 1) := by decide +kernel
theorem dL_law_1030 : decode cL_law 1030 = .ok (.invokevirtual 94, 3) := by decide +kernel
theorem dL_law_1033 : decode cL_law 1033 = .ok (.iload 5, 2) := by decide +kernel
theorem dL_law_1035 : decode cL_law 1035 = .ok (.if_icmp .eq 5, 3) := by decide +kernel
theorem dL_law_1038 : decode cL_law 1038 = .ok (.iconst 0, 1) := by decide +kernel
theorem dL_law_1039 : decode cL_law 1039 = .ok (.ireturn, 1) := by decide +kernel
theorem dL_law_1040 : decode cL_law 1040 = .ok (.iload 5, 2) := by decide +kernel
theorem dL_law_1042 : decode cL_law 1042 = .ok (.ifCond .ne 22, 3) := by decide +kernel
theorem dL_law_1045 : decode cL_law 1045 = .ok (.aload_n 3, 1) := by decide +kernel
theorem dL_law_1046 : decode cL_law 1046 = .ok (.iconst 0, 1) := by decide +kernel
theorem dL_law_1047 : decode cL_law 1047 = .ok (.laload, 1) := by decide +kernel
theorem dL_law_1048 : decode cL_law 1048 = .ok (.iload 6, 2) := by decide +kernel
theorem dL_law_1050 : decode cL_law 1050 = .ok (.ifCond .eq 7, 3) := by decide +kernel
theorem dL_law_1053 : decode cL_law 1053 = .ok (.lconst 1, 1) := by decide +kernel
theorem dL_law_1054 : decode cL_law 1054 = .ok (.goto 4, 3) := by decide +kernel
theorem dL_law_1057 : decode cL_law 1057 = .ok (.lconst 0, 1) := by decide +kernel
theorem dL_law_1058 : decode cL_law 1058 = .ok (.lcmp, 1) := by decide +kernel
theorem dL_law_1059 : decode cL_law 1059 = .ok (.ifCond .eq 5, 3) := by decide +kernel
theorem dL_law_1062 : decode cL_law 1062 = .ok (.iconst 0, 1) := by decide +kernel
theorem dL_law_1063 : decode cL_law 1063 = .ok (.ireturn, 1) := by decide +kernel
theorem dL_law_1064 : decode cL_law 1064 = .ok (.goto 484, 3) := by decide +kernel
theorem dL_law_1067 : decode cL_law 1067 = .ok (.aload_n 1, 1) := by decide +kernel
theorem dL_law_1068 : decode cL_law 1068 = .ok (.aload_n 0, 1) := by decide +kernel
theorem dL_law_1069 : decode cL_law 1069 = .ok (.iload 4, 2) := by decide +kernel
theorem dL_law_1071 : decode cL_law 1071 = .ok (.iconst 1, 1) := by decide +kernel
theorem dL_law_1072 : decode cL_law 1072 = .ok (.iadd, 1) := by decide +kernel
theorem dL_law_1073 : decode cL_law 1073 = .ok (.iaload, 1) := by decide +kernel
theorem dL_law_1074 : decode cL_law 1074 = .ok (.aload_n 0, 1) := by decide +kernel
theorem dL_law_1075 : decode cL_law 1075 = .ok (.iload 4, 2) := by decide +kernel
theorem dL_law_1077 : decode cL_law 1077 = .ok (.iconst 2, 1) := by decide +kernel
theorem dL_law_1078 : decode cL_law 1078 = .ok (.iadd, 1) := by decide +kernel
theorem dL_law_1079 : decode cL_law 1079 = .ok (.iaload, 1) := by decide +kernel
theorem dL_law_1080 : decode cL_law 1080 = .ok (.aload_n 0, 1) := by decide +kernel
theorem dL_law_1081 : decode cL_law 1081 = .ok (.iload 4, 2) := by decide +kernel
theorem dL_law_1083 : decode cL_law 1083 = .ok (.iconst 3, 1) := by decide +kernel
theorem dL_law_1084 : decode cL_law 1084 = .ok (.iadd, 1) := by decide +kernel
theorem dL_law_1085 : decode cL_law 1085 = .ok (.iaload, 1) := by decide +kernel
theorem dL_law_1086 : decode cL_law 1086 = .ok (.ifCond .eq 7, 3) := by decide +kernel
theorem dL_law_1089 : decode cL_law 1089 = .ok (.iconst 1, 1) := by decide +kernel
theorem dL_law_1090 : decode cL_law 1090 = .ok (.goto 4, 3) := by decide +kernel
theorem dL_law_1093 : decode cL_law 1093 = .ok (.iconst 0, 1) := by decide +kernel
theorem dL_law_1094 : decode cL_law 1094 = .ok (.aload_n 3, 1) := by decide +kernel
theorem dL_law_1095 : decode cL_law 1095 = .ok (.invokestatic 139, 3) := by decide +kernel
theorem dL_law_1098 : decode cL_law 1098 = .ok (.istore 5, 2) := by decide +kernel
theorem dL_law_1100 : decode cL_law 1100 = .ok (.aload_n 2, 1) := by decide +kernel
theorem dL_law_1101 : decode cL_law 1101 = .ok (.aload_n 0, 1) := by decide +kernel
theorem dL_law_1102 : decode cL_law 1102 = .ok (.iload 4, 2) := by decide +kernel
theorem dL_law_1104 : decode cL_law 1104 = .ok (.iconst 1, 1) := by decide +kernel
theorem dL_law_1105 : decode cL_law 1105 = .ok (.iadd, 1) := by decide +kernel
theorem dL_law_1106 : decode cL_law 1106 = .ok (.iaload, 1) := by decide +kernel
theorem dL_law_1107 : decode cL_law 1107 = .ok (.aload_n 0, 1) := by decide +kernel
theorem dL_law_1108 : decode cL_law 1108 = .ok (.iload 4, 2) := by decide +kernel
theorem dL_law_1110 : decode cL_law 1110 = .ok (.iconst 2, 1) := by decide +kernel
theorem dL_law_1111 : decode cL_law 1111 = .ok (.iadd, 1) := by decide +kernel
theorem dL_law_1112 : decode cL_law 1112 = .ok (.iaload, 1) := by decide +kernel
theorem dL_law_1113 : decode cL_law 1113 = .ok (.aload_n 0, 1) := by decide +kernel
theorem dL_law_1114 : decode cL_law 1114 = .ok (.iload 4, 2) := by decide +kernel
theorem dL_law_1116 : decode cL_law 1116 = .ok (.iconst 3, 1) := by decide +kernel
theorem dL_law_1117 : decode cL_law 1117 = .ok (.iadd, 1) := by decide +kernel
theorem dL_law_1118 : decode cL_law 1118 = .ok (.iaload, 1) := by decide +kernel
theorem dL_law_1119 : decode cL_law 1119 = .ok (.ifCond .eq 7, 3) := by decide +kernel
theorem dL_law_1122 : decode cL_law 1122 = .ok (.iconst 1, 1) := by decide +kernel
theorem dL_law_1123 : decode cL_law 1123 = .ok (.goto 4, 3) := by decide +kernel
theorem dL_law_1126 : decode cL_law 1126 = .ok (.iconst 0, 1) := by decide +kernel
theorem dL_law_1127 : decode cL_law 1127 = .ok (.invokevirtual 142, 3) := by decide +kernel
theorem dL_law_1130 : decode cL_law 1130 = .ok (.istore 6, 2) := by decide +kernel
theorem dL_law_1132 : decode cL_law 1132 = .ok (.aload_n 2, 1) := by decide +kernel
theorem dL_law_1133 : decode cL_law 1133 = .ok (.invokevirtual 94, 3) := by decide +kernel
theorem dL_law_1136 : decode cL_law 1136 = .ok (.iload 5, 2) := by decide +kernel
theorem dL_law_1138 : decode cL_law 1138 = .ok (.if_icmp .eq 5, 3) := by decide +kernel
theorem dL_law_1141 : decode cL_law 1141 = .ok (.iconst 0, 1) := by decide +kernel
theorem dL_law_1142 : decode cL_law 1142 = .ok (.ireturn, 1) := by decide +kernel
theorem dL_law_1143 : decode cL_law 1143 = .ok (.iload 5, 2) := by decide +kernel
theorem dL_law_1145 : decode cL_law 1145 = .ok (.ifCond .ne 15, 3) := by decide +kernel
theorem dL_law_1148 : decode cL_law 1148 = .ok (.aload_n 3, 1) := by decide +kernel
theorem dL_law_1149 : decode cL_law 1149 = .ok (.iconst 0, 1) := by decide +kernel
theorem dL_law_1150 : decode cL_law 1150 = .ok (.laload, 1) := by decide +kernel
theorem dL_law_1151 : decode cL_law 1151 = .ok (.iload 6, 2) := by decide +kernel
theorem dL_law_1153 : decode cL_law 1153 = .ok (.i2l, 1) := by decide +kernel
theorem dL_law_1154 : decode cL_law 1154 = .ok (.lcmp, 1) := by decide +kernel
theorem dL_law_1155 : decode cL_law 1155 = .ok (.ifCond .eq 5, 3) := by decide +kernel
theorem dL_law_1158 : decode cL_law 1158 = .ok (.iconst 0, 1) := by decide +kernel
theorem dL_law_1159 : decode cL_law 1159 = .ok (.ireturn, 1) := by decide +kernel
theorem dL_law_1160 : decode cL_law 1160 = .ok (.goto 388, 3) := by decide +kernel
theorem dL_law_1163 : decode cL_law 1163 = .ok (.aload_n 1, 1) := by decide +kernel
theorem dL_law_1164 : decode cL_law 1164 = .ok (.aload_n 0, 1) := by decide +kernel
theorem dL_law_1165 : decode cL_law 1165 = .ok (.iload 4, 2) := by decide +kernel
theorem dL_law_1167 : decode cL_law 1167 = .ok (.iconst 1, 1) := by decide +kernel
theorem dL_law_1168 : decode cL_law 1168 = .ok (.iadd, 1) := by decide +kernel
theorem dL_law_1169 : decode cL_law 1169 = .ok (.iaload, 1) := by decide +kernel
theorem dL_law_1170 : decode cL_law 1170 = .ok (.aload_n 0, 1) := by decide +kernel
theorem dL_law_1171 : decode cL_law 1171 = .ok (.iload 4, 2) := by decide +kernel
theorem dL_law_1173 : decode cL_law 1173 = .ok (.iconst 2, 1) := by decide +kernel
theorem dL_law_1174 : decode cL_law 1174 = .ok (.iadd, 1) := by decide +kernel
theorem dL_law_1175 : decode cL_law 1175 = .ok (.iaload, 1) := by decide +kernel
theorem dL_law_1176 : decode cL_law 1176 = .ok (.aload_n 3, 1) := by decide +kernel
theorem dL_law_1177 : decode cL_law 1177 = .ok (.invokestatic 143, 3) := by decide +kernel
theorem dL_law_1180 : decode cL_law 1180 = .ok (.istore 5, 2) := by decide +kernel
theorem dL_law_1182 : decode cL_law 1182 = .ok (.aload_n 2, 1) := by decide +kernel
theorem dL_law_1183 : decode cL_law 1183 = .ok (.aload_n 0, 1) := by decide +kernel
theorem dL_law_1184 : decode cL_law 1184 = .ok (.iload 4, 2) := by decide +kernel
theorem dL_law_1186 : decode cL_law 1186 = .ok (.iconst 1, 1) := by decide +kernel
theorem dL_law_1187 : decode cL_law 1187 = .ok (.iadd, 1) := by decide +kernel
theorem dL_law_1188 : decode cL_law 1188 = .ok (.iaload, 1) := by decide +kernel
theorem dL_law_1189 : decode cL_law 1189 = .ok (.aload_n 0, 1) := by decide +kernel
theorem dL_law_1190 : decode cL_law 1190 = .ok (.iload 4, 2) := by decide +kernel
theorem dL_law_1192 : decode cL_law 1192 = .ok (.iconst 2, 1) := by decide +kernel
theorem dL_law_1193 : decode cL_law 1193 = .ok (.iadd, 1) := by decide +kernel
theorem dL_law_1194 : decode cL_law 1194 = .ok (.iaload, 1) := by decide +kernel
theorem dL_law_1195 : decode cL_law 1195 = .ok (.invokevirtual 145, 3) := by decide +kernel
theorem dL_law_1198 : decode cL_law 1198 = .ok (.istore 6, 2) := by decide +kernel
theorem dL_law_1200 : decode cL_law 1200 = .ok (.aload_n 2, 1) := by decide +kernel
theorem dL_law_1201 : decode cL_law 1201 = .ok (.invokevirtual 94, 3) := by decide +kernel
theorem dL_law_1204 : decode cL_law 1204 = .ok (.iload 5, 2) := by decide +kernel
theorem dL_law_1206 : decode cL_law 1206 = .ok (.if_icmp .eq 5, 3) := by decide +kernel
theorem dL_law_1209 : decode cL_law 1209 = .ok (.iconst 0, 1) := by decide +kernel
theorem dL_law_1210 : decode cL_law 1210 = .ok (.ireturn, 1) := by decide +kernel
theorem dL_law_1211 : decode cL_law 1211 = .ok (.iload 5, 2) := by decide +kernel
theorem dL_law_1213 : decode cL_law 1213 = .ok (.ifCond .ne 15, 3) := by decide +kernel
theorem dL_law_1216 : decode cL_law 1216 = .ok (.aload_n 3, 1) := by decide +kernel
theorem dL_law_1217 : decode cL_law 1217 = .ok (.iconst 0, 1) := by decide +kernel
theorem dL_law_1218 : decode cL_law 1218 = .ok (.laload, 1) := by decide +kernel
theorem dL_law_1219 : decode cL_law 1219 = .ok (.iload 6, 2) := by decide +kernel
theorem dL_law_1221 : decode cL_law 1221 = .ok (.i2l, 1) := by decide +kernel
theorem dL_law_1222 : decode cL_law 1222 = .ok (.lcmp, 1) := by decide +kernel
theorem dL_law_1223 : decode cL_law 1223 = .ok (.ifCond .eq 5, 3) := by decide +kernel
theorem dL_law_1226 : decode cL_law 1226 = .ok (.iconst 0, 1) := by decide +kernel
theorem dL_law_1227 : decode cL_law 1227 = .ok (.ireturn, 1) := by decide +kernel
theorem dL_law_1228 : decode cL_law 1228 = .ok (.goto 320, 3) := by decide +kernel
theorem dL_law_1231 : decode cL_law 1231 = .ok (.aload_n 1, 1) := by decide +kernel
theorem dL_law_1232 : decode cL_law 1232 = .ok (.aload_n 0, 1) := by decide +kernel
theorem dL_law_1233 : decode cL_law 1233 = .ok (.iload 4, 2) := by decide +kernel
theorem dL_law_1235 : decode cL_law 1235 = .ok (.iconst 1, 1) := by decide +kernel
theorem dL_law_1236 : decode cL_law 1236 = .ok (.iadd, 1) := by decide +kernel
theorem dL_law_1237 : decode cL_law 1237 = .ok (.iaload, 1) := by decide +kernel
theorem dL_law_1238 : decode cL_law 1238 = .ok (.aload_n 0, 1) := by decide +kernel
theorem dL_law_1239 : decode cL_law 1239 = .ok (.iload 4, 2) := by decide +kernel
theorem dL_law_1241 : decode cL_law 1241 = .ok (.iconst 2, 1) := by decide +kernel
theorem dL_law_1242 : decode cL_law 1242 = .ok (.iadd, 1) := by decide +kernel
theorem dL_law_1243 : decode cL_law 1243 = .ok (.iaload, 1) := by decide +kernel
theorem dL_law_1244 : decode cL_law 1244 = .ok (.aload_n 3, 1) := by decide +kernel
theorem dL_law_1245 : decode cL_law 1245 = .ok (.invokestatic 146, 3) := by decide +kernel
theorem dL_law_1248 : decode cL_law 1248 = .ok (.istore 5, 2) := by decide +kernel
theorem dL_law_1250 : decode cL_law 1250 = .ok (.aload_n 2, 1) := by decide +kernel
theorem dL_law_1251 : decode cL_law 1251 = .ok (.aload_n 0, 1) := by decide +kernel
theorem dL_law_1252 : decode cL_law 1252 = .ok (.iload 4, 2) := by decide +kernel
theorem dL_law_1254 : decode cL_law 1254 = .ok (.iconst 1, 1) := by decide +kernel
theorem dL_law_1255 : decode cL_law 1255 = .ok (.iadd, 1) := by decide +kernel
theorem dL_law_1256 : decode cL_law 1256 = .ok (.iaload, 1) := by decide +kernel
theorem dL_law_1257 : decode cL_law 1257 = .ok (.aload_n 0, 1) := by decide +kernel
theorem dL_law_1258 : decode cL_law 1258 = .ok (.iload 4, 2) := by decide +kernel
theorem dL_law_1260 : decode cL_law 1260 = .ok (.iconst 2, 1) := by decide +kernel
theorem dL_law_1261 : decode cL_law 1261 = .ok (.iadd, 1) := by decide +kernel
theorem dL_law_1262 : decode cL_law 1262 = .ok (.iaload, 1) := by decide +kernel
theorem dL_law_1263 : decode cL_law 1263 = .ok (.invokevirtual 148, 3) := by decide +kernel
theorem dL_law_1266 : decode cL_law 1266 = .ok (.istore 6, 2) := by decide +kernel
theorem dL_law_1268 : decode cL_law 1268 = .ok (.aload_n 2, 1) := by decide +kernel
theorem dL_law_1269 : decode cL_law 1269 = .ok (.invokevirtual 94, 3) := by decide +kernel
theorem dL_law_1272 : decode cL_law 1272 = .ok (.iload 5, 2) := by decide +kernel
theorem dL_law_1274 : decode cL_law 1274 = .ok (.if_icmp .eq 5, 3) := by decide +kernel
theorem dL_law_1277 : decode cL_law 1277 = .ok (.iconst 0, 1) := by decide +kernel
theorem dL_law_1278 : decode cL_law 1278 = .ok (.ireturn, 1) := by decide +kernel
theorem dL_law_1279 : decode cL_law 1279 = .ok (.iload 5, 2) := by decide +kernel
theorem dL_law_1281 : decode cL_law 1281 = .ok (.ifCond .ne 15, 3) := by decide +kernel
theorem dL_law_1284 : decode cL_law 1284 = .ok (.aload_n 3, 1) := by decide +kernel
theorem dL_law_1285 : decode cL_law 1285 = .ok (.iconst 0, 1) := by decide +kernel
theorem dL_law_1286 : decode cL_law 1286 = .ok (.laload, 1) := by decide +kernel
theorem dL_law_1287 : decode cL_law 1287 = .ok (.iload 6, 2) := by decide +kernel
theorem dL_law_1289 : decode cL_law 1289 = .ok (.i2l, 1) := by decide +kernel
theorem dL_law_1290 : decode cL_law 1290 = .ok (.lcmp, 1) := by decide +kernel
theorem dL_law_1291 : decode cL_law 1291 = .ok (.ifCond .eq 5, 3) := by decide +kernel
theorem dL_law_1294 : decode cL_law 1294 = .ok (.iconst 0, 1) := by decide +kernel
theorem dL_law_1295 : decode cL_law 1295 = .ok (.ireturn, 1) := by decide +kernel
theorem dL_law_1296 : decode cL_law 1296 = .ok (.goto 252, 3) := by decide +kernel
theorem dL_law_1299 : decode cL_law 1299 = .ok (.aload_n 1, 1) := by decide +kernel
theorem dL_law_1300 : decode cL_law 1300 = .ok (.aload_n 0, 1) := by decide +kernel
theorem dL_law_1301 : decode cL_law 1301 = .ok (.iload 4, 2) := by decide +kernel
theorem dL_law_1303 : decode cL_law 1303 = .ok (.iconst 1, 1) := by decide +kernel
theorem dL_law_1304 : decode cL_law 1304 = .ok (.iadd, 1) := by decide +kernel
theorem dL_law_1305 : decode cL_law 1305 = .ok (.iaload, 1) := by decide +kernel
theorem dL_law_1306 : decode cL_law 1306 = .ok (.aload_n 3, 1) := by decide +kernel
theorem dL_law_1307 : decode cL_law 1307 = .ok (.invokestatic 149, 3) := by decide +kernel
theorem dL_law_1310 : decode cL_law 1310 = .ok (.istore 5, 2) := by decide +kernel
theorem dL_law_1312 : decode cL_law 1312 = .ok (.aload_n 2, 1) := by decide +kernel
theorem dL_law_1313 : decode cL_law 1313 = .ok (.aload_n 0, 1) := by decide +kernel
theorem dL_law_1314 : decode cL_law 1314 = .ok (.iload 4, 2) := by decide +kernel
theorem dL_law_1316 : decode cL_law 1316 = .ok (.iconst 1, 1) := by decide +kernel
theorem dL_law_1317 : decode cL_law 1317 = .ok (.iadd, 1) := by decide +kernel
theorem dL_law_1318 : decode cL_law 1318 = .ok (.iaload, 1) := by decide +kernel
theorem dL_law_1319 : decode cL_law 1319 = .ok (.invokevirtual 151, 3) := by decide +kernel
theorem dL_law_1322 : decode cL_law 1322 = .ok (.istore 6, 2) := by decide +kernel
theorem dL_law_1324 : decode cL_law 1324 = .ok (.aload_n 2, 1) := by decide +kernel
theorem dL_law_1325 : decode cL_law 1325 = .ok (.invokevirtual 94, 3) := by decide +kernel
theorem dL_law_1328 : decode cL_law 1328 = .ok (.iload 5, 2) := by decide +kernel
theorem dL_law_1330 : decode cL_law 1330 = .ok (.if_icmp .eq 5, 3) := by decide +kernel
theorem dL_law_1333 : decode cL_law 1333 = .ok (.iconst 0, 1) := by decide +kernel
theorem dL_law_1334 : decode cL_law 1334 = .ok (.ireturn, 1) := by decide +kernel
theorem dL_law_1335 : decode cL_law 1335 = .ok (.iload 5, 2) := by decide +kernel
theorem dL_law_1337 : decode cL_law 1337 = .ok (.ifCond .ne 15, 3) := by decide +kernel
theorem dL_law_1340 : decode cL_law 1340 = .ok (.aload_n 3, 1) := by decide +kernel
theorem dL_law_1341 : decode cL_law 1341 = .ok (.iconst 0, 1) := by decide +kernel
theorem dL_law_1342 : decode cL_law 1342 = .ok (.laload, 1) := by decide +kernel
theorem dL_law_1343 : decode cL_law 1343 = .ok (.iload 6, 2) := by decide +kernel
theorem dL_law_1345 : decode cL_law 1345 = .ok (.i2l, 1) := by decide +kernel
theorem dL_law_1346 : decode cL_law 1346 = .ok (.lcmp, 1) := by decide +kernel
theorem dL_law_1347 : decode cL_law 1347 = .ok (.ifCond .eq 5, 3) := by decide +kernel
theorem dL_law_1350 : decode cL_law 1350 = .ok (.iconst 0, 1) := by decide +kernel
theorem dL_law_1351 : decode cL_law 1351 = .ok (.ireturn, 1) := by decide +kernel
theorem dL_law_1352 : decode cL_law 1352 = .ok (.goto 196, 3) := by decide +kernel
theorem dL_law_1355 : decode cL_law 1355 = .ok (.aload_n 1, 1) := by decide +kernel
theorem dL_law_1356 : decode cL_law 1356 = .ok (.aload_n 0, 1) := by decide +kernel
theorem dL_law_1357 : decode cL_law 1357 = .ok (.iload 4, 2) := by decide +kernel
theorem dL_law_1359 : decode cL_law 1359 = .ok (.iconst 1, 1) := by decide +kernel
theorem dL_law_1360 : decode cL_law 1360 = .ok (.iadd, 1) := by decide +kernel
theorem dL_law_1361 : decode cL_law 1361 = .ok (.iaload, 1) := by decide +kernel
theorem dL_law_1362 : decode cL_law 1362 = .ok (.aload_n 0, 1) := by decide +kernel
theorem dL_law_1363 : decode cL_law 1363 = .ok (.iload 4, 2) := by decide +kernel
theorem dL_law_1365 : decode cL_law 1365 = .ok (.iconst 2, 1) := by decide +kernel
theorem dL_law_1366 : decode cL_law 1366 = .ok (.iadd, 1) := by decide +kernel
theorem dL_law_1367 : decode cL_law 1367 = .ok (.iaload, 1) := by decide +kernel
theorem dL_law_1368 : decode cL_law 1368 = .ok (.aload_n 3, 1) := by decide +kernel
theorem dL_law_1369 : decode cL_law 1369 = .ok (.invokestatic 152, 3) := by decide +kernel
theorem dL_law_1372 : decode cL_law 1372 = .ok (.istore 5, 2) := by decide +kernel
theorem dL_law_1374 : decode cL_law 1374 = .ok (.aload_n 2, 1) := by decide +kernel
theorem dL_law_1375 : decode cL_law 1375 = .ok (.aload_n 0, 1) := by decide +kernel
theorem dL_law_1376 : decode cL_law 1376 = .ok (.iload 4, 2) := by decide +kernel
theorem dL_law_1378 : decode cL_law 1378 = .ok (.iconst 1, 1) := by decide +kernel
theorem dL_law_1379 : decode cL_law 1379 = .ok (.iadd, 1) := by decide +kernel
theorem dL_law_1380 : decode cL_law 1380 = .ok (.iaload, 1) := by decide +kernel
theorem dL_law_1381 : decode cL_law 1381 = .ok (.aload_n 0, 1) := by decide +kernel
theorem dL_law_1382 : decode cL_law 1382 = .ok (.iload 4, 2) := by decide +kernel
theorem dL_law_1384 : decode cL_law 1384 = .ok (.iconst 2, 1) := by decide +kernel
theorem dL_law_1385 : decode cL_law 1385 = .ok (.iadd, 1) := by decide +kernel
theorem dL_law_1386 : decode cL_law 1386 = .ok (.iaload, 1) := by decide +kernel
theorem dL_law_1387 : decode cL_law 1387 = .ok (.invokevirtual 154, 3) := by decide +kernel
theorem dL_law_1390 : decode cL_law 1390 = .ok (.istore 6, 2) := by decide +kernel
theorem dL_law_1392 : decode cL_law 1392 = .ok (.aload_n 2, 1) := by decide +kernel
theorem dL_law_1393 : decode cL_law 1393 = .ok (.invokevirtual 94, 3) := by decide +kernel
theorem dL_law_1396 : decode cL_law 1396 = .ok (.iload 5, 2) := by decide +kernel
theorem dL_law_1398 : decode cL_law 1398 = .ok (.if_icmp .eq 5, 3) := by decide +kernel
theorem dL_law_1401 : decode cL_law 1401 = .ok (.iconst 0, 1) := by decide +kernel
theorem dL_law_1402 : decode cL_law 1402 = .ok (.ireturn, 1) := by decide +kernel
theorem dL_law_1403 : decode cL_law 1403 = .ok (.iload 5, 2) := by decide +kernel
theorem dL_law_1405 : decode cL_law 1405 = .ok (.ifCond .ne 15, 3) := by decide +kernel
theorem dL_law_1408 : decode cL_law 1408 = .ok (.aload_n 3, 1) := by decide +kernel
theorem dL_law_1409 : decode cL_law 1409 = .ok (.iconst 0, 1) := by decide +kernel
theorem dL_law_1410 : decode cL_law 1410 = .ok (.laload, 1) := by decide +kernel
theorem dL_law_1411 : decode cL_law 1411 = .ok (.iload 6, 2) := by decide +kernel
theorem dL_law_1413 : decode cL_law 1413 = .ok (.i2l, 1) := by decide +kernel
theorem dL_law_1414 : decode cL_law 1414 = .ok (.lcmp, 1) := by decide +kernel
theorem dL_law_1415 : decode cL_law 1415 = .ok (.ifCond .eq 5, 3) := by decide +kernel
theorem dL_law_1418 : decode cL_law 1418 = .ok (.iconst 0, 1) := by decide +kernel
theorem dL_law_1419 : decode cL_law 1419 = .ok (.ireturn, 1) := by decide +kernel
theorem dL_law_1420 : decode cL_law 1420 = .ok (.goto 128, 3) := by decide +kernel
theorem dL_law_1423 : decode cL_law 1423 = .ok (.aload_n 1, 1) := by decide +kernel
theorem dL_law_1424 : decode cL_law 1424 = .ok (.aload_n 0, 1) := by decide +kernel
theorem dL_law_1425 : decode cL_law 1425 = .ok (.iload 4, 2) := by decide +kernel
theorem dL_law_1427 : decode cL_law 1427 = .ok (.iconst 1, 1) := by decide +kernel
theorem dL_law_1428 : decode cL_law 1428 = .ok (.iadd, 1) := by decide +kernel
theorem dL_law_1429 : decode cL_law 1429 = .ok (.iaload, 1) := by decide +kernel
theorem dL_law_1430 : decode cL_law 1430 = .ok (.aload_n 3, 1) := by decide +kernel
theorem dL_law_1431 : decode cL_law 1431 = .ok (.invokestatic 155, 3) := by decide +kernel
theorem dL_law_1434 : decode cL_law 1434 = .ok (.istore 5, 2) := by decide +kernel
theorem dL_law_1436 : decode cL_law 1436 = .ok (.aload_n 2, 1) := by decide +kernel
theorem dL_law_1437 : decode cL_law 1437 = .ok (.aload_n 0, 1) := by decide +kernel
theorem dL_law_1438 : decode cL_law 1438 = .ok (.iload 4, 2) := by decide +kernel
theorem dL_law_1440 : decode cL_law 1440 = .ok (.iconst 1, 1) := by decide +kernel
theorem dL_law_1441 : decode cL_law 1441 = .ok (.iadd, 1) := by decide +kernel
theorem dL_law_1442 : decode cL_law 1442 = .ok (.iaload, 1) := by decide +kernel
theorem dL_law_1443 : decode cL_law 1443 = .ok (.invokevirtual 157, 3) := by decide +kernel
theorem dL_law_1446 : decode cL_law 1446 = .ok (.istore 6, 2) := by decide +kernel
theorem dL_law_1448 : decode cL_law 1448 = .ok (.aload_n 2, 1) := by decide +kernel
theorem dL_law_1449 : decode cL_law 1449 = .ok (.invokevirtual 94, 3) := by decide +kernel
theorem dL_law_1452 : decode cL_law 1452 = .ok (.iload 5, 2) := by decide +kernel
theorem dL_law_1454 : decode cL_law 1454 = .ok (.if_icmp .eq 5, 3) := by decide +kernel
theorem dL_law_1457 : decode cL_law 1457 = .ok (.iconst 0, 1) := by decide +kernel
theorem dL_law_1458 : decode cL_law 1458 = .ok (.ireturn, 1) := by decide +kernel
theorem dL_law_1459 : decode cL_law 1459 = .ok (.iload 5, 2) := by decide +kernel
theorem dL_law_1461 : decode cL_law 1461 = .ok (.ifCond .ne 15, 3) := by decide +kernel
theorem dL_law_1464 : decode cL_law 1464 = .ok (.aload_n 3, 1) := by decide +kernel
theorem dL_law_1465 : decode cL_law 1465 = .ok (.iconst 0, 1) := by decide +kernel
theorem dL_law_1466 : decode cL_law 1466 = .ok (.laload, 1) := by decide +kernel
theorem dL_law_1467 : decode cL_law 1467 = .ok (.iload 6, 2) := by decide +kernel
theorem dL_law_1469 : decode cL_law 1469 = .ok (.i2l, 1) := by decide +kernel
theorem dL_law_1470 : decode cL_law 1470 = .ok (.lcmp, 1) := by decide +kernel
theorem dL_law_1471 : decode cL_law 1471 = .ok (.ifCond .eq 5, 3) := by decide +kernel
theorem dL_law_1474 : decode cL_law 1474 = .ok (.iconst 0, 1) := by decide +kernel
theorem dL_law_1475 : decode cL_law 1475 = .ok (.ireturn, 1) := by decide +kernel
theorem dL_law_1476 : decode cL_law 1476 = .ok (.goto 72, 3) := by decide +kernel
theorem dL_law_1479 : decode cL_law 1479 = .ok (.aload_n 1, 1) := by decide +kernel
theorem dL_law_1480 : decode cL_law 1480 = .ok (.aload_n 0, 1) := by decide +kernel
theorem dL_law_1481 : decode cL_law 1481 = .ok (.iload 4, 2) := by decide +kernel
theorem dL_law_1483 : decode cL_law 1483 = .ok (.iconst 1, 1) := by decide +kernel
theorem dL_law_1484 : decode cL_law 1484 = .ok (.iadd, 1) := by decide +kernel
theorem dL_law_1485 : decode cL_law 1485 = .ok (.iaload, 1) := by decide +kernel
theorem dL_law_1486 : decode cL_law 1486 = .ok (.aload_n 3, 1) := by decide +kernel
theorem dL_law_1487 : decode cL_law 1487 = .ok (.invokestatic 158, 3) := by decide +kernel
theorem dL_law_1490 : decode cL_law 1490 = .ok (.istore 5, 2) := by decide +kernel
theorem dL_law_1492 : decode cL_law 1492 = .ok (.aload_n 2, 1) := by decide +kernel
theorem dL_law_1493 : decode cL_law 1493 = .ok (.aload_n 0, 1) := by decide +kernel
theorem dL_law_1494 : decode cL_law 1494 = .ok (.iload 4, 2) := by decide +kernel
theorem dL_law_1496 : decode cL_law 1496 = .ok (.iconst 1, 1) := by decide +kernel
theorem dL_law_1497 : decode cL_law 1497 = .ok (.iadd, 1) := by decide +kernel
theorem dL_law_1498 : decode cL_law 1498 = .ok (.iaload, 1) := by decide +kernel
theorem dL_law_1499 : decode cL_law 1499 = .ok (.invokevirtual 160, 3) := by decide +kernel
theorem dL_law_1502 : decode cL_law 1502 = .ok (.istore 6, 2) := by decide +kernel
theorem dL_law_1504 : decode cL_law 1504 = .ok (.aload_n 2, 1) := by decide +kernel
theorem dL_law_1505 : decode cL_law 1505 = .ok (.invokevirtual 94, 3) := by decide +kernel
theorem dL_law_1508 : decode cL_law 1508 = .ok (.iload 5, 2) := by decide +kernel
theorem dL_law_1510 : decode cL_law 1510 = .ok (.if_icmp .eq 5, 3) := by decide +kernel
theorem dL_law_1513 : decode cL_law 1513 = .ok (.iconst 0, 1) := by decide +kernel
theorem dL_law_1514 : decode cL_law 1514 = .ok (.ireturn, 1) := by decide +kernel
theorem dL_law_1515 : decode cL_law 1515 = .ok (.iload 5, 2) := by decide +kernel
theorem dL_law_1517 : decode cL_law 1517 = .ok (.ifCond .ne 15, 3) := by decide +kernel
theorem dL_law_1520 : decode cL_law 1520 = .ok (.aload_n 3, 1) := by decide +kernel
theorem dL_law_1521 : decode cL_law 1521 = .ok (.iconst 0, 1) := by decide +kernel
theorem dL_law_1522 : decode cL_law 1522 = .ok (.laload, 1) := by decide +kernel
theorem dL_law_1523 : decode cL_law 1523 = .ok (.iload 6, 2) := by decide +kernel
theorem dL_law_1525 : decode cL_law 1525 = .ok (.i2l, 1) := by decide +kernel
theorem dL_law_1526 : decode cL_law 1526 = .ok (.lcmp, 1) := by decide +kernel
theorem dL_law_1527 : decode cL_law 1527 = .ok (.ifCond .eq 5, 3) := by decide +kernel
theorem dL_law_1530 : decode cL_law 1530 = .ok (.iconst 0, 1) := by decide +kernel
theorem dL_law_1531 : decode cL_law 1531 = .ok (.ireturn, 1) := by decide +kernel
theorem dL_law_1532 : decode cL_law 1532 = .ok (.goto 16, 3) := by decide +kernel
theorem dL_law_1535 : decode cL_law 1535 = .ok (.aload_n 1, 1) := by decide +kernel
theorem dL_law_1536 : decode cL_law 1536 = .ok (.invokevirtual 161, 3) := by decide +kernel
theorem dL_law_1539 : decode cL_law 1539 = .ok (.aload_n 2, 1) := by decide +kernel
theorem dL_law_1540 : decode cL_law 1540 = .ok (.invokevirtual 165, 3) := by decide +kernel
theorem dL_law_1543 : decode cL_law 1543 = .ok (.if_icmp .eq 5, 3) := by decide +kernel
theorem dL_law_1546 : decode cL_law 1546 = .ok (.iconst 0, 1) := by decide +kernel
theorem dL_law_1547 : decode cL_law 1547 = .ok (.ireturn, 1) := by decide +kernel
theorem dL_law_1548 : decode cL_law 1548 = .ok (.iinc 4 8, 3) := by decide +kernel
theorem dL_law_1551 : decode cL_law 1551 = .ok (.goto (-1528), 3) := by decide +kernel
theorem dL_law_1554 : decode cL_law 1554 = .ok (.iconst 1, 1) := by decide +kernel
theorem dL_law_1555 : decode cL_law 1555 = .ok (.ireturn, 1) := by decide +kernel
end
section
theorem dX0_init_0 : decode cX0_init 0 = .ok (.aload_n 0, 1) := by decide +kernel
theorem dX0_init_1 : decode cX0_init 1 = .ok (.invokespecial 1, 3) := by decide +kernel
theorem dX0_init_4 : decode cX0_init 4 = .ok (.aload_n 0, 1) := by decide +kernel
theorem dX0_init_5 : decode cX0_init 5 = .ok (.iload_n 1, 1) := by decide +kernel
theorem dX0_init_6 : decode cX0_init 6 = .ok (.putfield 7, 3) := by decide +kernel
theorem dX0_init_9 : decode cX0_init 9 = .ok (.aload_n 0, 1) := by decide +kernel
theorem dX0_init_10 : decode cX0_init 10 = .ok (.iload_n 2, 1) := by decide +kernel
theorem dX0_init_11 : decode cX0_init 11 = .ok (.putfield 13, 3) := by decide +kernel
theorem dX0_init_14 : decode cX0_init 14 = .ok (.return_, 1) := by decide +kernel
theorem dX0_canBeDrawn_0 : decode cX0_canBeDrawn 0 = .ok (.lconst 1, 1) := by decide +kernel
theorem dX0_canBeDrawn_1 : decode cX0_canBeDrawn 1 = .ok (.iload_n 2, 1) := by decide +kernel
theorem dX0_canBeDrawn_2 : decode cX0_canBeDrawn 2 = .ok (.lshl, 1) := by decide +kernel
theorem dX0_canBeDrawn_3 : decode cX0_canBeDrawn 3 = .ok (.lstore_n 3, 1) := by decide +kernel
theorem dX0_canBeDrawn_4 : decode cX0_canBeDrawn 4 = .ok (.lload_n 3, 1) := by decide +kernel
theorem dX0_canBeDrawn_5 : decode cX0_canBeDrawn 5 = .ok (.lload_n 3, 1) := by decide +kernel
theorem dX0_canBeDrawn_6 : decode cX0_canBeDrawn 6 = .ok (.iconst 1, 1) := by decide +kernel
theorem dX0_canBeDrawn_7 : decode cX0_canBeDrawn 7 = .ok (.lshl, 1) := by decide +kernel
theorem dX0_canBeDrawn_8 : decode cX0_canBeDrawn 8 = .ok (.lor, 1) := by decide +kernel
theorem dX0_canBeDrawn_9 : decode cX0_canBeDrawn 9 = .ok (.lload_n 3, 1) := by decide +kernel
theorem dX0_canBeDrawn_10 : decode cX0_canBeDrawn 10 = .ok (.iconst 1, 1) := by decide +kernel
theorem dX0_canBeDrawn_11 : decode cX0_canBeDrawn 11 = .ok (.lushr, 1) := by decide +kernel
theorem dX0_canBeDrawn_12 : decode cX0_canBeDrawn 12 = .ok (.lor, 1) := by decide +kernel
theorem dX0_canBeDrawn_13 : decode cX0_canBeDrawn 13 = .ok (.lstore 5, 2) := by decide +kernel
theorem dX0_canBeDrawn_15 : decode cX0_canBeDrawn 15 = .ok (.aload_n 0, 1) := by decide +kernel
theorem dX0_canBeDrawn_16 : decode cX0_canBeDrawn 16 = .ok (.getfield 13, 3) := by decide +kernel
theorem dX0_canBeDrawn_19 : decode cX0_canBeDrawn 19 = .ok (.iload_n 1, 1) := by decide +kernel
theorem dX0_canBeDrawn_20 : decode cX0_canBeDrawn 20 = .ok (.if_icmp .ne 19, 3) := by decide +kernel
theorem dX0_canBeDrawn_23 : decode cX0_canBeDrawn 23 = .ok (.aload_n 0, 1) := by decide +kernel
theorem dX0_canBeDrawn_24 : decode cX0_canBeDrawn 24 = .ok (.getfield 16, 3) := by decide +kernel
theorem dX0_canBeDrawn_27 : decode cX0_canBeDrawn 27 = .ok (.lload 5, 2) := by decide +kernel
theorem dX0_canBeDrawn_29 : decode cX0_canBeDrawn 29 = .ok (.land, 1) := by decide +kernel
theorem dX0_canBeDrawn_30 : decode cX0_canBeDrawn 30 = .ok (.lconst 0, 1) := by decide +kernel
theorem dX0_canBeDrawn_31 : decode cX0_canBeDrawn 31 = .ok (.lcmp, 1) := by decide +kernel
theorem dX0_canBeDrawn_32 : decode cX0_canBeDrawn 32 = .ok (.ifCond .ne 7, 3) := by decide +kernel
theorem dX0_canBeDrawn_35 : decode cX0_canBeDrawn 35 = .ok (.iconst 1, 1) := by decide +kernel
theorem dX0_canBeDrawn_36 : decode cX0_canBeDrawn 36 = .ok (.goto 4, 3) := by decide +kernel
theorem dX0_canBeDrawn_39 : decode cX0_canBeDrawn 39 = .ok (.iconst 0, 1) := by decide +kernel
theorem dX0_canBeDrawn_40 : decode cX0_canBeDrawn 40 = .ok (.ireturn, 1) := by decide +kernel
theorem dX0_noteDraw_0 : decode cX0_noteDraw 0 = .ok (.aload_n 0, 1) := by decide +kernel
theorem dX0_noteDraw_1 : decode cX0_noteDraw 1 = .ok (.dup, 1) := by decide +kernel
theorem dX0_noteDraw_2 : decode cX0_noteDraw 2 = .ok (.getfield 16, 3) := by decide +kernel
theorem dX0_noteDraw_5 : decode cX0_noteDraw 5 = .ok (.lconst 1, 1) := by decide +kernel
theorem dX0_noteDraw_6 : decode cX0_noteDraw 6 = .ok (.iload_n 1, 1) := by decide +kernel
theorem dX0_noteDraw_7 : decode cX0_noteDraw 7 = .ok (.lshl, 1) := by decide +kernel
theorem dX0_noteDraw_8 : decode cX0_noteDraw 8 = .ok (.lor, 1) := by decide +kernel
theorem dX0_noteDraw_9 : decode cX0_noteDraw 9 = .ok (.putfield 16, 3) := by decide +kernel
theorem dX0_noteDraw_12 : decode cX0_noteDraw 12 = .ok (.aload_n 0, 1) := by decide +kernel
theorem dX0_noteDraw_13 : decode cX0_noteDraw 13 = .ok (.dup, 1) := by decide +kernel
theorem dX0_noteDraw_14 : decode cX0_noteDraw 14 = .ok (.getfield 20, 3) := by decide +kernel
theorem dX0_noteDraw_17 : decode cX0_noteDraw 17 = .ok (.iconst 1, 1) := by decide +kernel
theorem dX0_noteDraw_18 : decode cX0_noteDraw 18 = .ok (.iadd, 1) := by decide +kernel
theorem dX0_noteDraw_19 : decode cX0_noteDraw 19 = .ok (.putfield 20, 3) := by decide +kernel
theorem dX0_noteDraw_22 : decode cX0_noteDraw 22 = .ok (.return_, 1) := by decide +kernel
theorem dX0_hasAlwaysRested_0 : decode cX0_hasAlwaysRested 0 = .ok (.aload_n 0, 1) := by decide +kernel
theorem dX0_hasAlwaysRested_1 : decode cX0_hasAlwaysRested 1 = .ok (.getfield 16, 3) := by decide +kernel
theorem dX0_hasAlwaysRested_4 : decode cX0_hasAlwaysRested 4 = .ok (.invokestatic 23, 3) := by decide +kernel
theorem dX0_hasAlwaysRested_7 : decode cX0_hasAlwaysRested 7 = .ok (.aload_n 0, 1) := by decide +kernel
theorem dX0_hasAlwaysRested_8 : decode cX0_hasAlwaysRested 8 = .ok (.getfield 20, 3) := by decide +kernel
theorem dX0_hasAlwaysRested_11 : decode cX0_hasAlwaysRested 11 = .ok (.if_icmp .ne 23, 3) := by decide +kernel
theorem dX0_hasAlwaysRested_14 : decode cX0_hasAlwaysRested 14 = .ok (.aload_n 0, 1) := by decide +kernel
theorem dX0_hasAlwaysRested_15 : decode cX0_hasAlwaysRested 15 = .ok (.getfield 16, 3) := by decide +kernel
theorem dX0_hasAlwaysRested_18 : decode cX0_hasAlwaysRested 18 = .ok (.aload_n 0, 1) := by decide +kernel
theorem dX0_hasAlwaysRested_19 : decode cX0_hasAlwaysRested 19 = .ok (.getfield 16, 3) := by decide +kernel
theorem dX0_hasAlwaysRested_22 : decode cX0_hasAlwaysRested 22 = .ok (.iconst 1, 1) := by decide +kernel
theorem dX0_hasAlwaysRested_23 : decode cX0_hasAlwaysRested 23 = .ok (.lshl, 1) := by decide +kernel
theorem dX0_hasAlwaysRested_24 : decode cX0_hasAlwaysRested 24 = .ok (.land, 1) := by decide +kernel
theorem dX0_hasAlwaysRested_25 : decode cX0_hasAlwaysRested 25 = .ok (.lconst 0, 1) := by decide +kernel
theorem dX0_hasAlwaysRested_26 : decode cX0_hasAlwaysRested 26 = .ok (.lcmp, 1) := by decide +kernel
theorem dX0_hasAlwaysRested_27 : decode cX0_hasAlwaysRested 27 = .ok (.ifCond .ne 7, 3) := by decide +kernel
theorem dX0_hasAlwaysRested_30 : decode cX0_hasAlwaysRested 30 = .ok (.iconst 1, 1) := by decide +kernel
theorem dX0_hasAlwaysRested_31 : decode cX0_hasAlwaysRested 31 = .ok (.goto 4, 3) := by decide +kernel
theorem dX0_hasAlwaysRested_34 : decode cX0_hasAlwaysRested 34 = .ok (.iconst 0, 1) := by decide +kernel
theorem dX0_hasAlwaysRested_35 : decode cX0_hasAlwaysRested 35 = .ok (.ireturn, 1) := by decide +kernel
theorem dX0_isAheadOf_0 : decode cX0_isAheadOf 0 = .ok (.aload_n 0, 1) := by decide +kernel
theorem dX0_isAheadOf_1 : decode cX0_isAheadOf 1 = .ok (.getfield 29, 3) := by decide +kernel
theorem dX0_isAheadOf_4 : decode cX0_isAheadOf 4 = .ok (.aload_n 1, 1) := by decide +kernel
theorem dX0_isAheadOf_5 : decode cX0_isAheadOf 5 = .ok (.getfield 32, 3) := by decide +kernel
theorem dX0_isAheadOf_8 : decode cX0_isAheadOf 8 = .ok (.imul, 1) := by decide +kernel
theorem dX0_isAheadOf_9 : decode cX0_isAheadOf 9 = .ok (.aload_n 1, 1) := by decide +kernel
theorem dX0_isAheadOf_10 : decode cX0_isAheadOf 10 = .ok (.getfield 29, 3) := by decide +kernel
theorem dX0_isAheadOf_13 : decode cX0_isAheadOf 13 = .ok (.aload_n 0, 1) := by decide +kernel
theorem dX0_isAheadOf_14 : decode cX0_isAheadOf 14 = .ok (.getfield 32, 3) := by decide +kernel
theorem dX0_isAheadOf_17 : decode cX0_isAheadOf 17 = .ok (.imul, 1) := by decide +kernel
theorem dX0_isAheadOf_18 : decode cX0_isAheadOf 18 = .ok (.invokestatic 35, 3) := by decide +kernel
theorem dX0_isAheadOf_21 : decode cX0_isAheadOf 21 = .ok (.istore_n 2, 1) := by decide +kernel
theorem dX0_isAheadOf_22 : decode cX0_isAheadOf 22 = .ok (.iload_n 2, 1) := by decide +kernel
theorem dX0_isAheadOf_23 : decode cX0_isAheadOf 23 = .ok (.ifCond .eq 13, 3) := by decide +kernel
theorem dX0_isAheadOf_26 : decode cX0_isAheadOf 26 = .ok (.iload_n 2, 1) := by decide +kernel
theorem dX0_isAheadOf_27 : decode cX0_isAheadOf 27 = .ok (.ifCond .le 7, 3) := by decide +kernel
theorem dX0_isAheadOf_30 : decode cX0_isAheadOf 30 = .ok (.iconst 1, 1) := by decide +kernel
theorem dX0_isAheadOf_31 : decode cX0_isAheadOf 31 = .ok (.goto 4, 3) := by decide +kernel
theorem dX0_isAheadOf_34 : decode cX0_isAheadOf 34 = .ok (.iconst 0, 1) := by decide +kernel
theorem dX0_isAheadOf_35 : decode cX0_isAheadOf 35 = .ok (.ireturn, 1) := by decide +kernel
theorem dX0_isAheadOf_36 : decode cX0_isAheadOf 36 = .ok (.aload_n 0, 1) := by decide +kernel
theorem dX0_isAheadOf_37 : decode cX0_isAheadOf 37 = .ok (.getfield 41, 3) := by decide +kernel
theorem dX0_isAheadOf_40 : decode cX0_isAheadOf 40 = .ok (.aload_n 1, 1) := by decide +kernel
theorem dX0_isAheadOf_41 : decode cX0_isAheadOf 41 = .ok (.getfield 32, 3) := by decide +kernel
theorem dX0_isAheadOf_44 : decode cX0_isAheadOf 44 = .ok (.imul, 1) := by decide +kernel
theorem dX0_isAheadOf_45 : decode cX0_isAheadOf 45 = .ok (.aload_n 1, 1) := by decide +kernel
theorem dX0_isAheadOf_46 : decode cX0_isAheadOf 46 = .ok (.getfield 41, 3) := by decide +kernel
theorem dX0_isAheadOf_49 : decode cX0_isAheadOf 49 = .ok (.aload_n 0, 1) := by decide +kernel
theorem dX0_isAheadOf_50 : decode cX0_isAheadOf 50 = .ok (.getfield 32, 3) := by decide +kernel
theorem dX0_isAheadOf_53 : decode cX0_isAheadOf 53 = .ok (.imul, 1) := by decide +kernel
theorem dX0_isAheadOf_54 : decode cX0_isAheadOf 54 = .ok (.invokestatic 35, 3) := by decide +kernel
theorem dX0_isAheadOf_57 : decode cX0_isAheadOf 57 = .ok (.istore_n 3, 1) := by decide +kernel
theorem dX0_isAheadOf_58 : decode cX0_isAheadOf 58 = .ok (.iload_n 3, 1) := by decide +kernel
theorem dX0_isAheadOf_59 : decode cX0_isAheadOf 59 = .ok (.ifCond .eq 13, 3) := by decide +kernel
theorem dX0_isAheadOf_62 : decode cX0_isAheadOf 62 = .ok (.iload_n 3, 1) := by decide +kernel
theorem dX0_isAheadOf_63 : decode cX0_isAheadOf 63 = .ok (.ifCond .le 7, 3) := by decide +kernel
theorem dX0_isAheadOf_66 : decode cX0_isAheadOf 66 = .ok (.iconst 1, 1) := by decide +kernel
theorem dX0_isAheadOf_67 : decode cX0_isAheadOf 67 = .ok (.goto 4, 3) := by decide +kernel
theorem dX0_isAheadOf_70 : decode cX0_isAheadOf 70 = .ok (.iconst 0, 1) := by decide +kernel
theorem dX0_isAheadOf_71 : decode cX0_isAheadOf 71 = .ok (.ireturn, 1) := by decide +kernel
theorem dX0_isAheadOf_72 : decode cX0_isAheadOf 72 = .ok (.aload_n 0, 1) := by decide +kernel
theorem dX0_isAheadOf_73 : decode cX0_isAheadOf 73 = .ok (.getfield 7, 3) := by decide +kernel
theorem dX0_isAheadOf_76 : decode cX0_isAheadOf 76 = .ok (.aload_n 1, 1) := by decide +kernel
theorem dX0_isAheadOf_77 : decode cX0_isAheadOf 77 = .ok (.getfield 7, 3) := by decide +kernel
theorem dX0_isAheadOf_80 : decode cX0_isAheadOf 80 = .ok (.if_icmp .ge 7, 3) := by decide +kernel
theorem dX0_isAheadOf_83 : decode cX0_isAheadOf 83 = .ok (.iconst 1, 1) := by decide +kernel
theorem dX0_isAheadOf_84 : decode cX0_isAheadOf 84 = .ok (.goto 4, 3) := by decide +kernel
theorem dX0_isAheadOf_87 : decode cX0_isAheadOf 87 = .ok (.iconst 0, 1) := by decide +kernel
theorem dX0_isAheadOf_88 : decode cX0_isAheadOf 88 = .ok (.ireturn, 1) := by decide +kernel
end
section
theorem dX1_init_0 : decode cX1_init 0 = .ok (.aload_n 0, 1) := by decide +kernel
theorem dX1_init_1 : decode cX1_init 1 = .ok (.invokespecial 3, 3) := by decide +kernel
theorem dX1_init_4 : decode cX1_init 4 = .ok (.aload_n 0, 1) := by decide +kernel
theorem dX1_init_5 : decode cX1_init 5 = .ok (.iload_n 1, 1) := by decide +kernel
theorem dX1_init_6 : decode cX1_init 6 = .ok (.putfield 9, 3) := by decide +kernel
theorem dX1_init_9 : decode cX1_init 9 = .ok (.aload_n 0, 1) := by decide +kernel
theorem dX1_init_10 : decode cX1_init 10 = .ok (.iload_n 2, 1) := by decide +kernel
theorem dX1_init_11 : decode cX1_init 11 = .ok (.putfield 15, 3) := by decide +kernel
theorem dX1_init_14 : decode cX1_init 14 = .ok (.aload_n 0, 1) := by decide +kernel
theorem dX1_init_15 : decode cX1_init 15 = .ok (.iload_n 3, 1) := by decide +kernel
theorem dX1_init_16 : decode cX1_init 16 = .ok (.putfield 18, 3) := by decide +kernel
theorem dX1_init_19 : decode cX1_init 19 = .ok (.aload_n 0, 1) := by decide +kernel
theorem dX1_init_20 : decode cX1_init 20 = .ok (.iconst (-1), 1) := by decide +kernel
theorem dX1_init_21 : decode cX1_init 21 = .ok (.putfield 21, 3) := by decide +kernel
theorem dX1_init_24 : decode cX1_init 24 = .ok (.aload_n 0, 1) := by decide +kernel
theorem dX1_init_25 : decode cX1_init 25 = .ok (.iconst (-1), 1) := by decide +kernel
theorem dX1_init_26 : decode cX1_init 26 = .ok (.putfield 24, 3) := by decide +kernel
theorem dX1_init_29 : decode cX1_init 29 = .ok (.return_, 1) := by decide +kernel
theorem dX1_isPlaced_0 : decode cX1_isPlaced 0 = .ok (.aload_n 0, 1) := by decide +kernel
theorem dX1_isPlaced_1 : decode cX1_isPlaced 1 = .ok (.getfield 21, 3) := by decide +kernel
theorem dX1_isPlaced_4 : decode cX1_isPlaced 4 = .ok (.iconst (-1), 1) := by decide +kernel
theorem dX1_isPlaced_5 : decode cX1_isPlaced 5 = .ok (.if_icmp .eq 7, 3) := by decide +kernel
theorem dX1_isPlaced_8 : decode cX1_isPlaced 8 = .ok (.iconst 1, 1) := by decide +kernel
theorem dX1_isPlaced_9 : decode cX1_isPlaced 9 = .ok (.goto 4, 3) := by decide +kernel
theorem dX1_isPlaced_12 : decode cX1_isPlaced 12 = .ok (.iconst 0, 1) := by decide +kernel
theorem dX1_isPlaced_13 : decode cX1_isPlaced 13 = .ok (.ireturn, 1) := by decide +kernel
theorem dX1_beastNumber_0 : decode cX1_beastNumber 0 = .ok (.aload_n 0, 1) := by decide +kernel
theorem dX1_beastNumber_1 : decode cX1_beastNumber 1 = .ok (.getfield 27, 3) := by decide +kernel
theorem dX1_beastNumber_4 : decode cX1_beastNumber 4 = .ok (.ifnonnull 7, 3) := by decide +kernel
theorem dX1_beastNumber_7 : decode cX1_beastNumber 7 = .ok (.iconst (-1), 1) := by decide +kernel
theorem dX1_beastNumber_8 : decode cX1_beastNumber 8 = .ok (.goto 10, 3) := by decide +kernel
theorem dX1_beastNumber_11 : decode cX1_beastNumber 11 = .ok (.aload_n 0, 1) := by decide +kernel
theorem dX1_beastNumber_12 : decode cX1_beastNumber 12 = .ok (.getfield 27, 3) := by decide +kernel
theorem dX1_beastNumber_15 : decode cX1_beastNumber 15 = .ok (.getfield 31, 3) := by decide +kernel
theorem dX1_beastNumber_18 : decode cX1_beastNumber 18 = .ok (.ireturn, 1) := by decide +kernel
theorem dX1_takeRide_0 : decode cX1_takeRide 0 = .ok (.aload_n 0, 1) := by decide +kernel
theorem dX1_takeRide_1 : decode cX1_takeRide 1 = .ok (.iconst 0, 1) := by decide +kernel
theorem dX1_takeRide_2 : decode cX1_takeRide 2 = .ok (.putfield 36, 3) := by decide +kernel
theorem dX1_takeRide_5 : decode cX1_takeRide 5 = .ok (.aload_n 0, 1) := by decide +kernel
theorem dX1_takeRide_6 : decode cX1_takeRide 6 = .ok (.iload_n 1, 1) := by decide +kernel
theorem dX1_takeRide_7 : decode cX1_takeRide 7 = .ok (.putfield 40, 3) := by decide +kernel
theorem dX1_takeRide_10 : decode cX1_takeRide 10 = .ok (.aload_n 0, 1) := by decide +kernel
theorem dX1_takeRide_11 : decode cX1_takeRide 11 = .ok (.iload_n 1, 1) := by decide +kernel
theorem dX1_takeRide_12 : decode cX1_takeRide 12 = .ok (.ifCond .eq 9, 3) := by decide +kernel
theorem dX1_takeRide_15 : decode cX1_takeRide 15 = .ok (.iload_n 2, 1) := by decide +kernel
theorem dX1_takeRide_16 : decode cX1_takeRide 16 = .ok (.iload_n 3, 1) := by decide +kernel
theorem dX1_takeRide_17 : decode cX1_takeRide 17 = .ok (.iadd, 1) := by decide +kernel
theorem dX1_takeRide_18 : decode cX1_takeRide 18 = .ok (.goto 4, 3) := by decide +kernel
theorem dX1_takeRide_21 : decode cX1_takeRide 21 = .ok (.iconst 0, 1) := by decide +kernel
theorem dX1_takeRide_22 : decode cX1_takeRide 22 = .ok (.putfield 24, 3) := by decide +kernel
theorem dX1_takeRide_25 : decode cX1_takeRide 25 = .ok (.aload_n 0, 1) := by decide +kernel
theorem dX1_takeRide_26 : decode cX1_takeRide 26 = .ok (.iload_n 1, 1) := by decide +kernel
theorem dX1_takeRide_27 : decode cX1_takeRide 27 = .ok (.ifCond .eq 20, 3) := by decide +kernel
theorem dX1_takeRide_30 : decode cX1_takeRide 30 = .ok (.iload_n 3, 1) := by decide +kernel
theorem dX1_takeRide_31 : decode cX1_takeRide 31 = .ok (.bipush 20, 2) := by decide +kernel
theorem dX1_takeRide_33 : decode cX1_takeRide 33 = .ok (.if_icmp .ge 14, 3) := by decide +kernel
theorem dX1_takeRide_36 : decode cX1_takeRide 36 = .ok (.aload_n 0, 1) := by decide +kernel
theorem dX1_takeRide_37 : decode cX1_takeRide 37 = .ok (.getfield 43, 3) := by decide +kernel
theorem dX1_takeRide_40 : decode cX1_takeRide 40 = .ok (.ifCond .ne 7, 3) := by decide +kernel
theorem dX1_takeRide_43 : decode cX1_takeRide 43 = .ok (.iconst 1, 1) := by decide +kernel
theorem dX1_takeRide_44 : decode cX1_takeRide 44 = .ok (.goto 4, 3) := by decide +kernel
theorem dX1_takeRide_47 : decode cX1_takeRide 47 = .ok (.iconst 0, 1) := by decide +kernel
theorem dX1_takeRide_48 : decode cX1_takeRide 48 = .ok (.putfield 46, 3) := by decide +kernel
theorem dX1_takeRide_51 : decode cX1_takeRide 51 = .ok (.aload_n 0, 1) := by decide +kernel
theorem dX1_takeRide_52 : decode cX1_takeRide 52 = .ok (.getfield 27, 3) := by decide +kernel
theorem dX1_takeRide_55 : decode cX1_takeRide 55 = .ok (.ifnull 50, 3) := by decide +kernel
theorem dX1_takeRide_58 : decode cX1_takeRide 58 = .ok (.aload_n 0, 1) := by decide +kernel
theorem dX1_takeRide_59 : decode cX1_takeRide 59 = .ok (.getfield 27, 3) := by decide +kernel
theorem dX1_takeRide_62 : decode cX1_takeRide 62 = .ok (.dup, 1) := by decide +kernel
theorem dX1_takeRide_63 : decode cX1_takeRide 63 = .ok (.getfield 49, 3) := by decide +kernel
theorem dX1_takeRide_66 : decode cX1_takeRide 66 = .ok (.iconst 1, 1) := by decide +kernel
theorem dX1_takeRide_67 : decode cX1_takeRide 67 = .ok (.iadd, 1) := by decide +kernel
theorem dX1_takeRide_68 : decode cX1_takeRide 68 = .ok (.putfield 49, 3) := by decide +kernel
theorem dX1_takeRide_71 : decode cX1_takeRide 71 = .ok (.aload_n 0, 1) := by decide +kernel
theorem dX1_takeRide_72 : decode cX1_takeRide 72 = .ok (.getfield 27, 3) := by decide +kernel
theorem dX1_takeRide_75 : decode cX1_takeRide 75 = .ok (.dup, 1) := by decide +kernel
theorem dX1_takeRide_76 : decode cX1_takeRide 76 = .ok (.getfield 52, 3) := by decide +kernel
theorem dX1_takeRide_79 : decode cX1_takeRide 79 = .ok (.iload_n 1, 1) := by decide +kernel
theorem dX1_takeRide_80 : decode cX1_takeRide 80 = .ok (.ifCond .eq 7, 3) := by decide +kernel
theorem dX1_takeRide_83 : decode cX1_takeRide 83 = .ok (.iconst 0, 1) := by decide +kernel
theorem dX1_takeRide_84 : decode cX1_takeRide 84 = .ok (.goto 4, 3) := by decide +kernel
theorem dX1_takeRide_87 : decode cX1_takeRide 87 = .ok (.iconst 1, 1) := by decide +kernel
theorem dX1_takeRide_88 : decode cX1_takeRide 88 = .ok (.iadd, 1) := by decide +kernel
theorem dX1_takeRide_89 : decode cX1_takeRide 89 = .ok (.putfield 52, 3) := by decide +kernel
theorem dX1_takeRide_92 : decode cX1_takeRide 92 = .ok (.aload_n 0, 1) := by decide +kernel
theorem dX1_takeRide_93 : decode cX1_takeRide 93 = .ok (.getfield 27, 3) := by decide +kernel
theorem dX1_takeRide_96 : decode cX1_takeRide 96 = .ok (.dup, 1) := by decide +kernel
theorem dX1_takeRide_97 : decode cX1_takeRide 97 = .ok (.getfield 55, 3) := by decide +kernel
theorem dX1_takeRide_100 : decode cX1_takeRide 100 = .ok (.iload_n 3, 1) := by decide +kernel
theorem dX1_takeRide_101 : decode cX1_takeRide 101 = .ok (.iadd, 1) := by decide +kernel
theorem dX1_takeRide_102 : decode cX1_takeRide 102 = .ok (.putfield 55, 3) := by decide +kernel
theorem dX1_takeRide_105 : decode cX1_takeRide 105 = .ok (.return_, 1) := by decide +kernel
theorem dX1_loseScore_0 : decode cX1_loseScore 0 = .ok (.aload_n 0, 1) := by decide +kernel
theorem dX1_loseScore_1 : decode cX1_loseScore 1 = .ok (.iconst (-1), 1) := by decide +kernel
theorem dX1_loseScore_2 : decode cX1_loseScore 2 = .ok (.putfield 24, 3) := by decide +kernel
theorem dX1_loseScore_5 : decode cX1_loseScore 5 = .ok (.aload_n 0, 1) := by decide +kernel
theorem dX1_loseScore_6 : decode cX1_loseScore 6 = .ok (.iconst 0, 1) := by decide +kernel
theorem dX1_loseScore_7 : decode cX1_loseScore 7 = .ok (.putfield 40, 3) := by decide +kernel
theorem dX1_loseScore_10 : decode cX1_loseScore 10 = .ok (.return_, 1) := by decide +kernel
end
section
theorem dX2_init_0 : decode cX2_init 0 = .ok (.aload_n 0, 1) := by decide +kernel
theorem dX2_init_1 : decode cX2_init 1 = .ok (.invokespecial 3, 3) := by decide +kernel
theorem dX2_init_4 : decode cX2_init 4 = .ok (.aload_n 0, 1) := by decide +kernel
theorem dX2_init_5 : decode cX2_init 5 = .ok (.iload_n 1, 1) := by decide +kernel
theorem dX2_init_6 : decode cX2_init 6 = .ok (.putfield 9, 3) := by decide +kernel
theorem dX2_init_9 : decode cX2_init 9 = .ok (.aload_n 0, 1) := by decide +kernel
theorem dX2_init_10 : decode cX2_init 10 = .ok (.iload_n 2, 1) := by decide +kernel
theorem dX2_init_11 : decode cX2_init 11 = .ok (.putfield 15, 3) := by decide +kernel
theorem dX2_init_14 : decode cX2_init 14 = .ok (.aload_n 0, 1) := by decide +kernel
theorem dX2_init_15 : decode cX2_init 15 = .ok (.iload_n 3, 1) := by decide +kernel
theorem dX2_init_16 : decode cX2_init 16 = .ok (.putfield 18, 3) := by decide +kernel
theorem dX2_init_19 : decode cX2_init 19 = .ok (.aload_n 0, 1) := by decide +kernel
theorem dX2_init_20 : decode cX2_init 20 = .ok (.iload 4, 2) := by decide +kernel
theorem dX2_init_22 : decode cX2_init 22 = .ok (.putfield 21, 3) := by decide +kernel
theorem dX2_init_25 : decode cX2_init 25 = .ok (.aload_n 0, 1) := by decide +kernel
theorem dX2_init_26 : decode cX2_init 26 = .ok (.iload 5, 2) := by decide +kernel
theorem dX2_init_28 : decode cX2_init 28 = .ok (.putfield 24, 3) := by decide +kernel
theorem dX2_init_31 : decode cX2_init 31 = .ok (.aload_n 0, 1) := by decide +kernel
theorem dX2_init_32 : decode cX2_init 32 = .ok (.iload 6, 2) := by decide +kernel
theorem dX2_init_34 : decode cX2_init 34 = .ok (.putfield 27, 3) := by decide +kernel
theorem dX2_init_37 : decode cX2_init 37 = .ok (.aload_n 0, 1) := by decide +kernel
theorem dX2_init_38 : decode cX2_init 38 = .ok (.iload 7, 2) := by decide +kernel
theorem dX2_init_40 : decode cX2_init 40 = .ok (.putfield 30, 3) := by decide +kernel
theorem dX2_init_43 : decode cX2_init 43 = .ok (.aload_n 0, 1) := by decide +kernel
theorem dX2_init_44 : decode cX2_init 44 = .ok (.new 33, 3) := by decide +kernel
theorem dX2_init_47 : decode cX2_init 47 = .ok (.dup, 1) := by decide +kernel
theorem dX2_init_48 : decode cX2_init 48 = .ok (.invokespecial 35, 3) := by decide +kernel
theorem dX2_init_51 : decode cX2_init 51 = .ok (.putfield 36, 3) := by decide +kernel
theorem dX2_init_54 : decode cX2_init 54 = .ok (.aload_n 0, 1) := by decide +kernel
theorem dX2_init_55 : decode cX2_init 55 = .ok (.bipush 12, 2) := by decide +kernel
theorem dX2_init_57 : decode cX2_init 57 = .ok (.anewarray 40, 3) := by decide +kernel
theorem dX2_init_60 : decode cX2_init 60 = .ok (.putfield 42, 3) := by decide +kernel
theorem dX2_init_63 : decode cX2_init 63 = .ok (.aload_n 0, 1) := by decide +kernel
theorem dX2_init_64 : decode cX2_init 64 = .ok (.iconst 0, 1) := by decide +kernel
theorem dX2_init_65 : decode cX2_init 65 = .ok (.putfield 46, 3) := by decide +kernel
theorem dX2_init_68 : decode cX2_init 68 = .ok (.return_, 1) := by decide +kernel
theorem dX2_dayOf_0 : decode cX2_dayOf 0 = .ok (.aload_n 0, 1) := by decide +kernel
theorem dX2_dayOf_1 : decode cX2_dayOf 1 = .ok (.getfield 18, 3) := by decide +kernel
theorem dX2_dayOf_4 : decode cX2_dayOf 4 = .ok (.iload_n 1, 1) := by decide +kernel
theorem dX2_dayOf_5 : decode cX2_dayOf 5 = .ok (.iadd, 1) := by decide +kernel
theorem dX2_dayOf_6 : decode cX2_dayOf 6 = .ok (.ireturn, 1) := by decide +kernel
theorem dX2_addEntry_0 : decode cX2_addEntry 0 = .ok (.aload_n 1, 1) := by decide +kernel
theorem dX2_addEntry_1 : decode cX2_addEntry 1 = .ok (.getfield 49, 3) := by decide +kernel
theorem dX2_addEntry_4 : decode cX2_addEntry 4 = .ok (.ifCond .lt 34, 3) := by decide +kernel
theorem dX2_addEntry_7 : decode cX2_addEntry 7 = .ok (.aload_n 1, 1) := by decide +kernel
theorem dX2_addEntry_8 : decode cX2_addEntry 8 = .ok (.getfield 49, 3) := by decide +kernel
theorem dX2_addEntry_11 : decode cX2_addEntry 11 = .ok (.aload_n 0, 1) := by decide +kernel
theorem dX2_addEntry_12 : decode cX2_addEntry 12 = .ok (.getfield 42, 3) := by decide +kernel
theorem dX2_addEntry_15 : decode cX2_addEntry 15 = .ok (.arraylength, 1) := by decide +kernel
theorem dX2_addEntry_16 : decode cX2_addEntry 16 = .ok (.if_icmp .ge 22, 3) := by decide +kernel
theorem dX2_addEntry_19 : decode cX2_addEntry 19 = .ok (.aload_n 0, 1) := by decide +kernel
theorem dX2_addEntry_20 : decode cX2_addEntry 20 = .ok (.getfield 42, 3) := by decide +kernel
theorem dX2_addEntry_23 : decode cX2_addEntry 23 = .ok (.aload_n 1, 1) := by decide +kernel
theorem dX2_addEntry_24 : decode cX2_addEntry 24 = .ok (.getfield 49, 3) := by decide +kernel
theorem dX2_addEntry_27 : decode cX2_addEntry 27 = .ok (.aload_n 1, 1) := by decide +kernel
theorem dX2_addEntry_28 : decode cX2_addEntry 28 = .ok (.aastore, 1) := by decide +kernel
theorem dX2_addEntry_29 : decode cX2_addEntry 29 = .ok (.aload_n 0, 1) := by decide +kernel
theorem dX2_addEntry_30 : decode cX2_addEntry 30 = .ok (.getfield 36, 3) := by decide +kernel
theorem dX2_addEntry_33 : decode cX2_addEntry 33 = .ok (.aload_n 1, 1) := by decide +kernel
theorem dX2_addEntry_34 : decode cX2_addEntry 34 = .ok (.invokevirtual 52, 3) := by decide +kernel
theorem dX2_addEntry_37 : decode cX2_addEntry 37 = .ok (.pop, 1) := by decide +kernel
theorem dX2_addEntry_38 : decode cX2_addEntry 38 = .ok (.return_, 1) := by decide +kernel
theorem dX2_entryOf_0 : decode cX2_entryOf 0 = .ok (.iload_n 1, 1) := by decide +kernel
theorem dX2_entryOf_1 : decode cX2_entryOf 1 = .ok (.ifCond .lt 21, 3) := by decide +kernel
theorem dX2_entryOf_4 : decode cX2_entryOf 4 = .ok (.iload_n 1, 1) := by decide +kernel
theorem dX2_entryOf_5 : decode cX2_entryOf 5 = .ok (.aload_n 0, 1) := by decide +kernel
theorem dX2_entryOf_6 : decode cX2_entryOf 6 = .ok (.getfield 42, 3) := by decide +kernel
theorem dX2_entryOf_9 : decode cX2_entryOf 9 = .ok (.arraylength, 1) := by decide +kernel
theorem dX2_entryOf_10 : decode cX2_entryOf 10 = .ok (.if_icmp .ge 12, 3) := by decide +kernel
theorem dX2_entryOf_13 : decode cX2_entryOf 13 = .ok (.aload_n 0, 1) := by decide +kernel
theorem dX2_entryOf_14 : decode cX2_entryOf 14 = .ok (.getfield 42, 3) := by decide +kernel
theorem dX2_entryOf_17 : decode cX2_entryOf 17 = .ok (.iload_n 1, 1) := by decide +kernel
theorem dX2_entryOf_18 : decode cX2_entryOf 18 = .ok (.aaload, 1) := by decide +kernel
theorem dX2_entryOf_19 : decode cX2_entryOf 19 = .ok (.goto 4, 3) := by decide +kernel
theorem dX2_entryOf_22 : decode cX2_entryOf 22 = .ok (.aconst_null, 1) := by decide +kernel
theorem dX2_entryOf_23 : decode cX2_entryOf 23 = .ok (.areturn, 1) := by decide +kernel
theorem dX2_countIn_0 : decode cX2_countIn 0 = .ok (.iconst 0, 1) := by decide +kernel
theorem dX2_countIn_1 : decode cX2_countIn 1 = .ok (.istore_n 2, 1) := by decide +kernel
theorem dX2_countIn_2 : decode cX2_countIn 2 = .ok (.iconst 0, 1) := by decide +kernel
theorem dX2_countIn_3 : decode cX2_countIn 3 = .ok (.istore_n 3, 1) := by decide +kernel
theorem dX2_countIn_4 : decode cX2_countIn 4 = .ok (.iload_n 3, 1) := by decide +kernel
theorem dX2_countIn_5 : decode cX2_countIn 5 = .ok (.aload_n 0, 1) := by decide +kernel
theorem dX2_countIn_6 : decode cX2_countIn 6 = .ok (.getfield 36, 3) := by decide +kernel
theorem dX2_countIn_9 : decode cX2_countIn 9 = .ok (.invokevirtual 56, 3) := by decide +kernel
theorem dX2_countIn_12 : decode cX2_countIn 12 = .ok (.if_icmp .ge 30, 3) := by decide +kernel
theorem dX2_countIn_15 : decode cX2_countIn 15 = .ok (.aload_n 0, 1) := by decide +kernel
theorem dX2_countIn_16 : decode cX2_countIn 16 = .ok (.getfield 36, 3) := by decide +kernel
theorem dX2_countIn_19 : decode cX2_countIn 19 = .ok (.iload_n 3, 1) := by decide +kernel
theorem dX2_countIn_20 : decode cX2_countIn 20 = .ok (.invokevirtual 60, 3) := by decide +kernel
theorem dX2_countIn_23 : decode cX2_countIn 23 = .ok (.checkcast 40, 3) := by decide +kernel
theorem dX2_countIn_26 : decode cX2_countIn 26 = .ok (.getfield 64, 3) := by decide +kernel
theorem dX2_countIn_29 : decode cX2_countIn 29 = .ok (.iload_n 1, 1) := by decide +kernel
theorem dX2_countIn_30 : decode cX2_countIn 30 = .ok (.if_icmp .ne 6, 3) := by decide +kernel
theorem dX2_countIn_33 : decode cX2_countIn 33 = .ok (.iinc 2 1, 3) := by decide +kernel
theorem dX2_countIn_36 : decode cX2_countIn 36 = .ok (.iinc 3 1, 3) := by decide +kernel
theorem dX2_countIn_39 : decode cX2_countIn 39 = .ok (.goto (-35), 3) := by decide +kernel
theorem dX2_countIn_42 : decode cX2_countIn 42 = .ok (.iload_n 2, 1) := by decide +kernel
theorem dX2_countIn_43 : decode cX2_countIn 43 = .ok (.ireturn, 1) := by decide +kernel
theorem dX2_countPlaced_0 : decode cX2_countPlaced 0 = .ok (.aload_n 0, 1) := by decide +kernel
theorem dX2_countPlaced_1 : decode cX2_countPlaced 1 = .ok (.getfield 36, 3) := by decide +kernel
theorem dX2_countPlaced_4 : decode cX2_countPlaced 4 = .ok (.invokevirtual 56, 3) := by decide +kernel
theorem dX2_countPlaced_7 : decode cX2_countPlaced 7 = .ok (.aload_n 0, 1) := by decide +kernel
theorem dX2_countPlaced_8 : decode cX2_countPlaced 8 = .ok (.iconst (-1), 1) := by decide +kernel
theorem dX2_countPlaced_9 : decode cX2_countPlaced 9 = .ok (.invokevirtual 67, 3) := by decide +kernel
theorem dX2_countPlaced_12 : decode cX2_countPlaced 12 = .ok (.isub, 1) := by decide +kernel
theorem dX2_countPlaced_13 : decode cX2_countPlaced 13 = .ok (.ireturn, 1) := by decide +kernel
theorem dX2_pot_0 : decode cX2_pot 0 = .ok (.aload_n 0, 1) := by decide +kernel
theorem dX2_pot_1 : decode cX2_pot 1 = .ok (.getfield 46, 3) := by decide +kernel
theorem dX2_pot_4 : decode cX2_pot 4 = .ok (.ifCond .ne 7, 3) := by decide +kernel
theorem dX2_pot_7 : decode cX2_pot 7 = .ok (.iconst 0, 1) := by decide +kernel
theorem dX2_pot_8 : decode cX2_pot 8 = .ok (.goto 17, 3) := by decide +kernel
theorem dX2_pot_11 : decode cX2_pot 11 = .ok (.aload_n 0, 1) := by decide +kernel
theorem dX2_pot_12 : decode cX2_pot 12 = .ok (.getfield 27, 3) := by decide +kernel
theorem dX2_pot_15 : decode cX2_pot 15 = .ok (.aload_n 0, 1) := by decide +kernel
theorem dX2_pot_16 : decode cX2_pot 16 = .ok (.getfield 30, 3) := by decide +kernel
theorem dX2_pot_19 : decode cX2_pot 19 = .ok (.aload_n 0, 1) := by decide +kernel
theorem dX2_pot_20 : decode cX2_pot 20 = .ok (.invokevirtual 71, 3) := by decide +kernel
theorem dX2_pot_23 : decode cX2_pot 23 = .ok (.imul, 1) := by decide +kernel
theorem dX2_pot_24 : decode cX2_pot 24 = .ok (.iadd, 1) := by decide +kernel
theorem dX2_pot_25 : decode cX2_pot 25 = .ok (.ireturn, 1) := by decide +kernel
theorem dX2_canBePaid_0 : decode cX2_canBePaid 0 = .ok (.iconst 0, 1) := by decide +kernel
theorem dX2_canBePaid_1 : decode cX2_canBePaid 1 = .ok (.istore_n 1, 1) := by decide +kernel
theorem dX2_canBePaid_2 : decode cX2_canBePaid 2 = .ok (.iload_n 1, 1) := by decide +kernel
theorem dX2_canBePaid_3 : decode cX2_canBePaid 3 = .ok (.aload_n 0, 1) := by decide +kernel
theorem dX2_canBePaid_4 : decode cX2_canBePaid 4 = .ok (.getfield 36, 3) := by decide +kernel
theorem dX2_canBePaid_7 : decode cX2_canBePaid 7 = .ok (.invokevirtual 56, 3) := by decide +kernel
theorem dX2_canBePaid_10 : decode cX2_canBePaid 10 = .ok (.if_icmp .ge 37, 3) := by decide +kernel
theorem dX2_canBePaid_13 : decode cX2_canBePaid 13 = .ok (.aload_n 0, 1) := by decide +kernel
theorem dX2_canBePaid_14 : decode cX2_canBePaid 14 = .ok (.getfield 36, 3) := by decide +kernel
theorem dX2_canBePaid_17 : decode cX2_canBePaid 17 = .ok (.iload_n 1, 1) := by decide +kernel
theorem dX2_canBePaid_18 : decode cX2_canBePaid 18 = .ok (.invokevirtual 60, 3) := by decide +kernel
theorem dX2_canBePaid_21 : decode cX2_canBePaid 21 = .ok (.checkcast 40, 3) := by decide +kernel
theorem dX2_canBePaid_24 : decode cX2_canBePaid 24 = .ok (.astore_n 2, 1) := by decide +kernel
theorem dX2_canBePaid_25 : decode cX2_canBePaid 25 = .ok (.aload_n 2, 1) := by decide +kernel
theorem dX2_canBePaid_26 : decode cX2_canBePaid 26 = .ok (.getfield 74, 3) := by decide +kernel
theorem dX2_canBePaid_29 : decode cX2_canBePaid 29 = .ok (.ifCond .ne 10, 3) := by decide +kernel
theorem dX2_canBePaid_32 : decode cX2_canBePaid 32 = .ok (.aload_n 2, 1) := by decide +kernel
theorem dX2_canBePaid_33 : decode cX2_canBePaid 33 = .ok (.getfield 78, 3) := by decide +kernel
theorem dX2_canBePaid_36 : decode cX2_canBePaid 36 = .ok (.ifCond .eq 5, 3) := by decide +kernel
theorem dX2_canBePaid_39 : decode cX2_canBePaid 39 = .ok (.iconst 0, 1) := by decide +kernel
theorem dX2_canBePaid_40 : decode cX2_canBePaid 40 = .ok (.ireturn, 1) := by decide +kernel
theorem dX2_canBePaid_41 : decode cX2_canBePaid 41 = .ok (.iinc 1 1, 3) := by decide +kernel
theorem dX2_canBePaid_44 : decode cX2_canBePaid 44 = .ok (.goto (-42), 3) := by decide +kernel
theorem dX2_canBePaid_47 : decode cX2_canBePaid 47 = .ok (.aload_n 0, 1) := by decide +kernel
theorem dX2_canBePaid_48 : decode cX2_canBePaid 48 = .ok (.getfield 46, 3) := by decide +kernel
theorem dX2_canBePaid_51 : decode cX2_canBePaid 51 = .ok (.iconst 2, 1) := by decide +kernel
theorem dX2_canBePaid_52 : decode cX2_canBePaid 52 = .ok (.if_icmp .ne 7, 3) := by decide +kernel
theorem dX2_canBePaid_55 : decode cX2_canBePaid 55 = .ok (.iconst 1, 1) := by decide +kernel
theorem dX2_canBePaid_56 : decode cX2_canBePaid 56 = .ok (.goto 4, 3) := by decide +kernel
theorem dX2_canBePaid_59 : decode cX2_canBePaid 59 = .ok (.iconst 0, 1) := by decide +kernel
theorem dX2_canBePaid_60 : decode cX2_canBePaid 60 = .ok (.ireturn, 1) := by decide +kernel
theorem dX2_countCounting_0 : decode cX2_countCounting 0 = .ok (.iconst 0, 1) := by decide +kernel
theorem dX2_countCounting_1 : decode cX2_countCounting 1 = .ok (.istore_n 1, 1) := by decide +kernel
theorem dX2_countCounting_2 : decode cX2_countCounting 2 = .ok (.iconst 0, 1) := by decide +kernel
theorem dX2_countCounting_3 : decode cX2_countCounting 3 = .ok (.istore_n 2, 1) := by decide +kernel
theorem dX2_countCounting_4 : decode cX2_countCounting 4 = .ok (.iload_n 2, 1) := by decide +kernel
theorem dX2_countCounting_5 : decode cX2_countCounting 5 = .ok (.aload_n 0, 1) := by decide +kernel
theorem dX2_countCounting_6 : decode cX2_countCounting 6 = .ok (.getfield 36, 3) := by decide +kernel
theorem dX2_countCounting_9 : decode cX2_countCounting 9 = .ok (.invokevirtual 56, 3) := by decide +kernel
theorem dX2_countCounting_12 : decode cX2_countCounting 12 = .ok (.if_icmp .ge 29, 3) := by decide +kernel
theorem dX2_countCounting_15 : decode cX2_countCounting 15 = .ok (.aload_n 0, 1) := by decide +kernel
theorem dX2_countCounting_16 : decode cX2_countCounting 16 = .ok (.getfield 36, 3) := by decide +kernel
theorem dX2_countCounting_19 : decode cX2_countCounting 19 = .ok (.iload_n 2, 1) := by decide +kernel
theorem dX2_countCounting_20 : decode cX2_countCounting 20 = .ok (.invokevirtual 60, 3) := by decide +kernel
theorem dX2_countCounting_23 : decode cX2_countCounting 23 = .ok (.checkcast 40, 3) := by decide +kernel
theorem dX2_countCounting_26 : decode cX2_countCounting 26 = .ok (.getfield 81, 3) := by decide +kernel
theorem dX2_countCounting_29 : decode cX2_countCounting 29 = .ok (.ifCond .eq 6, 3) := by decide +kernel
theorem dX2_countCounting_32 : decode cX2_countCounting 32 = .ok (.iinc 1 1, 3) := by decide +kernel
theorem dX2_countCounting_35 : decode cX2_countCounting 35 = .ok (.iinc 2 1, 3) := by decide +kernel
theorem dX2_countCounting_38 : decode cX2_countCounting 38 = .ok (.goto (-34), 3) := by decide +kernel
theorem dX2_countCounting_41 : decode cX2_countCounting 41 = .ok (.iload_n 1, 1) := by decide +kernel
theorem dX2_countCounting_42 : decode cX2_countCounting 42 = .ok (.ireturn, 1) := by decide +kernel
theorem dX2_payOut_0 : decode cX2_payOut 0 = .ok (.aload_n 0, 1) := by decide +kernel
theorem dX2_payOut_1 : decode cX2_payOut 1 = .ok (.invokevirtual 84, 3) := by decide +kernel
theorem dX2_payOut_4 : decode cX2_payOut 4 = .ok (.istore_n 1, 1) := by decide +kernel
theorem dX2_payOut_5 : decode cX2_payOut 5 = .ok (.aload_n 0, 1) := by decide +kernel
theorem dX2_payOut_6 : decode cX2_payOut 6 = .ok (.invokevirtual 87, 3) := by decide +kernel
theorem dX2_payOut_9 : decode cX2_payOut 9 = .ok (.istore_n 2, 1) := by decide +kernel
theorem dX2_payOut_10 : decode cX2_payOut 10 = .ok (.aload_n 0, 1) := by decide +kernel
theorem dX2_payOut_11 : decode cX2_payOut 11 = .ok (.iload_n 1, 1) := by decide +kernel
theorem dX2_payOut_12 : decode cX2_payOut 12 = .ok (.iload_n 2, 1) := by decide +kernel
theorem dX2_payOut_13 : decode cX2_payOut 13 = .ok (.getstatic 90, 3) := by decide +kernel
theorem dX2_payOut_16 : decode cX2_payOut 16 = .ok (.arraylength, 1) := by decide +kernel
theorem dX2_payOut_17 : decode cX2_payOut 17 = .ok (.invokevirtual 94, 3) := by decide +kernel
theorem dX2_payOut_20 : decode cX2_payOut 20 = .ok (.iload_n 2, 1) := by decide +kernel
theorem dX2_payOut_21 : decode cX2_payOut 21 = .ok (.invokestatic 98, 3) := by decide +kernel
theorem dX2_payOut_24 : decode cX2_payOut 24 = .ok (.istore_n 3, 1) := by decide +kernel
theorem dX2_payOut_25 : decode cX2_payOut 25 = .ok (.iload_n 1, 1) := by decide +kernel
theorem dX2_payOut_26 : decode cX2_payOut 26 = .ok (.istore 4, 2) := by decide +kernel
theorem dX2_payOut_28 : decode cX2_payOut 28 = .ok (.iconst 0, 1) := by decide +kernel
theorem dX2_payOut_29 : decode cX2_payOut 29 = .ok (.istore 5, 2) := by decide +kernel
theorem dX2_payOut_31 : decode cX2_payOut 31 = .ok (.iload 5, 2) := by decide +kernel
theorem dX2_payOut_33 : decode cX2_payOut 33 = .ok (.aload_n 0, 1) := by decide +kernel
theorem dX2_payOut_34 : decode cX2_payOut 34 = .ok (.getfield 36, 3) := by decide +kernel
theorem dX2_payOut_37 : decode cX2_payOut 37 = .ok (.invokevirtual 56, 3) := by decide +kernel
theorem dX2_payOut_40 : decode cX2_payOut 40 = .ok (.if_icmp .ge 58, 3) := by decide +kernel
theorem dX2_payOut_43 : decode cX2_payOut 43 = .ok (.aload_n 0, 1) := by decide +kernel
theorem dX2_payOut_44 : decode cX2_payOut 44 = .ok (.getfield 36, 3) := by decide +kernel
theorem dX2_payOut_47 : decode cX2_payOut 47 = .ok (.iload 5, 2) := by decide +kernel
theorem dX2_payOut_49 : decode cX2_payOut 49 = .ok (.invokevirtual 60, 3) := by decide +kernel
theorem dX2_payOut_52 : decode cX2_payOut 52 = .ok (.checkcast 40, 3) := by decide +kernel
theorem dX2_payOut_55 : decode cX2_payOut 55 = .ok (.astore 6, 2) := by decide +kernel
theorem dX2_payOut_57 : decode cX2_payOut 57 = .ok (.aload 6, 2) := by decide +kernel
theorem dX2_payOut_59 : decode cX2_payOut 59 = .ok (.getfield 81, 3) := by decide +kernel
theorem dX2_payOut_62 : decode cX2_payOut 62 = .ok (.ifCond .eq 30, 3) := by decide +kernel
theorem dX2_payOut_65 : decode cX2_payOut 65 = .ok (.aload 6, 2) := by decide +kernel
theorem dX2_payOut_67 : decode cX2_payOut 67 = .ok (.aload_n 0, 1) := by decide +kernel
theorem dX2_payOut_68 : decode cX2_payOut 68 = .ok (.iload_n 1, 1) := by decide +kernel
theorem dX2_payOut_69 : decode cX2_payOut 69 = .ok (.aload 6, 2) := by decide +kernel
theorem dX2_payOut_71 : decode cX2_payOut 71 = .ok (.getfield 102, 3) := by decide +kernel
theorem dX2_payOut_74 : decode cX2_payOut 74 = .ok (.invokevirtual 105, 3) := by decide +kernel
theorem dX2_payOut_77 : decode cX2_payOut 77 = .ok (.iload_n 3, 1) := by decide +kernel
theorem dX2_payOut_78 : decode cX2_payOut 78 = .ok (.iadd, 1) := by decide +kernel
theorem dX2_payOut_79 : decode cX2_payOut 79 = .ok (.putfield 108, 3) := by decide +kernel
theorem dX2_payOut_82 : decode cX2_payOut 82 = .ok (.iload 4, 2) := by decide +kernel
theorem dX2_payOut_84 : decode cX2_payOut 84 = .ok (.aload 6, 2) := by decide +kernel
theorem dX2_payOut_86 : decode cX2_payOut 86 = .ok (.getfield 108, 3) := by decide +kernel
theorem dX2_payOut_89 : decode cX2_payOut 89 = .ok (.isub, 1) := by decide +kernel
theorem dX2_payOut_90 : decode cX2_payOut 90 = .ok (.istore 4, 2) := by decide +kernel
theorem dX2_payOut_92 : decode cX2_payOut 92 = .ok (.iinc 5 1, 3) := by decide +kernel
theorem dX2_payOut_95 : decode cX2_payOut 95 = .ok (.goto (-64), 3) := by decide +kernel
theorem dX2_payOut_98 : decode cX2_payOut 98 = .ok (.aload_n 0, 1) := by decide +kernel
theorem dX2_payOut_99 : decode cX2_payOut 99 = .ok (.iload 4, 2) := by decide +kernel
theorem dX2_payOut_101 : decode cX2_payOut 101 = .ok (.putfield 111, 3) := by decide +kernel
theorem dX2_payOut_104 : decode cX2_payOut 104 = .ok (.aload_n 0, 1) := by decide +kernel
theorem dX2_payOut_105 : decode cX2_payOut 105 = .ok (.iconst 3, 1) := by decide +kernel
theorem dX2_payOut_106 : decode cX2_payOut 106 = .ok (.putfield 46, 3) := by decide +kernel
theorem dX2_payOut_109 : decode cX2_payOut 109 = .ok (.return_, 1) := by decide +kernel
theorem dX2_placeMoney_0 : decode cX2_placeMoney 0 = .ok (.iconst 0, 1) := by decide +kernel
theorem dX2_placeMoney_1 : decode cX2_placeMoney 1 = .ok (.istore_n 3, 1) := by decide +kernel
theorem dX2_placeMoney_2 : decode cX2_placeMoney 2 = .ok (.iconst 0, 1) := by decide +kernel
theorem dX2_placeMoney_3 : decode cX2_placeMoney 3 = .ok (.istore 4, 2) := by decide +kernel
theorem dX2_placeMoney_5 : decode cX2_placeMoney 5 = .ok (.iconst 0, 1) := by decide +kernel
theorem dX2_placeMoney_6 : decode cX2_placeMoney 6 = .ok (.istore 5, 2) := by decide +kernel
theorem dX2_placeMoney_8 : decode cX2_placeMoney 8 = .ok (.iload 5, 2) := by decide +kernel
theorem dX2_placeMoney_10 : decode cX2_placeMoney 10 = .ok (.aload_n 0, 1) := by decide +kernel
theorem dX2_placeMoney_11 : decode cX2_placeMoney 11 = .ok (.getfield 36, 3) := by decide +kernel
theorem dX2_placeMoney_14 : decode cX2_placeMoney 14 = .ok (.invokevirtual 56, 3) := by decide +kernel
theorem dX2_placeMoney_17 : decode cX2_placeMoney 17 = .ok (.if_icmp .ge 66, 3) := by decide +kernel
theorem dX2_placeMoney_20 : decode cX2_placeMoney 20 = .ok (.aload_n 0, 1) := by decide +kernel
theorem dX2_placeMoney_21 : decode cX2_placeMoney 21 = .ok (.getfield 36, 3) := by decide +kernel
theorem dX2_placeMoney_24 : decode cX2_placeMoney 24 = .ok (.iload 5, 2) := by decide +kernel
theorem dX2_placeMoney_26 : decode cX2_placeMoney 26 = .ok (.invokevirtual 60, 3) := by decide +kernel
theorem dX2_placeMoney_29 : decode cX2_placeMoney 29 = .ok (.checkcast 40, 3) := by decide +kernel
theorem dX2_placeMoney_32 : decode cX2_placeMoney 32 = .ok (.astore 6, 2) := by decide +kernel
theorem dX2_placeMoney_34 : decode cX2_placeMoney 34 = .ok (.aload 6, 2) := by decide +kernel
theorem dX2_placeMoney_36 : decode cX2_placeMoney 36 = .ok (.getfield 81, 3) := by decide +kernel
theorem dX2_placeMoney_39 : decode cX2_placeMoney 39 = .ok (.ifCond .eq 18, 3) := by decide +kernel
theorem dX2_placeMoney_42 : decode cX2_placeMoney 42 = .ok (.aload 6, 2) := by decide +kernel
theorem dX2_placeMoney_44 : decode cX2_placeMoney 44 = .ok (.getfield 102, 3) := by decide +kernel
theorem dX2_placeMoney_47 : decode cX2_placeMoney 47 = .ok (.iload_n 2, 1) := by decide +kernel
theorem dX2_placeMoney_48 : decode cX2_placeMoney 48 = .ok (.if_icmp .le 9, 3) := by decide +kernel
theorem dX2_placeMoney_51 : decode cX2_placeMoney 51 = .ok (.iinc 3 1, 3) := by decide +kernel
theorem dX2_placeMoney_54 : decode cX2_placeMoney 54 = .ok (.goto 23, 3) := by decide +kernel
theorem dX2_placeMoney_57 : decode cX2_placeMoney 57 = .ok (.aload 6, 2) := by decide +kernel
theorem dX2_placeMoney_59 : decode cX2_placeMoney 59 = .ok (.getfield 81, 3) := by decide +kernel
theorem dX2_placeMoney_62 : decode cX2_placeMoney 62 = .ok (.ifCond .eq 15, 3) := by decide +kernel
theorem dX2_placeMoney_65 : decode cX2_placeMoney 65 = .ok (.aload 6, 2) := by decide +kernel
theorem dX2_placeMoney_67 : decode cX2_placeMoney 67 = .ok (.getfield 102, 3) := by decide +kernel
theorem dX2_placeMoney_70 : decode cX2_placeMoney 70 = .ok (.iload_n 2, 1) := by decide +kernel
theorem dX2_placeMoney_71 : decode cX2_placeMoney 71 = .ok (.if_icmp .ne 6, 3) := by decide +kernel
theorem dX2_placeMoney_74 : decode cX2_placeMoney 74 = .ok (.iinc 4 1, 3) := by decide +kernel
theorem dX2_placeMoney_77 : decode cX2_placeMoney 77 = .ok (.iinc 5 1, 3) := by decide +kernel
theorem dX2_placeMoney_80 : decode cX2_placeMoney 80 = .ok (.goto (-72), 3) := by decide +kernel
theorem dX2_placeMoney_83 : decode cX2_placeMoney 83 = .ok (.aload_n 0, 1) := by decide +kernel
theorem dX2_placeMoney_84 : decode cX2_placeMoney 84 = .ok (.iload_n 1, 1) := by decide +kernel
theorem dX2_placeMoney_85 : decode cX2_placeMoney 85 = .ok (.iload_n 3, 1) := by decide +kernel
theorem dX2_placeMoney_86 : decode cX2_placeMoney 86 = .ok (.iload_n 3, 1) := by decide +kernel
theorem dX2_placeMoney_87 : decode cX2_placeMoney 87 = .ok (.iload 4, 2) := by decide +kernel
theorem dX2_placeMoney_89 : decode cX2_placeMoney 89 = .ok (.iadd, 1) := by decide +kernel
theorem dX2_placeMoney_90 : decode cX2_placeMoney 90 = .ok (.invokevirtual 94, 3) := by decide +kernel
theorem dX2_placeMoney_93 : decode cX2_placeMoney 93 = .ok (.iload 4, 2) := by decide +kernel
theorem dX2_placeMoney_95 : decode cX2_placeMoney 95 = .ok (.invokestatic 98, 3) := by decide +kernel
theorem dX2_placeMoney_98 : decode cX2_placeMoney 98 = .ok (.ireturn, 1) := by decide +kernel
theorem dX2_sharesOf_0 : decode cX2_sharesOf 0 = .ok (.iconst 0, 1) := by decide +kernel
theorem dX2_sharesOf_1 : decode cX2_sharesOf 1 = .ok (.istore 4, 2) := by decide +kernel
theorem dX2_sharesOf_3 : decode cX2_sharesOf 3 = .ok (.iconst 0, 1) := by decide +kernel
theorem dX2_sharesOf_4 : decode cX2_sharesOf 4 = .ok (.istore 5, 2) := by decide +kernel
theorem dX2_sharesOf_6 : decode cX2_sharesOf 6 = .ok (.iload 5, 2) := by decide +kernel
theorem dX2_sharesOf_8 : decode cX2_sharesOf 8 = .ok (.getstatic 90, 3) := by decide +kernel
theorem dX2_sharesOf_11 : decode cX2_sharesOf 11 = .ok (.arraylength, 1) := by decide +kernel
theorem dX2_sharesOf_12 : decode cX2_sharesOf 12 = .ok (.if_icmp .ge 37, 3) := by decide +kernel
theorem dX2_sharesOf_15 : decode cX2_sharesOf 15 = .ok (.iload 5, 2) := by decide +kernel
theorem dX2_sharesOf_17 : decode cX2_sharesOf 17 = .ok (.iload_n 2, 1) := by decide +kernel
theorem dX2_sharesOf_18 : decode cX2_sharesOf 18 = .ok (.if_icmp .lt 25, 3) := by decide +kernel
theorem dX2_sharesOf_21 : decode cX2_sharesOf 21 = .ok (.iload 5, 2) := by decide +kernel
theorem dX2_sharesOf_23 : decode cX2_sharesOf 23 = .ok (.iload_n 3, 1) := by decide +kernel
theorem dX2_sharesOf_24 : decode cX2_sharesOf 24 = .ok (.if_icmp .ge 19, 3) := by decide +kernel
theorem dX2_sharesOf_27 : decode cX2_sharesOf 27 = .ok (.iload 4, 2) := by decide +kernel
theorem dX2_sharesOf_29 : decode cX2_sharesOf 29 = .ok (.iload_n 1, 1) := by decide +kernel
theorem dX2_sharesOf_30 : decode cX2_sharesOf 30 = .ok (.getstatic 90, 3) := by decide +kernel
theorem dX2_sharesOf_33 : decode cX2_sharesOf 33 = .ok (.iload 5, 2) := by decide +kernel
theorem dX2_sharesOf_35 : decode cX2_sharesOf 35 = .ok (.iaload, 1) := by decide +kernel
theorem dX2_sharesOf_36 : decode cX2_sharesOf 36 = .ok (.imul, 1) := by decide +kernel
theorem dX2_sharesOf_37 : decode cX2_sharesOf 37 = .ok (.bipush 100, 2) := by decide +kernel
theorem dX2_sharesOf_39 : decode cX2_sharesOf 39 = .ok (.idiv, 1) := by decide +kernel
theorem dX2_sharesOf_40 : decode cX2_sharesOf 40 = .ok (.iadd, 1) := by decide +kernel
theorem dX2_sharesOf_41 : decode cX2_sharesOf 41 = .ok (.istore 4, 2) := by decide +kernel
theorem dX2_sharesOf_43 : decode cX2_sharesOf 43 = .ok (.iinc 5 1, 3) := by decide +kernel
theorem dX2_sharesOf_46 : decode cX2_sharesOf 46 = .ok (.goto (-40), 3) := by decide +kernel
theorem dX2_sharesOf_49 : decode cX2_sharesOf 49 = .ok (.iload 4, 2) := by decide +kernel
theorem dX2_sharesOf_51 : decode cX2_sharesOf 51 = .ok (.ireturn, 1) := by decide +kernel
theorem dX2_isEven_0 : decode cX2_isEven 0 = .ok (.aload_n 0, 1) := by decide +kernel
theorem dX2_isEven_1 : decode cX2_isEven 1 = .ok (.getfield 111, 3) := by decide +kernel
theorem dX2_isEven_4 : decode cX2_isEven 4 = .ok (.istore_n 1, 1) := by decide +kernel
theorem dX2_isEven_5 : decode cX2_isEven 5 = .ok (.iconst 0, 1) := by decide +kernel
theorem dX2_isEven_6 : decode cX2_isEven 6 = .ok (.istore_n 2, 1) := by decide +kernel
theorem dX2_isEven_7 : decode cX2_isEven 7 = .ok (.iload_n 2, 1) := by decide +kernel
theorem dX2_isEven_8 : decode cX2_isEven 8 = .ok (.aload_n 0, 1) := by decide +kernel
theorem dX2_isEven_9 : decode cX2_isEven 9 = .ok (.getfield 36, 3) := by decide +kernel
theorem dX2_isEven_12 : decode cX2_isEven 12 = .ok (.invokevirtual 56, 3) := by decide +kernel
theorem dX2_isEven_15 : decode cX2_isEven 15 = .ok (.if_icmp .ge 26, 3) := by decide +kernel
theorem dX2_isEven_18 : decode cX2_isEven 18 = .ok (.iload_n 1, 1) := by decide +kernel
theorem dX2_isEven_19 : decode cX2_isEven 19 = .ok (.aload_n 0, 1) := by decide +kernel
theorem dX2_isEven_20 : decode cX2_isEven 20 = .ok (.getfield 36, 3) := by decide +kernel
theorem dX2_isEven_23 : decode cX2_isEven 23 = .ok (.iload_n 2, 1) := by decide +kernel
theorem dX2_isEven_24 : decode cX2_isEven 24 = .ok (.invokevirtual 60, 3) := by decide +kernel
theorem dX2_isEven_27 : decode cX2_isEven 27 = .ok (.checkcast 40, 3) := by decide +kernel
theorem dX2_isEven_30 : decode cX2_isEven 30 = .ok (.getfield 108, 3) := by decide +kernel
theorem dX2_isEven_33 : decode cX2_isEven 33 = .ok (.iadd, 1) := by decide +kernel
theorem dX2_isEven_34 : decode cX2_isEven 34 = .ok (.istore_n 1, 1) := by decide +kernel
theorem dX2_isEven_35 : decode cX2_isEven 35 = .ok (.iinc 2 1, 3) := by decide +kernel
theorem dX2_isEven_38 : decode cX2_isEven 38 = .ok (.goto (-31), 3) := by decide +kernel
theorem dX2_isEven_41 : decode cX2_isEven 41 = .ok (.aload_n 0, 1) := by decide +kernel
theorem dX2_isEven_42 : decode cX2_isEven 42 = .ok (.getfield 46, 3) := by decide +kernel
theorem dX2_isEven_45 : decode cX2_isEven 45 = .ok (.iconst 3, 1) := by decide +kernel
theorem dX2_isEven_46 : decode cX2_isEven 46 = .ok (.if_icmp .ne 11, 3) := by decide +kernel
theorem dX2_isEven_49 : decode cX2_isEven 49 = .ok (.iload_n 1, 1) := by decide +kernel
theorem dX2_isEven_50 : decode cX2_isEven 50 = .ok (.aload_n 0, 1) := by decide +kernel
theorem dX2_isEven_51 : decode cX2_isEven 51 = .ok (.invokevirtual 84, 3) := by decide +kernel
theorem dX2_isEven_54 : decode cX2_isEven 54 = .ok (.if_icmp .ne 7, 3) := by decide +kernel
theorem dX2_isEven_57 : decode cX2_isEven 57 = .ok (.iconst 1, 1) := by decide +kernel
theorem dX2_isEven_58 : decode cX2_isEven 58 = .ok (.goto 4, 3) := by decide +kernel
theorem dX2_isEven_61 : decode cX2_isEven 61 = .ok (.iconst 0, 1) := by decide +kernel
theorem dX2_isEven_62 : decode cX2_isEven 62 = .ok (.ireturn, 1) := by decide +kernel
end
section
theorem dX3_init_0 : decode cX3_init 0 = .ok (.aload_n 0, 1) := by decide +kernel
theorem dX3_init_1 : decode cX3_init 1 = .ok (.invokespecial 3, 3) := by decide +kernel
theorem dX3_init_4 : decode cX3_init 4 = .ok (.aload_n 0, 1) := by decide +kernel
theorem dX3_init_5 : decode cX3_init 5 = .ok (.new 9, 3) := by decide +kernel
theorem dX3_init_8 : decode cX3_init 8 = .ok (.dup, 1) := by decide +kernel
theorem dX3_init_9 : decode cX3_init 9 = .ok (.invokespecial 11, 3) := by decide +kernel
theorem dX3_init_12 : decode cX3_init 12 = .ok (.putfield 12, 3) := by decide +kernel
theorem dX3_init_15 : decode cX3_init 15 = .ok (.aload_n 0, 1) := by decide +kernel
theorem dX3_init_16 : decode cX3_init 16 = .ok (.new 9, 3) := by decide +kernel
theorem dX3_init_19 : decode cX3_init 19 = .ok (.dup, 1) := by decide +kernel
theorem dX3_init_20 : decode cX3_init 20 = .ok (.invokespecial 11, 3) := by decide +kernel
theorem dX3_init_23 : decode cX3_init 23 = .ok (.putfield 16, 3) := by decide +kernel
theorem dX3_init_26 : decode cX3_init 26 = .ok (.aload_n 0, 1) := by decide +kernel
theorem dX3_init_27 : decode cX3_init 27 = .ok (.iconst 0, 1) := by decide +kernel
theorem dX3_init_28 : decode cX3_init 28 = .ok (.putfield 19, 3) := by decide +kernel
theorem dX3_init_31 : decode cX3_init 31 = .ok (.aload_n 0, 1) := by decide +kernel
theorem dX3_init_32 : decode cX3_init 32 = .ok (.iconst 1, 1) := by decide +kernel
theorem dX3_init_33 : decode cX3_init 33 = .ok (.putfield 23, 3) := by decide +kernel
theorem dX3_init_36 : decode cX3_init 36 = .ok (.return_, 1) := by decide +kernel
theorem dX3_beast_0 : decode cX3_beast 0 = .ok (.iload_n 1, 1) := by decide +kernel
theorem dX3_beast_1 : decode cX3_beast 1 = .ok (.invokestatic 26, 3) := by decide +kernel
theorem dX3_beast_4 : decode cX3_beast 4 = .ok (.ifCond .ne 13, 3) := by decide +kernel
theorem dX3_beast_7 : decode cX3_beast 7 = .ok (.new 30, 3) := by decide +kernel
theorem dX3_beast_10 : decode cX3_beast 10 = .ok (.dup, 1) := by decide +kernel
theorem dX3_beast_11 : decode cX3_beast 11 = .ok (.ldc 32, 2) := by decide +kernel
theorem dX3_beast_13 : decode cX3_beast 13 = .ok (.invokespecial 34, 3) := by decide +kernel
theorem dX3_beast_16 : decode cX3_beast 16 = .ok (.athrow, 1) := by decide +kernel
theorem dX3_beast_17 : decode cX3_beast 17 = .ok (.aload_n 0, 1) := by decide +kernel
theorem dX3_beast_18 : decode cX3_beast 18 = .ok (.getfield 12, 3) := by decide +kernel
theorem dX3_beast_21 : decode cX3_beast 21 = .ok (.invokevirtual 37, 3) := by decide +kernel
theorem dX3_beast_24 : decode cX3_beast 24 = .ok (.bipush 16, 2) := by decide +kernel
theorem dX3_beast_26 : decode cX3_beast 26 = .ok (.if_icmp .lt 13, 3) := by decide +kernel
theorem dX3_beast_29 : decode cX3_beast 29 = .ok (.new 41, 3) := by decide +kernel
theorem dX3_beast_32 : decode cX3_beast 32 = .ok (.dup, 1) := by decide +kernel
theorem dX3_beast_33 : decode cX3_beast 33 = .ok (.ldc 43, 2) := by decide +kernel
theorem dX3_beast_35 : decode cX3_beast 35 = .ok (.invokespecial 45, 3) := by decide +kernel
theorem dX3_beast_38 : decode cX3_beast 38 = .ok (.athrow, 1) := by decide +kernel
theorem dX3_beast_39 : decode cX3_beast 39 = .ok (.aload_n 0, 1) := by decide +kernel
theorem dX3_beast_40 : decode cX3_beast 40 = .ok (.getfield 12, 3) := by decide +kernel
theorem dX3_beast_43 : decode cX3_beast 43 = .ok (.invokevirtual 37, 3) := by decide +kernel
theorem dX3_beast_46 : decode cX3_beast 46 = .ok (.istore_n 2, 1) := by decide +kernel
theorem dX3_beast_47 : decode cX3_beast 47 = .ok (.aload_n 0, 1) := by decide +kernel
theorem dX3_beast_48 : decode cX3_beast 48 = .ok (.getfield 12, 3) := by decide +kernel
theorem dX3_beast_51 : decode cX3_beast 51 = .ok (.new 46, 3) := by decide +kernel
theorem dX3_beast_54 : decode cX3_beast 54 = .ok (.dup, 1) := by decide +kernel
theorem dX3_beast_55 : decode cX3_beast 55 = .ok (.iload_n 2, 1) := by decide +kernel
theorem dX3_beast_56 : decode cX3_beast 56 = .ok (.iload_n 1, 1) := by decide +kernel
theorem dX3_beast_57 : decode cX3_beast 57 = .ok (.invokespecial 48, 3) := by decide +kernel
theorem dX3_beast_60 : decode cX3_beast 60 = .ok (.invokevirtual 51, 3) := by decide +kernel
theorem dX3_beast_63 : decode cX3_beast 63 = .ok (.pop, 1) := by decide +kernel
theorem dX3_beast_64 : decode cX3_beast 64 = .ok (.iload_n 2, 1) := by decide +kernel
theorem dX3_beast_65 : decode cX3_beast 65 = .ok (.ireturn, 1) := by decide +kernel
theorem dX3_rider_0 : decode cX3_rider 0 = .ok (.aload_n 0, 1) := by decide +kernel
theorem dX3_rider_1 : decode cX3_rider 1 = .ok (.getfield 19, 3) := by decide +kernel
theorem dX3_rider_4 : decode cX3_rider 4 = .ok (.bipush 12, 2) := by decide +kernel
theorem dX3_rider_6 : decode cX3_rider 6 = .ok (.if_icmp .lt 13, 3) := by decide +kernel
theorem dX3_rider_9 : decode cX3_rider 9 = .ok (.new 41, 3) := by decide +kernel
theorem dX3_rider_12 : decode cX3_rider 12 = .ok (.dup, 1) := by decide +kernel
theorem dX3_rider_13 : decode cX3_rider 13 = .ok (.ldc 55, 2) := by decide +kernel
theorem dX3_rider_15 : decode cX3_rider 15 = .ok (.invokespecial 45, 3) := by decide +kernel
theorem dX3_rider_18 : decode cX3_rider 18 = .ok (.athrow, 1) := by decide +kernel
theorem dX3_rider_19 : decode cX3_rider 19 = .ok (.aload_n 0, 1) := by decide +kernel
theorem dX3_rider_20 : decode cX3_rider 20 = .ok (.dup, 1) := by decide +kernel
theorem dX3_rider_21 : decode cX3_rider 21 = .ok (.getfield 19, 3) := by decide +kernel
theorem dX3_rider_24 : decode cX3_rider 24 = .ok (.iconst 1, 1) := by decide +kernel
theorem dX3_rider_25 : decode cX3_rider 25 = .ok (.iadd, 1) := by decide +kernel
theorem dX3_rider_26 : decode cX3_rider 26 = .ok (.putfield 19, 3) := by decide +kernel
theorem dX3_rider_29 : decode cX3_rider 29 = .ok (.aload_n 0, 1) := by decide +kernel
theorem dX3_rider_30 : decode cX3_rider 30 = .ok (.getfield 19, 3) := by decide +kernel
theorem dX3_rider_33 : decode cX3_rider 33 = .ok (.iconst 1, 1) := by decide +kernel
theorem dX3_rider_34 : decode cX3_rider 34 = .ok (.isub, 1) := by decide +kernel
theorem dX3_rider_35 : decode cX3_rider 35 = .ok (.ireturn, 1) := by decide +kernel
theorem dX3_rodeo_0 : decode cX3_rodeo 0 = .ok (.iload_n 1, 1) := by decide +kernel
theorem dX3_rodeo_1 : decode cX3_rodeo 1 = .ok (.invokestatic 26, 3) := by decide +kernel
theorem dX3_rodeo_4 : decode cX3_rodeo 4 = .ok (.ifCond .eq 24, 3) := by decide +kernel
theorem dX3_rodeo_7 : decode cX3_rodeo 7 = .ok (.iload_n 2, 1) := by decide +kernel
theorem dX3_rodeo_8 : decode cX3_rodeo 8 = .ok (.iconst 0, 1) := by decide +kernel
theorem dX3_rodeo_9 : decode cX3_rodeo 9 = .ok (.sipush 2000, 3) := by decide +kernel
theorem dX3_rodeo_12 : decode cX3_rodeo 12 = .ok (.invokestatic 57, 3) := by decide +kernel
theorem dX3_rodeo_15 : decode cX3_rodeo 15 = .ok (.ifCond .eq 13, 3) := by decide +kernel
theorem dX3_rodeo_18 : decode cX3_rodeo 18 = .ok (.iload_n 3, 1) := by decide +kernel
theorem dX3_rodeo_19 : decode cX3_rodeo 19 = .ok (.iconst 0, 1) := by decide +kernel
theorem dX3_rodeo_20 : decode cX3_rodeo 20 = .ok (.bipush 60, 2) := by decide +kernel
theorem dX3_rodeo_22 : decode cX3_rodeo 22 = .ok (.invokestatic 57, 3) := by decide +kernel
theorem dX3_rodeo_25 : decode cX3_rodeo 25 = .ok (.ifCond .ne 13, 3) := by decide +kernel
theorem dX3_rodeo_28 : decode cX3_rodeo 28 = .ok (.new 30, 3) := by decide +kernel
theorem dX3_rodeo_31 : decode cX3_rodeo 31 = .ok (.dup, 1) := by decide +kernel
theorem dX3_rodeo_32 : decode cX3_rodeo 32 = .ok (.ldc 61, 2) := by decide +kernel
theorem dX3_rodeo_34 : decode cX3_rodeo 34 = .ok (.invokespecial 34, 3) := by decide +kernel
theorem dX3_rodeo_37 : decode cX3_rodeo 37 = .ok (.athrow, 1) := by decide +kernel
theorem dX3_rodeo_38 : decode cX3_rodeo 38 = .ok (.iload 4, 2) := by decide +kernel
theorem dX3_rodeo_40 : decode cX3_rodeo 40 = .ok (.iconst 1, 1) := by decide +kernel
theorem dX3_rodeo_41 : decode cX3_rodeo 41 = .ok (.iconst 4, 1) := by decide +kernel
theorem dX3_rodeo_42 : decode cX3_rodeo 42 = .ok (.invokestatic 57, 3) := by decide +kernel
theorem dX3_rodeo_45 : decode cX3_rodeo 45 = .ok (.ifCond .eq 13, 3) := by decide +kernel
theorem dX3_rodeo_48 : decode cX3_rodeo 48 = .ok (.iload 5, 2) := by decide +kernel
theorem dX3_rodeo_50 : decode cX3_rodeo 50 = .ok (.iconst 1, 1) := by decide +kernel
theorem dX3_rodeo_51 : decode cX3_rodeo 51 = .ok (.iconst 4, 1) := by decide +kernel
theorem dX3_rodeo_52 : decode cX3_rodeo 52 = .ok (.invokestatic 57, 3) := by decide +kernel
theorem dX3_rodeo_55 : decode cX3_rodeo 55 = .ok (.ifCond .ne 13, 3) := by decide +kernel
theorem dX3_rodeo_58 : decode cX3_rodeo 58 = .ok (.new 30, 3) := by decide +kernel
theorem dX3_rodeo_61 : decode cX3_rodeo 61 = .ok (.dup, 1) := by decide +kernel
theorem dX3_rodeo_62 : decode cX3_rodeo 62 = .ok (.ldc 63, 2) := by decide +kernel
theorem dX3_rodeo_64 : decode cX3_rodeo 64 = .ok (.invokespecial 34, 3) := by decide +kernel
theorem dX3_rodeo_67 : decode cX3_rodeo 67 = .ok (.athrow, 1) := by decide +kernel
theorem dX3_rodeo_68 : decode cX3_rodeo 68 = .ok (.iload 6, 2) := by decide +kernel
theorem dX3_rodeo_70 : decode cX3_rodeo 70 = .ok (.iconst 0, 1) := by decide +kernel
theorem dX3_rodeo_71 : decode cX3_rodeo 71 = .ok (.ldc 65, 2) := by decide +kernel
theorem dX3_rodeo_73 : decode cX3_rodeo 73 = .ok (.invokestatic 57, 3) := by decide +kernel
theorem dX3_rodeo_76 : decode cX3_rodeo 76 = .ok (.ifCond .eq 15, 3) := by decide +kernel
theorem dX3_rodeo_79 : decode cX3_rodeo 79 = .ok (.iload 7, 2) := by decide +kernel
theorem dX3_rodeo_81 : decode cX3_rodeo 81 = .ok (.iconst 0, 1) := by decide +kernel
theorem dX3_rodeo_82 : decode cX3_rodeo 82 = .ok (.sipush 999, 3) := by decide +kernel
theorem dX3_rodeo_85 : decode cX3_rodeo 85 = .ok (.invokestatic 57, 3) := by decide +kernel
theorem dX3_rodeo_88 : decode cX3_rodeo 88 = .ok (.ifCond .ne 13, 3) := by decide +kernel
theorem dX3_rodeo_91 : decode cX3_rodeo 91 = .ok (.new 30, 3) := by decide +kernel
theorem dX3_rodeo_94 : decode cX3_rodeo 94 = .ok (.dup, 1) := by decide +kernel
theorem dX3_rodeo_95 : decode cX3_rodeo 95 = .ok (.ldc 66, 2) := by decide +kernel
theorem dX3_rodeo_97 : decode cX3_rodeo 97 = .ok (.invokespecial 34, 3) := by decide +kernel
theorem dX3_rodeo_100 : decode cX3_rodeo 100 = .ok (.athrow, 1) := by decide +kernel
theorem dX3_rodeo_101 : decode cX3_rodeo 101 = .ok (.aload_n 0, 1) := by decide +kernel
theorem dX3_rodeo_102 : decode cX3_rodeo 102 = .ok (.getfield 16, 3) := by decide +kernel
theorem dX3_rodeo_105 : decode cX3_rodeo 105 = .ok (.invokevirtual 37, 3) := by decide +kernel
theorem dX3_rodeo_108 : decode cX3_rodeo 108 = .ok (.bipush 8, 2) := by decide +kernel
theorem dX3_rodeo_110 : decode cX3_rodeo 110 = .ok (.if_icmp .lt 13, 3) := by decide +kernel
theorem dX3_rodeo_113 : decode cX3_rodeo 113 = .ok (.new 41, 3) := by decide +kernel
theorem dX3_rodeo_116 : decode cX3_rodeo 116 = .ok (.dup, 1) := by decide +kernel
theorem dX3_rodeo_117 : decode cX3_rodeo 117 = .ok (.ldc 68, 2) := by decide +kernel
theorem dX3_rodeo_119 : decode cX3_rodeo 119 = .ok (.invokespecial 45, 3) := by decide +kernel
theorem dX3_rodeo_122 : decode cX3_rodeo 122 = .ok (.athrow, 1) := by decide +kernel
theorem dX3_rodeo_123 : decode cX3_rodeo 123 = .ok (.aload_n 0, 1) := by decide +kernel
theorem dX3_rodeo_124 : decode cX3_rodeo 124 = .ok (.getfield 16, 3) := by decide +kernel
theorem dX3_rodeo_127 : decode cX3_rodeo 127 = .ok (.new 70, 3) := by decide +kernel
theorem dX3_rodeo_130 : decode cX3_rodeo 130 = .ok (.dup, 1) := by decide +kernel
theorem dX3_rodeo_131 : decode cX3_rodeo 131 = .ok (.iload_n 1, 1) := by decide +kernel
theorem dX3_rodeo_132 : decode cX3_rodeo 132 = .ok (.iload_n 2, 1) := by decide +kernel
theorem dX3_rodeo_133 : decode cX3_rodeo 133 = .ok (.iload_n 3, 1) := by decide +kernel
theorem dX3_rodeo_134 : decode cX3_rodeo 134 = .ok (.iload 4, 2) := by decide +kernel
theorem dX3_rodeo_136 : decode cX3_rodeo 136 = .ok (.iload 5, 2) := by decide +kernel
theorem dX3_rodeo_138 : decode cX3_rodeo 138 = .ok (.iload 6, 2) := by decide +kernel
theorem dX3_rodeo_140 : decode cX3_rodeo 140 = .ok (.iload 7, 2) := by decide +kernel
theorem dX3_rodeo_142 : decode cX3_rodeo 142 = .ok (.invokespecial 72, 3) := by decide +kernel
theorem dX3_rodeo_145 : decode cX3_rodeo 145 = .ok (.invokevirtual 51, 3) := by decide +kernel
theorem dX3_rodeo_148 : decode cX3_rodeo 148 = .ok (.pop, 1) := by decide +kernel
theorem dX3_rodeo_149 : decode cX3_rodeo 149 = .ok (.aload_n 0, 1) := by decide +kernel
theorem dX3_rodeo_150 : decode cX3_rodeo 150 = .ok (.getfield 16, 3) := by decide +kernel
theorem dX3_rodeo_153 : decode cX3_rodeo 153 = .ok (.invokevirtual 37, 3) := by decide +kernel
theorem dX3_rodeo_156 : decode cX3_rodeo 156 = .ok (.iconst 1, 1) := by decide +kernel
theorem dX3_rodeo_157 : decode cX3_rodeo 157 = .ok (.isub, 1) := by decide +kernel
theorem dX3_rodeo_158 : decode cX3_rodeo 158 = .ok (.ireturn, 1) := by decide +kernel
theorem dX3_rodeoIs_0 : decode cX3_rodeoIs 0 = .ok (.aload_n 0, 1) := by decide +kernel
theorem dX3_rodeoIs_1 : decode cX3_rodeoIs 1 = .ok (.iload_n 1, 1) := by decide +kernel
theorem dX3_rodeoIs_2 : decode cX3_rodeoIs 2 = .ok (.invokevirtual 75, 3) := by decide +kernel
theorem dX3_rodeoIs_5 : decode cX3_rodeoIs 5 = .ok (.astore_n 3, 1) := by decide +kernel
theorem dX3_rodeoIs_6 : decode cX3_rodeoIs 6 = .ok (.iload_n 2, 1) := by decide +kernel
theorem dX3_rodeoIs_7 : decode cX3_rodeoIs 7 = .ok (.tableswitch 61 0 4 #[33, 38, 46, 51, 56], 33) := by decide +kernel
theorem dX3_rodeoIs_40 : decode cX3_rodeoIs 40 = .ok (.aload_n 3, 1) := by decide +kernel
theorem dX3_rodeoIs_41 : decode cX3_rodeoIs 41 = .ok (.getfield 79, 3) := by decide +kernel
theorem dX3_rodeoIs_44 : decode cX3_rodeoIs 44 = .ok (.ireturn, 1) := by decide +kernel
theorem dX3_rodeoIs_45 : decode cX3_rodeoIs 45 = .ok (.aload_n 3, 1) := by decide +kernel
theorem dX3_rodeoIs_46 : decode cX3_rodeoIs 46 = .ok (.getfield 82, 3) := by decide +kernel
theorem dX3_rodeoIs_49 : decode cX3_rodeoIs 49 = .ok (.invokevirtual 37, 3) := by decide +kernel
theorem dX3_rodeoIs_52 : decode cX3_rodeoIs 52 = .ok (.ireturn, 1) := by decide +kernel
theorem dX3_rodeoIs_53 : decode cX3_rodeoIs 53 = .ok (.aload_n 3, 1) := by decide +kernel
theorem dX3_rodeoIs_54 : decode cX3_rodeoIs 54 = .ok (.invokevirtual 85, 3) := by decide +kernel
theorem dX3_rodeoIs_57 : decode cX3_rodeoIs 57 = .ok (.ireturn, 1) := by decide +kernel
theorem dX3_rodeoIs_58 : decode cX3_rodeoIs 58 = .ok (.aload_n 3, 1) := by decide +kernel
theorem dX3_rodeoIs_59 : decode cX3_rodeoIs 59 = .ok (.invokevirtual 88, 3) := by decide +kernel
theorem dX3_rodeoIs_62 : decode cX3_rodeoIs 62 = .ok (.ireturn, 1) := by decide +kernel
theorem dX3_rodeoIs_63 : decode cX3_rodeoIs 63 = .ok (.aload_n 3, 1) := by decide +kernel
theorem dX3_rodeoIs_64 : decode cX3_rodeoIs 64 = .ok (.getfield 91, 3) := by decide +kernel
theorem dX3_rodeoIs_67 : decode cX3_rodeoIs 67 = .ok (.ireturn, 1) := by decide +kernel
theorem dX3_rodeoIs_68 : decode cX3_rodeoIs 68 = .ok (.new 30, 3) := by decide +kernel
theorem dX3_rodeoIs_71 : decode cX3_rodeoIs 71 = .ok (.dup, 1) := by decide +kernel
theorem dX3_rodeoIs_72 : decode cX3_rodeoIs 72 = .ok (.ldc 94, 2) := by decide +kernel
theorem dX3_rodeoIs_74 : decode cX3_rodeoIs 74 = .ok (.invokespecial 34, 3) := by decide +kernel
theorem dX3_rodeoIs_77 : decode cX3_rodeoIs 77 = .ok (.athrow, 1) := by decide +kernel
theorem dX3_enter_0 : decode cX3_enter 0 = .ok (.aload_n 0, 1) := by decide +kernel
theorem dX3_enter_1 : decode cX3_enter 1 = .ok (.iload_n 1, 1) := by decide +kernel
theorem dX3_enter_2 : decode cX3_enter 2 = .ok (.iload_n 2, 1) := by decide +kernel
theorem dX3_enter_3 : decode cX3_enter 3 = .ok (.invokevirtual 96, 3) := by decide +kernel
theorem dX3_enter_6 : decode cX3_enter 6 = .ok (.astore 5, 2) := by decide +kernel
theorem dX3_enter_8 : decode cX3_enter 8 = .ok (.aload_n 0, 1) := by decide +kernel
theorem dX3_enter_9 : decode cX3_enter 9 = .ok (.iload_n 1, 1) := by decide +kernel
theorem dX3_enter_10 : decode cX3_enter 10 = .ok (.invokevirtual 75, 3) := by decide +kernel
theorem dX3_enter_13 : decode cX3_enter 13 = .ok (.astore 6, 2) := by decide +kernel
theorem dX3_enter_15 : decode cX3_enter 15 = .ok (.iload_n 3, 1) := by decide +kernel
theorem dX3_enter_16 : decode cX3_enter 16 = .ok (.iconst 1, 1) := by decide +kernel
theorem dX3_enter_17 : decode cX3_enter 17 = .ok (.iconst 1, 1) := by decide +kernel
theorem dX3_enter_18 : decode cX3_enter 18 = .ok (.aload 6, 2) := by decide +kernel
theorem dX3_enter_20 : decode cX3_enter 20 = .ok (.getfield 100, 3) := by decide +kernel
theorem dX3_enter_23 : decode cX3_enter 23 = .ok (.ishl, 1) := by decide +kernel
theorem dX3_enter_24 : decode cX3_enter 24 = .ok (.iconst 1, 1) := by decide +kernel
theorem dX3_enter_25 : decode cX3_enter 25 = .ok (.isub, 1) := by decide +kernel
theorem dX3_enter_26 : decode cX3_enter 26 = .ok (.invokestatic 57, 3) := by decide +kernel
theorem dX3_enter_29 : decode cX3_enter 29 = .ok (.ifCond .ne 13, 3) := by decide +kernel
theorem dX3_enter_32 : decode cX3_enter 32 = .ok (.new 30, 3) := by decide +kernel
theorem dX3_enter_35 : decode cX3_enter 35 = .ok (.dup, 1) := by decide +kernel
theorem dX3_enter_36 : decode cX3_enter 36 = .ok (.ldc 103, 2) := by decide +kernel
theorem dX3_enter_38 : decode cX3_enter 38 = .ok (.invokespecial 34, 3) := by decide +kernel
theorem dX3_enter_41 : decode cX3_enter 41 = .ok (.athrow, 1) := by decide +kernel
theorem dX3_enter_42 : decode cX3_enter 42 = .ok (.iload 4, 2) := by decide +kernel
theorem dX3_enter_44 : decode cX3_enter 44 = .ok (.iconst 0, 1) := by decide +kernel
theorem dX3_enter_45 : decode cX3_enter 45 = .ok (.aload 6, 2) := by decide +kernel
theorem dX3_enter_47 : decode cX3_enter 47 = .ok (.getfield 100, 3) := by decide +kernel
theorem dX3_enter_50 : decode cX3_enter 50 = .ok (.iconst 1, 1) := by decide +kernel
theorem dX3_enter_51 : decode cX3_enter 51 = .ok (.isub, 1) := by decide +kernel
theorem dX3_enter_52 : decode cX3_enter 52 = .ok (.invokestatic 57, 3) := by decide +kernel
theorem dX3_enter_55 : decode cX3_enter 55 = .ok (.ifCond .eq 12, 3) := by decide +kernel
theorem dX3_enter_58 : decode cX3_enter 58 = .ok (.iload_n 3, 1) := by decide +kernel
theorem dX3_enter_59 : decode cX3_enter 59 = .ok (.iload 4, 2) := by decide +kernel
theorem dX3_enter_61 : decode cX3_enter 61 = .ok (.invokestatic 105, 3) := by decide +kernel
theorem dX3_enter_64 : decode cX3_enter 64 = .ok (.ifCond .ne 13, 3) := by decide +kernel
theorem dX3_enter_67 : decode cX3_enter 67 = .ok (.new 30, 3) := by decide +kernel
theorem dX3_enter_70 : decode cX3_enter 70 = .ok (.dup, 1) := by decide +kernel
theorem dX3_enter_71 : decode cX3_enter 71 = .ok (.ldc 109, 2) := by decide +kernel
theorem dX3_enter_73 : decode cX3_enter 73 = .ok (.invokespecial 34, 3) := by decide +kernel
theorem dX3_enter_76 : decode cX3_enter 76 = .ok (.athrow, 1) := by decide +kernel
theorem dX3_enter_77 : decode cX3_enter 77 = .ok (.aload 6, 2) := by decide +kernel
theorem dX3_enter_79 : decode cX3_enter 79 = .ok (.getfield 79, 3) := by decide +kernel
theorem dX3_enter_82 : decode cX3_enter 82 = .ok (.ifCond .ne 8, 3) := by decide +kernel
theorem dX3_enter_85 : decode cX3_enter 85 = .ok (.aload 5, 2) := by decide +kernel
theorem dX3_enter_87 : decode cX3_enter 87 = .ok (.ifnull 13, 3) := by decide +kernel
theorem dX3_enter_90 : decode cX3_enter 90 = .ok (.new 41, 3) := by decide +kernel
theorem dX3_enter_93 : decode cX3_enter 93 = .ok (.dup, 1) := by decide +kernel
theorem dX3_enter_94 : decode cX3_enter 94 = .ok (.ldc 111, 2) := by decide +kernel
theorem dX3_enter_96 : decode cX3_enter 96 = .ok (.invokespecial 45, 3) := by decide +kernel
theorem dX3_enter_99 : decode cX3_enter 99 = .ok (.athrow, 1) := by decide +kernel
theorem dX3_enter_100 : decode cX3_enter 100 = .ok (.aload 6, 2) := by decide +kernel
theorem dX3_enter_102 : decode cX3_enter 102 = .ok (.new 113, 3) := by decide +kernel
theorem dX3_enter_105 : decode cX3_enter 105 = .ok (.dup, 1) := by decide +kernel
theorem dX3_enter_106 : decode cX3_enter 106 = .ok (.iload_n 2, 1) := by decide +kernel
theorem dX3_enter_107 : decode cX3_enter 107 = .ok (.iload_n 3, 1) := by decide +kernel
theorem dX3_enter_108 : decode cX3_enter 108 = .ok (.iload 4, 2) := by decide +kernel
theorem dX3_enter_110 : decode cX3_enter 110 = .ok (.invokespecial 115, 3) := by decide +kernel
theorem dX3_enter_113 : decode cX3_enter 113 = .ok (.invokevirtual 118, 3) := by decide +kernel
theorem dX3_enter_116 : decode cX3_enter 116 = .ok (.aload 6, 2) := by decide +kernel
theorem dX3_enter_118 : decode cX3_enter 118 = .ok (.getfield 82, 3) := by decide +kernel
theorem dX3_enter_121 : decode cX3_enter 121 = .ok (.invokevirtual 37, 3) := by decide +kernel
theorem dX3_enter_124 : decode cX3_enter 124 = .ok (.ireturn, 1) := by decide +kernel
theorem dX3_close_0 : decode cX3_close 0 = .ok (.aload_n 0, 1) := by decide +kernel
theorem dX3_close_1 : decode cX3_close 1 = .ok (.iload_n 1, 1) := by decide +kernel
theorem dX3_close_2 : decode cX3_close 2 = .ok (.invokevirtual 75, 3) := by decide +kernel
theorem dX3_close_5 : decode cX3_close 5 = .ok (.astore_n 2, 1) := by decide +kernel
theorem dX3_close_6 : decode cX3_close 6 = .ok (.aload_n 2, 1) := by decide +kernel
theorem dX3_close_7 : decode cX3_close 7 = .ok (.getfield 79, 3) := by decide +kernel
theorem dX3_close_10 : decode cX3_close 10 = .ok (.ifCond .eq 13, 3) := by decide +kernel
theorem dX3_close_13 : decode cX3_close 13 = .ok (.new 41, 3) := by decide +kernel
theorem dX3_close_16 : decode cX3_close 16 = .ok (.dup, 1) := by decide +kernel
theorem dX3_close_17 : decode cX3_close 17 = .ok (.ldc 122, 2) := by decide +kernel
theorem dX3_close_19 : decode cX3_close 19 = .ok (.invokespecial 45, 3) := by decide +kernel
theorem dX3_close_22 : decode cX3_close 22 = .ok (.athrow, 1) := by decide +kernel
theorem dX3_close_23 : decode cX3_close 23 = .ok (.iconst 0, 1) := by decide +kernel
theorem dX3_close_24 : decode cX3_close 24 = .ok (.istore_n 3, 1) := by decide +kernel
theorem dX3_close_25 : decode cX3_close 25 = .ok (.iload_n 3, 1) := by decide +kernel
theorem dX3_close_26 : decode cX3_close 26 = .ok (.aload_n 2, 1) := by decide +kernel
theorem dX3_close_27 : decode cX3_close 27 = .ok (.getfield 82, 3) := by decide +kernel
theorem dX3_close_30 : decode cX3_close 30 = .ok (.invokevirtual 37, 3) := by decide +kernel
theorem dX3_close_33 : decode cX3_close 33 = .ok (.if_icmp .ge 34, 3) := by decide +kernel
theorem dX3_close_36 : decode cX3_close 36 = .ok (.aload_n 2, 1) := by decide +kernel
theorem dX3_close_37 : decode cX3_close 37 = .ok (.getfield 82, 3) := by decide +kernel
theorem dX3_close_40 : decode cX3_close 40 = .ok (.iload_n 3, 1) := by decide +kernel
theorem dX3_close_41 : decode cX3_close 41 = .ok (.invokevirtual 124, 3) := by decide +kernel
theorem dX3_close_44 : decode cX3_close 44 = .ok (.checkcast 113, 3) := by decide +kernel
theorem dX3_close_47 : decode cX3_close 47 = .ok (.astore 4, 2) := by decide +kernel
theorem dX3_close_49 : decode cX3_close 49 = .ok (.aload 4, 2) := by decide +kernel
theorem dX3_close_51 : decode cX3_close 51 = .ok (.aload_n 0, 1) := by decide +kernel
theorem dX3_close_52 : decode cX3_close 52 = .ok (.aload_n 2, 1) := by decide +kernel
theorem dX3_close_53 : decode cX3_close 53 = .ok (.aload 4, 2) := by decide +kernel
theorem dX3_close_55 : decode cX3_close 55 = .ok (.invokevirtual 128, 3) := by decide +kernel
theorem dX3_close_58 : decode cX3_close 58 = .ok (.putfield 132, 3) := by decide +kernel
theorem dX3_close_61 : decode cX3_close 61 = .ok (.iinc 3 1, 3) := by decide +kernel
theorem dX3_close_64 : decode cX3_close 64 = .ok (.goto (-39), 3) := by decide +kernel
theorem dX3_close_67 : decode cX3_close 67 = .ok (.aload_n 2, 1) := by decide +kernel
theorem dX3_close_68 : decode cX3_close 68 = .ok (.iconst 1, 1) := by decide +kernel
theorem dX3_close_69 : decode cX3_close 69 = .ok (.putfield 79, 3) := by decide +kernel
theorem dX3_close_72 : decode cX3_close 72 = .ok (.aload_n 2, 1) := by decide +kernel
theorem dX3_close_73 : decode cX3_close 73 = .ok (.invokevirtual 85, 3) := by decide +kernel
theorem dX3_close_76 : decode cX3_close 76 = .ok (.ireturn, 1) := by decide +kernel
theorem dX3_placed_0 : decode cX3_placed 0 = .ok (.aload_n 0, 1) := by decide +kernel
theorem dX3_placed_1 : decode cX3_placed 1 = .ok (.iload_n 1, 1) := by decide +kernel
theorem dX3_placed_2 : decode cX3_placed 2 = .ok (.iload_n 2, 1) := by decide +kernel
theorem dX3_placed_3 : decode cX3_placed 3 = .ok (.invokevirtual 96, 3) := by decide +kernel
theorem dX3_placed_6 : decode cX3_placed 6 = .ok (.astore_n 3, 1) := by decide +kernel
theorem dX3_placed_7 : decode cX3_placed 7 = .ok (.aload_n 3, 1) := by decide +kernel
theorem dX3_placed_8 : decode cX3_placed 8 = .ok (.ifnonnull 7, 3) := by decide +kernel
theorem dX3_placed_11 : decode cX3_placed 11 = .ok (.iconst (-1), 1) := by decide +kernel
theorem dX3_placed_12 : decode cX3_placed 12 = .ok (.goto 7, 3) := by decide +kernel
theorem dX3_placed_15 : decode cX3_placed 15 = .ok (.aload_n 3, 1) := by decide +kernel
theorem dX3_placed_16 : decode cX3_placed 16 = .ok (.getfield 132, 3) := by decide +kernel
theorem dX3_placed_19 : decode cX3_placed 19 = .ok (.ireturn, 1) := by decide +kernel
theorem dX3_most_0 : decode cX3_most 0 = .ok (.aload_n 0, 1) := by decide +kernel
theorem dX3_most_1 : decode cX3_most 1 = .ok (.iload_n 1, 1) := by decide +kernel
theorem dX3_most_2 : decode cX3_most 2 = .ok (.invokevirtual 75, 3) := by decide +kernel
theorem dX3_most_5 : decode cX3_most 5 = .ok (.astore_n 2, 1) := by decide +kernel
theorem dX3_most_6 : decode cX3_most 6 = .ok (.aload_n 2, 1) := by decide +kernel
theorem dX3_most_7 : decode cX3_most 7 = .ok (.getfield 82, 3) := by decide +kernel
theorem dX3_most_10 : decode cX3_most 10 = .ok (.invokevirtual 37, 3) := by decide +kernel
theorem dX3_most_13 : decode cX3_most 13 = .ok (.istore_n 3, 1) := by decide +kernel
theorem dX3_most_14 : decode cX3_most 14 = .ok (.iconst 0, 1) := by decide +kernel
theorem dX3_most_15 : decode cX3_most 15 = .ok (.istore 4, 2) := by decide +kernel
theorem dX3_most_17 : decode cX3_most 17 = .ok (.iload 4, 2) := by decide +kernel
theorem dX3_most_19 : decode cX3_most 19 = .ok (.iconst 1, 1) := by decide +kernel
theorem dX3_most_20 : decode cX3_most 20 = .ok (.aload_n 2, 1) := by decide +kernel
theorem dX3_most_21 : decode cX3_most 21 = .ok (.getfield 100, 3) := by decide +kernel
theorem dX3_most_24 : decode cX3_most 24 = .ok (.ishl, 1) := by decide +kernel
theorem dX3_most_25 : decode cX3_most 25 = .ok (.if_icmp .ge 36, 3) := by decide +kernel
theorem dX3_most_28 : decode cX3_most 28 = .ok (.aload_n 2, 1) := by decide +kernel
theorem dX3_most_29 : decode cX3_most 29 = .ok (.getfield 135, 3) := by decide +kernel
theorem dX3_most_32 : decode cX3_most 32 = .ok (.iload 4, 2) := by decide +kernel
theorem dX3_most_34 : decode cX3_most 34 = .ok (.invokestatic 138, 3) := by decide +kernel
theorem dX3_most_37 : decode cX3_most 37 = .ok (.imul, 1) := by decide +kernel
theorem dX3_most_38 : decode cX3_most 38 = .ok (.aload_n 0, 1) := by decide +kernel
theorem dX3_most_39 : decode cX3_most 39 = .ok (.aload_n 2, 1) := by decide +kernel
theorem dX3_most_40 : decode cX3_most 40 = .ok (.iload 4, 2) := by decide +kernel
theorem dX3_most_42 : decode cX3_most 42 = .ok (.invokevirtual 144, 3) := by decide +kernel
theorem dX3_most_45 : decode cX3_most 45 = .ok (.iadd, 1) := by decide +kernel
theorem dX3_most_46 : decode cX3_most 46 = .ok (.istore 5, 2) := by decide +kernel
theorem dX3_most_48 : decode cX3_most 48 = .ok (.iload_n 3, 1) := by decide +kernel
theorem dX3_most_49 : decode cX3_most 49 = .ok (.iload 5, 2) := by decide +kernel
theorem dX3_most_51 : decode cX3_most 51 = .ok (.invokestatic 148, 3) := by decide +kernel
theorem dX3_most_54 : decode cX3_most 54 = .ok (.istore_n 3, 1) := by decide +kernel
theorem dX3_most_55 : decode cX3_most 55 = .ok (.iinc 4 1, 3) := by decide +kernel
theorem dX3_most_58 : decode cX3_most 58 = .ok (.goto (-41), 3) := by decide +kernel
theorem dX3_most_61 : decode cX3_most 61 = .ok (.iload_n 3, 1) := by decide +kernel
theorem dX3_most_62 : decode cX3_most 62 = .ok (.ireturn, 1) := by decide +kernel
theorem dX3_hide_0 : decode cX3_hide 0 = .ok (.iload_n 1, 1) := by decide +kernel
theorem dX3_hide_1 : decode cX3_hide 1 = .ok (.iconst 0, 1) := by decide +kernel
theorem dX3_hide_2 : decode cX3_hide 2 = .ok (.ldc 154, 2) := by decide +kernel
theorem dX3_hide_4 : decode cX3_hide 4 = .ok (.invokestatic 57, 3) := by decide +kernel
theorem dX3_hide_7 : decode cX3_hide 7 = .ok (.ifCond .ne 13, 3) := by decide +kernel
theorem dX3_hide_10 : decode cX3_hide 10 = .ok (.new 30, 3) := by decide +kernel
theorem dX3_hide_13 : decode cX3_hide 13 = .ok (.dup, 1) := by decide +kernel
theorem dX3_hide_14 : decode cX3_hide 14 = .ok (.ldc 155, 2) := by decide +kernel
theorem dX3_hide_16 : decode cX3_hide 16 = .ok (.invokespecial 34, 3) := by decide +kernel
theorem dX3_hide_19 : decode cX3_hide 19 = .ok (.athrow, 1) := by decide +kernel
theorem dX3_hide_20 : decode cX3_hide 20 = .ok (.aload_n 0, 1) := by decide +kernel
theorem dX3_hide_21 : decode cX3_hide 21 = .ok (.iload_n 1, 1) := by decide +kernel
theorem dX3_hide_22 : decode cX3_hide 22 = .ok (.putfield 23, 3) := by decide +kernel
theorem dX3_hide_25 : decode cX3_hide 25 = .ok (.return_, 1) := by decide +kernel
theorem dX3_draw_0 : decode cX3_draw 0 = .ok (.aload_n 0, 1) := by decide +kernel
theorem dX3_draw_1 : decode cX3_draw 1 = .ok (.iload_n 1, 1) := by decide +kernel
theorem dX3_draw_2 : decode cX3_draw 2 = .ok (.invokevirtual 75, 3) := by decide +kernel
theorem dX3_draw_5 : decode cX3_draw 5 = .ok (.astore_n 2, 1) := by decide +kernel
theorem dX3_draw_6 : decode cX3_draw 6 = .ok (.aload_n 2, 1) := by decide +kernel
theorem dX3_draw_7 : decode cX3_draw 7 = .ok (.getfield 79, 3) := by decide +kernel
theorem dX3_draw_10 : decode cX3_draw 10 = .ok (.iconst 1, 1) := by decide +kernel
theorem dX3_draw_11 : decode cX3_draw 11 = .ok (.if_icmp .eq 13, 3) := by decide +kernel
theorem dX3_draw_14 : decode cX3_draw 14 = .ok (.new 41, 3) := by decide +kernel
theorem dX3_draw_17 : decode cX3_draw 17 = .ok (.dup, 1) := by decide +kernel
theorem dX3_draw_18 : decode cX3_draw 18 = .ok (.ldc 157, 2) := by decide +kernel
theorem dX3_draw_20 : decode cX3_draw 20 = .ok (.invokespecial 45, 3) := by decide +kernel
theorem dX3_draw_23 : decode cX3_draw 23 = .ok (.athrow, 1) := by decide +kernel
theorem dX3_draw_24 : decode cX3_draw 24 = .ok (.iconst 0, 1) := by decide +kernel
theorem dX3_draw_25 : decode cX3_draw 25 = .ok (.istore_n 3, 1) := by decide +kernel
theorem dX3_draw_26 : decode cX3_draw 26 = .ok (.iconst 0, 1) := by decide +kernel
theorem dX3_draw_27 : decode cX3_draw 27 = .ok (.istore 4, 2) := by decide +kernel
theorem dX3_draw_29 : decode cX3_draw 29 = .ok (.iload 4, 2) := by decide +kernel
theorem dX3_draw_31 : decode cX3_draw 31 = .ok (.aload_n 2, 1) := by decide +kernel
theorem dX3_draw_32 : decode cX3_draw 32 = .ok (.getfield 100, 3) := by decide +kernel
theorem dX3_draw_35 : decode cX3_draw 35 = .ok (.if_icmp .ge 19, 3) := by decide +kernel
theorem dX3_draw_38 : decode cX3_draw 38 = .ok (.iload_n 3, 1) := by decide +kernel
theorem dX3_draw_39 : decode cX3_draw 39 = .ok (.aload_n 0, 1) := by decide +kernel
theorem dX3_draw_40 : decode cX3_draw 40 = .ok (.aload_n 2, 1) := by decide +kernel
theorem dX3_draw_41 : decode cX3_draw 41 = .ok (.iload 4, 2) := by decide +kernel
theorem dX3_draw_43 : decode cX3_draw 43 = .ok (.invokevirtual 159, 3) := by decide +kernel
theorem dX3_draw_46 : decode cX3_draw 46 = .ok (.iadd, 1) := by decide +kernel
theorem dX3_draw_47 : decode cX3_draw 47 = .ok (.istore_n 3, 1) := by decide +kernel
theorem dX3_draw_48 : decode cX3_draw 48 = .ok (.iinc 4 1, 3) := by decide +kernel
theorem dX3_draw_51 : decode cX3_draw 51 = .ok (.goto (-22), 3) := by decide +kernel
theorem dX3_draw_54 : decode cX3_draw 54 = .ok (.aload_n 2, 1) := by decide +kernel
theorem dX3_draw_55 : decode cX3_draw 55 = .ok (.iconst 2, 1) := by decide +kernel
theorem dX3_draw_56 : decode cX3_draw 56 = .ok (.putfield 79, 3) := by decide +kernel
theorem dX3_draw_59 : decode cX3_draw 59 = .ok (.iload_n 3, 1) := by decide +kernel
theorem dX3_draw_60 : decode cX3_draw 60 = .ok (.ireturn, 1) := by decide +kernel
theorem dX3_drawn_0 : decode cX3_drawn 0 = .ok (.aload_n 0, 1) := by decide +kernel
theorem dX3_drawn_1 : decode cX3_drawn 1 = .ok (.iload_n 1, 1) := by decide +kernel
theorem dX3_drawn_2 : decode cX3_drawn 2 = .ok (.iload_n 2, 1) := by decide +kernel
theorem dX3_drawn_3 : decode cX3_drawn 3 = .ok (.invokevirtual 96, 3) := by decide +kernel
theorem dX3_drawn_6 : decode cX3_drawn 6 = .ok (.astore_n 3, 1) := by decide +kernel
theorem dX3_drawn_7 : decode cX3_drawn 7 = .ok (.aload_n 3, 1) := by decide +kernel
theorem dX3_drawn_8 : decode cX3_drawn 8 = .ok (.ifnonnull 7, 3) := by decide +kernel
theorem dX3_drawn_11 : decode cX3_drawn 11 = .ok (.iconst (-1), 1) := by decide +kernel
theorem dX3_drawn_12 : decode cX3_drawn 12 = .ok (.goto 7, 3) := by decide +kernel
theorem dX3_drawn_15 : decode cX3_drawn 15 = .ok (.aload_n 3, 1) := by decide +kernel
theorem dX3_drawn_16 : decode cX3_drawn 16 = .ok (.invokevirtual 162, 3) := by decide +kernel
theorem dX3_drawn_19 : decode cX3_drawn 19 = .ok (.ireturn, 1) := by decide +kernel
theorem dX3_ride_0 : decode cX3_ride 0 = .ok (.aload_n 0, 1) := by decide +kernel
theorem dX3_ride_1 : decode cX3_ride 1 = .ok (.iload_n 1, 1) := by decide +kernel
theorem dX3_ride_2 : decode cX3_ride 2 = .ok (.iload_n 2, 1) := by decide +kernel
theorem dX3_ride_3 : decode cX3_ride 3 = .ok (.invokevirtual 96, 3) := by decide +kernel
theorem dX3_ride_6 : decode cX3_ride 6 = .ok (.astore 6, 2) := by decide +kernel
theorem dX3_ride_8 : decode cX3_ride 8 = .ok (.iload_n 3, 1) := by decide +kernel
theorem dX3_ride_9 : decode cX3_ride 9 = .ok (.iconst 0, 1) := by decide +kernel
theorem dX3_ride_10 : decode cX3_ride 10 = .ok (.ldc 165, 2) := by decide +kernel
theorem dX3_ride_12 : decode cX3_ride 12 = .ok (.invokestatic 57, 3) := by decide +kernel
theorem dX3_ride_15 : decode cX3_ride 15 = .ok (.ifCond .eq 14, 3) := by decide +kernel
theorem dX3_ride_18 : decode cX3_ride 18 = .ok (.iload 4, 2) := by decide +kernel
theorem dX3_ride_20 : decode cX3_ride 20 = .ok (.iconst 0, 1) := by decide +kernel
theorem dX3_ride_21 : decode cX3_ride 21 = .ok (.ldc 166, 2) := by decide +kernel
theorem dX3_ride_23 : decode cX3_ride 23 = .ok (.invokestatic 57, 3) := by decide +kernel
theorem dX3_ride_26 : decode cX3_ride 26 = .ok (.ifCond .ne 13, 3) := by decide +kernel
theorem dX3_ride_29 : decode cX3_ride 29 = .ok (.new 30, 3) := by decide +kernel
theorem dX3_ride_32 : decode cX3_ride 32 = .ok (.dup, 1) := by decide +kernel
theorem dX3_ride_33 : decode cX3_ride 33 = .ok (.ldc 167, 2) := by decide +kernel
theorem dX3_ride_35 : decode cX3_ride 35 = .ok (.invokespecial 34, 3) := by decide +kernel
theorem dX3_ride_38 : decode cX3_ride 38 = .ok (.athrow, 1) := by decide +kernel
theorem dX3_ride_39 : decode cX3_ride 39 = .ok (.aload_n 0, 1) := by decide +kernel
theorem dX3_ride_40 : decode cX3_ride 40 = .ok (.iload_n 1, 1) := by decide +kernel
theorem dX3_ride_41 : decode cX3_ride 41 = .ok (.invokevirtual 75, 3) := by decide +kernel
theorem dX3_ride_44 : decode cX3_ride 44 = .ok (.getfield 79, 3) := by decide +kernel
theorem dX3_ride_47 : decode cX3_ride 47 = .ok (.iconst 2, 1) := by decide +kernel
theorem dX3_ride_48 : decode cX3_ride 48 = .ok (.if_icmp .ne 16, 3) := by decide +kernel
theorem dX3_ride_51 : decode cX3_ride 51 = .ok (.aload 6, 2) := by decide +kernel
theorem dX3_ride_53 : decode cX3_ride 53 = .ok (.ifnull 11, 3) := by decide +kernel
theorem dX3_ride_56 : decode cX3_ride 56 = .ok (.aload 6, 2) := by decide +kernel
theorem dX3_ride_58 : decode cX3_ride 58 = .ok (.getfield 169, 3) := by decide +kernel
theorem dX3_ride_61 : decode cX3_ride 61 = .ok (.ifCond .ne 13, 3) := by decide +kernel
theorem dX3_ride_64 : decode cX3_ride 64 = .ok (.new 41, 3) := by decide +kernel
theorem dX3_ride_67 : decode cX3_ride 67 = .ok (.dup, 1) := by decide +kernel
theorem dX3_ride_68 : decode cX3_ride 68 = .ok (.ldc 173, 2) := by decide +kernel
theorem dX3_ride_70 : decode cX3_ride 70 = .ok (.invokespecial 45, 3) := by decide +kernel
theorem dX3_ride_73 : decode cX3_ride 73 = .ok (.athrow, 1) := by decide +kernel
theorem dX3_ride_74 : decode cX3_ride 74 = .ok (.iload_n 3, 1) := by decide +kernel
theorem dX3_ride_75 : decode cX3_ride 75 = .ok (.iconst 0, 1) := by decide +kernel
theorem dX3_ride_76 : decode cX3_ride 76 = .ok (.invokestatic 175, 3) := by decide +kernel
theorem dX3_ride_79 : decode cX3_ride 79 = .ok (.iload_n 3, 1) := by decide +kernel
theorem dX3_ride_80 : decode cX3_ride 80 = .ok (.iconst 2, 1) := by decide +kernel
theorem dX3_ride_81 : decode cX3_ride 81 = .ok (.invokestatic 175, 3) := by decide +kernel
theorem dX3_ride_84 : decode cX3_ride 84 = .ok (.iadd, 1) := by decide +kernel
theorem dX3_ride_85 : decode cX3_ride 85 = .ok (.istore 7, 2) := by decide +kernel
theorem dX3_ride_87 : decode cX3_ride 87 = .ok (.iload_n 3, 1) := by decide +kernel
theorem dX3_ride_88 : decode cX3_ride 88 = .ok (.iconst 1, 1) := by decide +kernel
theorem dX3_ride_89 : decode cX3_ride 89 = .ok (.invokestatic 175, 3) := by decide +kernel
theorem dX3_ride_92 : decode cX3_ride 92 = .ok (.iload_n 3, 1) := by decide +kernel
theorem dX3_ride_93 : decode cX3_ride 93 = .ok (.iconst 3, 1) := by decide +kernel
theorem dX3_ride_94 : decode cX3_ride 94 = .ok (.invokestatic 175, 3) := by decide +kernel
theorem dX3_ride_97 : decode cX3_ride 97 = .ok (.iadd, 1) := by decide +kernel
theorem dX3_ride_98 : decode cX3_ride 98 = .ok (.istore 8, 2) := by decide +kernel
theorem dX3_ride_100 : decode cX3_ride 100 = .ok (.iload 4, 2) := by decide +kernel
theorem dX3_ride_102 : decode cX3_ride 102 = .ok (.sipush 1000, 3) := by decide +kernel
theorem dX3_ride_105 : decode cX3_ride 105 = .ok (.idiv, 1) := by decide +kernel
theorem dX3_ride_106 : decode cX3_ride 106 = .ok (.iload 4, 2) := by decide +kernel
theorem dX3_ride_108 : decode cX3_ride 108 = .ok (.sipush 1000, 3) := by decide +kernel
theorem dX3_ride_111 : decode cX3_ride 111 = .ok (.irem, 1) := by decide +kernel
theorem dX3_ride_112 : decode cX3_ride 112 = .ok (.iadd, 1) := by decide +kernel
theorem dX3_ride_113 : decode cX3_ride 113 = .ok (.sipush 1600, 3) := by decide +kernel
theorem dX3_ride_116 : decode cX3_ride 116 = .ok (.if_icmp .lt 7, 3) := by decide +kernel
theorem dX3_ride_119 : decode cX3_ride 119 = .ok (.iconst 1, 1) := by decide +kernel
theorem dX3_ride_120 : decode cX3_ride 120 = .ok (.goto 4, 3) := by decide +kernel
theorem dX3_ride_123 : decode cX3_ride 123 = .ok (.iconst 0, 1) := by decide +kernel
theorem dX3_ride_124 : decode cX3_ride 124 = .ok (.istore 9, 2) := by decide +kernel
theorem dX3_ride_126 : decode cX3_ride 126 = .ok (.aload 6, 2) := by decide +kernel
theorem dX3_ride_128 : decode cX3_ride 128 = .ok (.iload 5, 2) := by decide +kernel
theorem dX3_ride_130 : decode cX3_ride 130 = .ok (.ifCond .ne 12, 3) := by decide +kernel
theorem dX3_ride_133 : decode cX3_ride 133 = .ok (.iload 9, 2) := by decide +kernel
theorem dX3_ride_135 : decode cX3_ride 135 = .ok (.ifCond .eq 7, 3) := by decide +kernel
theorem dX3_ride_138 : decode cX3_ride 138 = .ok (.iconst 1, 1) := by decide +kernel
theorem dX3_ride_139 : decode cX3_ride 139 = .ok (.goto 4, 3) := by decide +kernel
theorem dX3_ride_142 : decode cX3_ride 142 = .ok (.iconst 0, 1) := by decide +kernel
theorem dX3_ride_143 : decode cX3_ride 143 = .ok (.iload 7, 2) := by decide +kernel
theorem dX3_ride_145 : decode cX3_ride 145 = .ok (.iload 8, 2) := by decide +kernel
theorem dX3_ride_147 : decode cX3_ride 147 = .ok (.invokevirtual 178, 3) := by decide +kernel
theorem dX3_ride_150 : decode cX3_ride 150 = .ok (.aload 6, 2) := by decide +kernel
theorem dX3_ride_152 : decode cX3_ride 152 = .ok (.getfield 182, 3) := by decide +kernel
theorem dX3_ride_155 : decode cX3_ride 155 = .ok (.ireturn, 1) := by decide +kernel
theorem dX3_isOffered_0 : decode cX3_isOffered 0 = .ok (.aload_n 0, 1) := by decide +kernel
theorem dX3_isOffered_1 : decode cX3_isOffered 1 = .ok (.iload_n 1, 1) := by decide +kernel
theorem dX3_isOffered_2 : decode cX3_isOffered 2 = .ok (.iload_n 2, 1) := by decide +kernel
theorem dX3_isOffered_3 : decode cX3_isOffered 3 = .ok (.invokevirtual 96, 3) := by decide +kernel
theorem dX3_isOffered_6 : decode cX3_isOffered 6 = .ok (.astore_n 3, 1) := by decide +kernel
theorem dX3_isOffered_7 : decode cX3_isOffered 7 = .ok (.aload_n 3, 1) := by decide +kernel
theorem dX3_isOffered_8 : decode cX3_isOffered 8 = .ok (.ifnull 14, 3) := by decide +kernel
theorem dX3_isOffered_11 : decode cX3_isOffered 11 = .ok (.aload_n 3, 1) := by decide +kernel
theorem dX3_isOffered_12 : decode cX3_isOffered 12 = .ok (.getfield 185, 3) := by decide +kernel
theorem dX3_isOffered_15 : decode cX3_isOffered 15 = .ok (.ifCond .eq 7, 3) := by decide +kernel
theorem dX3_isOffered_18 : decode cX3_isOffered 18 = .ok (.iconst 1, 1) := by decide +kernel
theorem dX3_isOffered_19 : decode cX3_isOffered 19 = .ok (.goto 4, 3) := by decide +kernel
theorem dX3_isOffered_22 : decode cX3_isOffered 22 = .ok (.iconst 0, 1) := by decide +kernel
theorem dX3_isOffered_23 : decode cX3_isOffered 23 = .ok (.ireturn, 1) := by decide +kernel
theorem dX3_answer_0 : decode cX3_answer 0 = .ok (.aload_n 0, 1) := by decide +kernel
theorem dX3_answer_1 : decode cX3_answer 1 = .ok (.iload_n 1, 1) := by decide +kernel
theorem dX3_answer_2 : decode cX3_answer 2 = .ok (.iload_n 2, 1) := by decide +kernel
theorem dX3_answer_3 : decode cX3_answer 3 = .ok (.invokevirtual 96, 3) := by decide +kernel
theorem dX3_answer_6 : decode cX3_answer 6 = .ok (.astore 4, 2) := by decide +kernel
theorem dX3_answer_8 : decode cX3_answer 8 = .ok (.aload 4, 2) := by decide +kernel
theorem dX3_answer_10 : decode cX3_answer 10 = .ok (.ifnull 11, 3) := by decide +kernel
theorem dX3_answer_13 : decode cX3_answer 13 = .ok (.aload 4, 2) := by decide +kernel
theorem dX3_answer_15 : decode cX3_answer 15 = .ok (.getfield 185, 3) := by decide +kernel
theorem dX3_answer_18 : decode cX3_answer 18 = .ok (.ifCond .ne 13, 3) := by decide +kernel
theorem dX3_answer_21 : decode cX3_answer 21 = .ok (.new 41, 3) := by decide +kernel
theorem dX3_answer_24 : decode cX3_answer 24 = .ok (.dup, 1) := by decide +kernel
theorem dX3_answer_25 : decode cX3_answer 25 = .ok (.ldc 188, 2) := by decide +kernel
theorem dX3_answer_27 : decode cX3_answer 27 = .ok (.invokespecial 45, 3) := by decide +kernel
theorem dX3_answer_30 : decode cX3_answer 30 = .ok (.athrow, 1) := by decide +kernel
theorem dX3_answer_31 : decode cX3_answer 31 = .ok (.aload 4, 2) := by decide +kernel
theorem dX3_answer_33 : decode cX3_answer 33 = .ok (.iconst 0, 1) := by decide +kernel
theorem dX3_answer_34 : decode cX3_answer 34 = .ok (.putfield 185, 3) := by decide +kernel
theorem dX3_answer_37 : decode cX3_answer 37 = .ok (.iload_n 3, 1) := by decide +kernel
theorem dX3_answer_38 : decode cX3_answer 38 = .ok (.ifCond .ne 5, 3) := by decide +kernel
theorem dX3_answer_41 : decode cX3_answer 41 = .ok (.iconst (-1), 1) := by decide +kernel
theorem dX3_answer_42 : decode cX3_answer 42 = .ok (.ireturn, 1) := by decide +kernel
theorem dX3_answer_43 : decode cX3_answer 43 = .ok (.aload 4, 2) := by decide +kernel
theorem dX3_answer_45 : decode cX3_answer 45 = .ok (.invokevirtual 190, 3) := by decide +kernel
theorem dX3_answer_48 : decode cX3_answer 48 = .ok (.aload 4, 2) := by decide +kernel
theorem dX3_answer_50 : decode cX3_answer 50 = .ok (.iconst 1, 1) := by decide +kernel
theorem dX3_answer_51 : decode cX3_answer 51 = .ok (.putfield 193, 3) := by decide +kernel
theorem dX3_answer_54 : decode cX3_answer 54 = .ok (.aload_n 0, 1) := by decide +kernel
theorem dX3_answer_55 : decode cX3_answer 55 = .ok (.aload_n 0, 1) := by decide +kernel
theorem dX3_answer_56 : decode cX3_answer 56 = .ok (.iload_n 1, 1) := by decide +kernel
theorem dX3_answer_57 : decode cX3_answer 57 = .ok (.invokevirtual 75, 3) := by decide +kernel
theorem dX3_answer_60 : decode cX3_answer 60 = .ok (.aload 4, 2) := by decide +kernel
theorem dX3_answer_62 : decode cX3_answer 62 = .ok (.invokevirtual 196, 3) := by decide +kernel
theorem dX3_answer_65 : decode cX3_answer 65 = .ok (.aload 4, 2) := by decide +kernel
theorem dX3_answer_67 : decode cX3_answer 67 = .ok (.invokevirtual 162, 3) := by decide +kernel
theorem dX3_answer_70 : decode cX3_answer 70 = .ok (.ireturn, 1) := by decide +kernel
theorem dX3_score_0 : decode cX3_score 0 = .ok (.aload_n 0, 1) := by decide +kernel
theorem dX3_score_1 : decode cX3_score 1 = .ok (.iload_n 1, 1) := by decide +kernel
theorem dX3_score_2 : decode cX3_score 2 = .ok (.iload_n 2, 1) := by decide +kernel
theorem dX3_score_3 : decode cX3_score 3 = .ok (.invokevirtual 96, 3) := by decide +kernel
theorem dX3_score_6 : decode cX3_score 6 = .ok (.astore_n 3, 1) := by decide +kernel
theorem dX3_score_7 : decode cX3_score 7 = .ok (.aload_n 3, 1) := by decide +kernel
theorem dX3_score_8 : decode cX3_score 8 = .ok (.ifnonnull 7, 3) := by decide +kernel
theorem dX3_score_11 : decode cX3_score 11 = .ok (.iconst (-1), 1) := by decide +kernel
theorem dX3_score_12 : decode cX3_score 12 = .ok (.goto 7, 3) := by decide +kernel
theorem dX3_score_15 : decode cX3_score 15 = .ok (.aload_n 3, 1) := by decide +kernel
theorem dX3_score_16 : decode cX3_score 16 = .ok (.getfield 182, 3) := by decide +kernel
theorem dX3_score_19 : decode cX3_score 19 = .ok (.ireturn, 1) := by decide +kernel
theorem dX3_beastIs_0 : decode cX3_beastIs 0 = .ok (.iload_n 1, 1) := by decide +kernel
theorem dX3_beastIs_1 : decode cX3_beastIs 1 = .ok (.ifCond .lt 14, 3) := by decide +kernel
theorem dX3_beastIs_4 : decode cX3_beastIs 4 = .ok (.iload_n 1, 1) := by decide +kernel
theorem dX3_beastIs_5 : decode cX3_beastIs 5 = .ok (.aload_n 0, 1) := by decide +kernel
theorem dX3_beastIs_6 : decode cX3_beastIs 6 = .ok (.getfield 12, 3) := by decide +kernel
theorem dX3_beastIs_9 : decode cX3_beastIs 9 = .ok (.invokevirtual 37, 3) := by decide +kernel
theorem dX3_beastIs_12 : decode cX3_beastIs 12 = .ok (.if_icmp .lt 13, 3) := by decide +kernel
theorem dX3_beastIs_15 : decode cX3_beastIs 15 = .ok (.new 200, 3) := by decide +kernel
theorem dX3_beastIs_18 : decode cX3_beastIs 18 = .ok (.dup, 1) := by decide +kernel
theorem dX3_beastIs_19 : decode cX3_beastIs 19 = .ok (.ldc 202, 2) := by decide +kernel
theorem dX3_beastIs_21 : decode cX3_beastIs 21 = .ok (.invokespecial 204, 3) := by decide +kernel
theorem dX3_beastIs_24 : decode cX3_beastIs 24 = .ok (.athrow, 1) := by decide +kernel
theorem dX3_beastIs_25 : decode cX3_beastIs 25 = .ok (.aload_n 0, 1) := by decide +kernel
theorem dX3_beastIs_26 : decode cX3_beastIs 26 = .ok (.getfield 12, 3) := by decide +kernel
theorem dX3_beastIs_29 : decode cX3_beastIs 29 = .ok (.iload_n 1, 1) := by decide +kernel
theorem dX3_beastIs_30 : decode cX3_beastIs 30 = .ok (.invokevirtual 124, 3) := by decide +kernel
theorem dX3_beastIs_33 : decode cX3_beastIs 33 = .ok (.checkcast 46, 3) := by decide +kernel
theorem dX3_beastIs_36 : decode cX3_beastIs 36 = .ok (.astore_n 3, 1) := by decide +kernel
theorem dX3_beastIs_37 : decode cX3_beastIs 37 = .ok (.iload_n 2, 1) := by decide +kernel
theorem dX3_beastIs_38 : decode cX3_beastIs 38 = .ok (.tableswitch 60 0 4 #[34, 39, 44, 49, 54], 34) := by decide +kernel
theorem dX3_beastIs_72 : decode cX3_beastIs 72 = .ok (.aload_n 3, 1) := by decide +kernel
theorem dX3_beastIs_73 : decode cX3_beastIs 73 = .ok (.getfield 205, 3) := by decide +kernel
theorem dX3_beastIs_76 : decode cX3_beastIs 76 = .ok (.ireturn, 1) := by decide +kernel
theorem dX3_beastIs_77 : decode cX3_beastIs 77 = .ok (.aload_n 3, 1) := by decide +kernel
theorem dX3_beastIs_78 : decode cX3_beastIs 78 = .ok (.getfield 208, 3) := by decide +kernel
theorem dX3_beastIs_81 : decode cX3_beastIs 81 = .ok (.ireturn, 1) := by decide +kernel
theorem dX3_beastIs_82 : decode cX3_beastIs 82 = .ok (.aload_n 3, 1) := by decide +kernel
theorem dX3_beastIs_83 : decode cX3_beastIs 83 = .ok (.getfield 211, 3) := by decide +kernel
theorem dX3_beastIs_86 : decode cX3_beastIs 86 = .ok (.ireturn, 1) := by decide +kernel
theorem dX3_beastIs_87 : decode cX3_beastIs 87 = .ok (.aload_n 3, 1) := by decide +kernel
theorem dX3_beastIs_88 : decode cX3_beastIs 88 = .ok (.getfield 214, 3) := by decide +kernel
theorem dX3_beastIs_91 : decode cX3_beastIs 91 = .ok (.ireturn, 1) := by decide +kernel
theorem dX3_beastIs_92 : decode cX3_beastIs 92 = .ok (.aload_n 0, 1) := by decide +kernel
theorem dX3_beastIs_93 : decode cX3_beastIs 93 = .ok (.aload_n 3, 1) := by decide +kernel
theorem dX3_beastIs_94 : decode cX3_beastIs 94 = .ok (.invokevirtual 217, 3) := by decide +kernel
theorem dX3_beastIs_97 : decode cX3_beastIs 97 = .ok (.ireturn, 1) := by decide +kernel
theorem dX3_beastIs_98 : decode cX3_beastIs 98 = .ok (.new 30, 3) := by decide +kernel
theorem dX3_beastIs_101 : decode cX3_beastIs 101 = .ok (.dup, 1) := by decide +kernel
theorem dX3_beastIs_102 : decode cX3_beastIs 102 = .ok (.ldc 94, 2) := by decide +kernel
theorem dX3_beastIs_104 : decode cX3_beastIs 104 = .ok (.invokespecial 34, 3) := by decide +kernel
theorem dX3_beastIs_107 : decode cX3_beastIs 107 = .ok (.athrow, 1) := by decide +kernel
theorem dX3_pay_0 : decode cX3_pay 0 = .ok (.aload_n 0, 1) := by decide +kernel
theorem dX3_pay_1 : decode cX3_pay 1 = .ok (.iload_n 1, 1) := by decide +kernel
theorem dX3_pay_2 : decode cX3_pay 2 = .ok (.invokevirtual 75, 3) := by decide +kernel
theorem dX3_pay_5 : decode cX3_pay 5 = .ok (.astore_n 2, 1) := by decide +kernel
theorem dX3_pay_6 : decode cX3_pay 6 = .ok (.aload_n 2, 1) := by decide +kernel
theorem dX3_pay_7 : decode cX3_pay 7 = .ok (.invokevirtual 221, 3) := by decide +kernel
theorem dX3_pay_10 : decode cX3_pay 10 = .ok (.ifCond .ne 13, 3) := by decide +kernel
theorem dX3_pay_13 : decode cX3_pay 13 = .ok (.new 41, 3) := by decide +kernel
theorem dX3_pay_16 : decode cX3_pay 16 = .ok (.dup, 1) := by decide +kernel
theorem dX3_pay_17 : decode cX3_pay 17 = .ok (.ldc 225, 2) := by decide +kernel
theorem dX3_pay_19 : decode cX3_pay 19 = .ok (.invokespecial 45, 3) := by decide +kernel
theorem dX3_pay_22 : decode cX3_pay 22 = .ok (.athrow, 1) := by decide +kernel
theorem dX3_pay_23 : decode cX3_pay 23 = .ok (.aload_n 2, 1) := by decide +kernel
theorem dX3_pay_24 : decode cX3_pay 24 = .ok (.invokevirtual 227, 3) := by decide +kernel
theorem dX3_pay_27 : decode cX3_pay 27 = .ok (.aload_n 2, 1) := by decide +kernel
theorem dX3_pay_28 : decode cX3_pay 28 = .ok (.invokevirtual 230, 3) := by decide +kernel
theorem dX3_pay_31 : decode cX3_pay 31 = .ok (.ireturn, 1) := by decide +kernel
theorem dX3_got_0 : decode cX3_got 0 = .ok (.aload_n 0, 1) := by decide +kernel
theorem dX3_got_1 : decode cX3_got 1 = .ok (.iload_n 1, 1) := by decide +kernel
theorem dX3_got_2 : decode cX3_got 2 = .ok (.iload_n 2, 1) := by decide +kernel
theorem dX3_got_3 : decode cX3_got 3 = .ok (.invokevirtual 96, 3) := by decide +kernel
theorem dX3_got_6 : decode cX3_got 6 = .ok (.astore_n 3, 1) := by decide +kernel
theorem dX3_got_7 : decode cX3_got 7 = .ok (.aload_n 3, 1) := by decide +kernel
theorem dX3_got_8 : decode cX3_got 8 = .ok (.ifnonnull 7, 3) := by decide +kernel
theorem dX3_got_11 : decode cX3_got 11 = .ok (.iconst 0, 1) := by decide +kernel
theorem dX3_got_12 : decode cX3_got 12 = .ok (.goto 7, 3) := by decide +kernel
theorem dX3_got_15 : decode cX3_got 15 = .ok (.aload_n 3, 1) := by decide +kernel
theorem dX3_got_16 : decode cX3_got 16 = .ok (.getfield 233, 3) := by decide +kernel
theorem dX3_got_19 : decode cX3_got 19 = .ok (.ireturn, 1) := by decide +kernel
theorem dX3_counts_0 : decode cX3_counts 0 = .ok (.aload_n 0, 1) := by decide +kernel
theorem dX3_counts_1 : decode cX3_counts 1 = .ok (.iload_n 1, 1) := by decide +kernel
theorem dX3_counts_2 : decode cX3_counts 2 = .ok (.invokevirtual 236, 3) := by decide +kernel
theorem dX3_counts_5 : decode cX3_counts 5 = .ok (.aload_n 0, 1) := by decide +kernel
theorem dX3_counts_6 : decode cX3_counts 6 = .ok (.iload_n 1, 1) := by decide +kernel
theorem dX3_counts_7 : decode cX3_counts 7 = .ok (.invokevirtual 240, 3) := by decide +kernel
theorem dX3_counts_10 : decode cX3_counts 10 = .ok (.ireturn, 1) := by decide +kernel
theorem dX3_ranked_0 : decode cX3_ranked 0 = .ok (.iload_n 1, 1) := by decide +kernel
theorem dX3_ranked_1 : decode cX3_ranked 1 = .ok (.iconst 0, 1) := by decide +kernel
theorem dX3_ranked_2 : decode cX3_ranked 2 = .ok (.bipush 11, 2) := by decide +kernel
theorem dX3_ranked_4 : decode cX3_ranked 4 = .ok (.invokestatic 57, 3) := by decide +kernel
theorem dX3_ranked_7 : decode cX3_ranked 7 = .ok (.ifCond .ne 13, 3) := by decide +kernel
theorem dX3_ranked_10 : decode cX3_ranked 10 = .ok (.new 30, 3) := by decide +kernel
theorem dX3_ranked_13 : decode cX3_ranked 13 = .ok (.dup, 1) := by decide +kernel
theorem dX3_ranked_14 : decode cX3_ranked 14 = .ok (.ldc 243, 2) := by decide +kernel
theorem dX3_ranked_16 : decode cX3_ranked 16 = .ok (.invokespecial 34, 3) := by decide +kernel
theorem dX3_ranked_19 : decode cX3_ranked 19 = .ok (.athrow, 1) := by decide +kernel
theorem dX3_ranked_20 : decode cX3_ranked 20 = .ok (.iconst 0, 1) := by decide +kernel
theorem dX3_ranked_21 : decode cX3_ranked 21 = .ok (.istore_n 2, 1) := by decide +kernel
theorem dX3_ranked_22 : decode cX3_ranked 22 = .ok (.iload_n 2, 1) := by decide +kernel
theorem dX3_ranked_23 : decode cX3_ranked 23 = .ok (.aload_n 0, 1) := by decide +kernel
theorem dX3_ranked_24 : decode cX3_ranked 24 = .ok (.getfield 19, 3) := by decide +kernel
theorem dX3_ranked_27 : decode cX3_ranked 27 = .ok (.if_icmp .ge 20, 3) := by decide +kernel
theorem dX3_ranked_30 : decode cX3_ranked 30 = .ok (.aload_n 0, 1) := by decide +kernel
theorem dX3_ranked_31 : decode cX3_ranked 31 = .ok (.iload_n 2, 1) := by decide +kernel
theorem dX3_ranked_32 : decode cX3_ranked 32 = .ok (.invokevirtual 245, 3) := by decide +kernel
theorem dX3_ranked_35 : decode cX3_ranked 35 = .ok (.iload_n 1, 1) := by decide +kernel
theorem dX3_ranked_36 : decode cX3_ranked 36 = .ok (.if_icmp .ne 5, 3) := by decide +kernel
theorem dX3_ranked_39 : decode cX3_ranked 39 = .ok (.iload_n 2, 1) := by decide +kernel
theorem dX3_ranked_40 : decode cX3_ranked 40 = .ok (.ireturn, 1) := by decide +kernel
theorem dX3_ranked_41 : decode cX3_ranked 41 = .ok (.iinc 2 1, 3) := by decide +kernel
theorem dX3_ranked_44 : decode cX3_ranked 44 = .ok (.goto (-22), 3) := by decide +kernel
theorem dX3_ranked_47 : decode cX3_ranked 47 = .ok (.iconst (-1), 1) := by decide +kernel
theorem dX3_ranked_48 : decode cX3_ranked 48 = .ok (.ireturn, 1) := by decide +kernel
theorem dX3_balances_0 : decode cX3_balances 0 = .ok (.iconst 0, 1) := by decide +kernel
theorem dX3_balances_1 : decode cX3_balances 1 = .ok (.istore_n 1, 1) := by decide +kernel
theorem dX3_balances_2 : decode cX3_balances 2 = .ok (.iload_n 1, 1) := by decide +kernel
theorem dX3_balances_3 : decode cX3_balances 3 = .ok (.aload_n 0, 1) := by decide +kernel
theorem dX3_balances_4 : decode cX3_balances 4 = .ok (.getfield 16, 3) := by decide +kernel
theorem dX3_balances_7 : decode cX3_balances 7 = .ok (.invokevirtual 37, 3) := by decide +kernel
theorem dX3_balances_10 : decode cX3_balances 10 = .ok (.if_icmp .ge 28, 3) := by decide +kernel
theorem dX3_balances_13 : decode cX3_balances 13 = .ok (.aload_n 0, 1) := by decide +kernel
theorem dX3_balances_14 : decode cX3_balances 14 = .ok (.getfield 16, 3) := by decide +kernel
theorem dX3_balances_17 : decode cX3_balances 17 = .ok (.iload_n 1, 1) := by decide +kernel
theorem dX3_balances_18 : decode cX3_balances 18 = .ok (.invokevirtual 124, 3) := by decide +kernel
theorem dX3_balances_21 : decode cX3_balances 21 = .ok (.checkcast 70, 3) := by decide +kernel
theorem dX3_balances_24 : decode cX3_balances 24 = .ok (.invokevirtual 248, 3) := by decide +kernel
theorem dX3_balances_27 : decode cX3_balances 27 = .ok (.ifCond .ne 5, 3) := by decide +kernel
theorem dX3_balances_30 : decode cX3_balances 30 = .ok (.iconst 0, 1) := by decide +kernel
theorem dX3_balances_31 : decode cX3_balances 31 = .ok (.ireturn, 1) := by decide +kernel
theorem dX3_balances_32 : decode cX3_balances 32 = .ok (.iinc 1 1, 3) := by decide +kernel
theorem dX3_balances_35 : decode cX3_balances 35 = .ok (.goto (-33), 3) := by decide +kernel
theorem dX3_balances_38 : decode cX3_balances 38 = .ok (.iconst 0, 1) := by decide +kernel
theorem dX3_balances_39 : decode cX3_balances 39 = .ok (.istore_n 1, 1) := by decide +kernel
theorem dX3_balances_40 : decode cX3_balances 40 = .ok (.iload_n 1, 1) := by decide +kernel
theorem dX3_balances_41 : decode cX3_balances 41 = .ok (.aload_n 0, 1) := by decide +kernel
theorem dX3_balances_42 : decode cX3_balances 42 = .ok (.getfield 12, 3) := by decide +kernel
theorem dX3_balances_45 : decode cX3_balances 45 = .ok (.invokevirtual 37, 3) := by decide +kernel
theorem dX3_balances_48 : decode cX3_balances 48 = .ok (.if_icmp .ge 28, 3) := by decide +kernel
theorem dX3_balances_51 : decode cX3_balances 51 = .ok (.aload_n 0, 1) := by decide +kernel
theorem dX3_balances_52 : decode cX3_balances 52 = .ok (.getfield 12, 3) := by decide +kernel
theorem dX3_balances_55 : decode cX3_balances 55 = .ok (.iload_n 1, 1) := by decide +kernel
theorem dX3_balances_56 : decode cX3_balances 56 = .ok (.invokevirtual 124, 3) := by decide +kernel
theorem dX3_balances_59 : decode cX3_balances 59 = .ok (.checkcast 46, 3) := by decide +kernel
theorem dX3_balances_62 : decode cX3_balances 62 = .ok (.invokevirtual 251, 3) := by decide +kernel
theorem dX3_balances_65 : decode cX3_balances 65 = .ok (.ifCond .ne 5, 3) := by decide +kernel
theorem dX3_balances_68 : decode cX3_balances 68 = .ok (.iconst 0, 1) := by decide +kernel
theorem dX3_balances_69 : decode cX3_balances 69 = .ok (.ireturn, 1) := by decide +kernel
theorem dX3_balances_70 : decode cX3_balances 70 = .ok (.iinc 1 1, 3) := by decide +kernel
theorem dX3_balances_73 : decode cX3_balances 73 = .ok (.goto (-33), 3) := by decide +kernel
theorem dX3_balances_76 : decode cX3_balances 76 = .ok (.iconst 1, 1) := by decide +kernel
theorem dX3_balances_77 : decode cX3_balances 77 = .ok (.ireturn, 1) := by decide +kernel
theorem dX3_isWithin_0 : decode cX3_isWithin 0 = .ok (.iload_n 0, 1) := by decide +kernel
theorem dX3_isWithin_1 : decode cX3_isWithin 1 = .ok (.iload_n 1, 1) := by decide +kernel
theorem dX3_isWithin_2 : decode cX3_isWithin 2 = .ok (.if_icmp .lt 12, 3) := by decide +kernel
theorem dX3_isWithin_5 : decode cX3_isWithin 5 = .ok (.iload_n 0, 1) := by decide +kernel
theorem dX3_isWithin_6 : decode cX3_isWithin 6 = .ok (.iload_n 2, 1) := by decide +kernel
theorem dX3_isWithin_7 : decode cX3_isWithin 7 = .ok (.if_icmp .gt 7, 3) := by decide +kernel
theorem dX3_isWithin_10 : decode cX3_isWithin 10 = .ok (.iconst 1, 1) := by decide +kernel
theorem dX3_isWithin_11 : decode cX3_isWithin 11 = .ok (.goto 4, 3) := by decide +kernel
theorem dX3_isWithin_14 : decode cX3_isWithin 14 = .ok (.iconst 0, 1) := by decide +kernel
theorem dX3_isWithin_15 : decode cX3_isWithin 15 = .ok (.ireturn, 1) := by decide +kernel
theorem dX3_isKind_0 : decode cX3_isKind 0 = .ok (.iload_n 0, 1) := by decide +kernel
theorem dX3_isKind_1 : decode cX3_isKind 1 = .ok (.ifCond .eq 8, 3) := by decide +kernel
theorem dX3_isKind_4 : decode cX3_isKind 4 = .ok (.iload_n 0, 1) := by decide +kernel
theorem dX3_isKind_5 : decode cX3_isKind 5 = .ok (.iconst 1, 1) := by decide +kernel
theorem dX3_isKind_6 : decode cX3_isKind 6 = .ok (.if_icmp .ne 7, 3) := by decide +kernel
theorem dX3_isKind_9 : decode cX3_isKind 9 = .ok (.iconst 1, 1) := by decide +kernel
theorem dX3_isKind_10 : decode cX3_isKind 10 = .ok (.goto 4, 3) := by decide +kernel
theorem dX3_isKind_13 : decode cX3_isKind 13 = .ok (.iconst 0, 1) := by decide +kernel
theorem dX3_isKind_14 : decode cX3_isKind 14 = .ok (.ireturn, 1) := by decide +kernel
theorem dX3_isInSet_0 : decode cX3_isInSet 0 = .ok (.iload_n 0, 1) := by decide +kernel
theorem dX3_isInSet_1 : decode cX3_isInSet 1 = .ok (.iload_n 1, 1) := by decide +kernel
theorem dX3_isInSet_2 : decode cX3_isInSet 2 = .ok (.ishr, 1) := by decide +kernel
theorem dX3_isInSet_3 : decode cX3_isInSet 3 = .ok (.iconst 1, 1) := by decide +kernel
theorem dX3_isInSet_4 : decode cX3_isInSet 4 = .ok (.iand, 1) := by decide +kernel
theorem dX3_isInSet_5 : decode cX3_isInSet 5 = .ok (.iconst 1, 1) := by decide +kernel
theorem dX3_isInSet_6 : decode cX3_isInSet 6 = .ok (.if_icmp .ne 7, 3) := by decide +kernel
theorem dX3_isInSet_9 : decode cX3_isInSet 9 = .ok (.iconst 1, 1) := by decide +kernel
theorem dX3_isInSet_10 : decode cX3_isInSet 10 = .ok (.goto 4, 3) := by decide +kernel
theorem dX3_isInSet_13 : decode cX3_isInSet 13 = .ok (.iconst 0, 1) := by decide +kernel
theorem dX3_isInSet_14 : decode cX3_isInSet 14 = .ok (.ireturn, 1) := by decide +kernel
theorem dX3_markAt_0 : decode cX3_markAt 0 = .ok (.iload_n 0, 1) := by decide +kernel
theorem dX3_markAt_1 : decode cX3_markAt 1 = .ok (.istore_n 2, 1) := by decide +kernel
theorem dX3_markAt_2 : decode cX3_markAt 2 = .ok (.iconst 0, 1) := by decide +kernel
theorem dX3_markAt_3 : decode cX3_markAt 3 = .ok (.istore_n 3, 1) := by decide +kernel
theorem dX3_markAt_4 : decode cX3_markAt 4 = .ok (.iload_n 3, 1) := by decide +kernel
theorem dX3_markAt_5 : decode cX3_markAt 5 = .ok (.iload_n 1, 1) := by decide +kernel
theorem dX3_markAt_6 : decode cX3_markAt 6 = .ok (.if_icmp .ge 14, 3) := by decide +kernel
theorem dX3_markAt_9 : decode cX3_markAt 9 = .ok (.iload_n 2, 1) := by decide +kernel
theorem dX3_markAt_10 : decode cX3_markAt 10 = .ok (.bipush 26, 2) := by decide +kernel
theorem dX3_markAt_12 : decode cX3_markAt 12 = .ok (.idiv, 1) := by decide +kernel
theorem dX3_markAt_13 : decode cX3_markAt 13 = .ok (.istore_n 2, 1) := by decide +kernel
theorem dX3_markAt_14 : decode cX3_markAt 14 = .ok (.iinc 3 1, 3) := by decide +kernel
theorem dX3_markAt_17 : decode cX3_markAt 17 = .ok (.goto (-13), 3) := by decide +kernel
theorem dX3_markAt_20 : decode cX3_markAt 20 = .ok (.iload_n 2, 1) := by decide +kernel
theorem dX3_markAt_21 : decode cX3_markAt 21 = .ok (.bipush 26, 2) := by decide +kernel
theorem dX3_markAt_23 : decode cX3_markAt 23 = .ok (.irem, 1) := by decide +kernel
theorem dX3_markAt_24 : decode cX3_markAt 24 = .ok (.ireturn, 1) := by decide +kernel
theorem dX3_split_0 : decode cX3_split 0 = .ok (.iload_n 1, 1) := by decide +kernel
theorem dX3_split_1 : decode cX3_split 1 = .ok (.iconst 1, 1) := by decide +kernel
theorem dX3_split_2 : decode cX3_split 2 = .ok (.if_icmp .ge 7, 3) := by decide +kernel
theorem dX3_split_5 : decode cX3_split 5 = .ok (.iconst 0, 1) := by decide +kernel
theorem dX3_split_6 : decode cX3_split 6 = .ok (.goto 6, 3) := by decide +kernel
theorem dX3_split_9 : decode cX3_split 9 = .ok (.iload_n 0, 1) := by decide +kernel
theorem dX3_split_10 : decode cX3_split 10 = .ok (.iload_n 1, 1) := by decide +kernel
theorem dX3_split_11 : decode cX3_split 11 = .ok (.idiv, 1) := by decide +kernel
theorem dX3_split_12 : decode cX3_split 12 = .ok (.ireturn, 1) := by decide +kernel
theorem dX3_rodeoAt_0 : decode cX3_rodeoAt 0 = .ok (.iload_n 1, 1) := by decide +kernel
theorem dX3_rodeoAt_1 : decode cX3_rodeoAt 1 = .ok (.ifCond .lt 14, 3) := by decide +kernel
theorem dX3_rodeoAt_4 : decode cX3_rodeoAt 4 = .ok (.iload_n 1, 1) := by decide +kernel
theorem dX3_rodeoAt_5 : decode cX3_rodeoAt 5 = .ok (.aload_n 0, 1) := by decide +kernel
theorem dX3_rodeoAt_6 : decode cX3_rodeoAt 6 = .ok (.getfield 16, 3) := by decide +kernel
theorem dX3_rodeoAt_9 : decode cX3_rodeoAt 9 = .ok (.invokevirtual 37, 3) := by decide +kernel
theorem dX3_rodeoAt_12 : decode cX3_rodeoAt 12 = .ok (.if_icmp .lt 13, 3) := by decide +kernel
theorem dX3_rodeoAt_15 : decode cX3_rodeoAt 15 = .ok (.new 200, 3) := by decide +kernel
theorem dX3_rodeoAt_18 : decode cX3_rodeoAt 18 = .ok (.dup, 1) := by decide +kernel
theorem dX3_rodeoAt_19 : decode cX3_rodeoAt 19 = .ok (.ldc 254, 2) := by decide +kernel
theorem dX3_rodeoAt_21 : decode cX3_rodeoAt 21 = .ok (.invokespecial 204, 3) := by decide +kernel
theorem dX3_rodeoAt_24 : decode cX3_rodeoAt 24 = .ok (.athrow, 1) := by decide +kernel
theorem dX3_rodeoAt_25 : decode cX3_rodeoAt 25 = .ok (.aload_n 0, 1) := by decide +kernel
theorem dX3_rodeoAt_26 : decode cX3_rodeoAt 26 = .ok (.getfield 16, 3) := by decide +kernel
theorem dX3_rodeoAt_29 : decode cX3_rodeoAt 29 = .ok (.iload_n 1, 1) := by decide +kernel
theorem dX3_rodeoAt_30 : decode cX3_rodeoAt 30 = .ok (.invokevirtual 124, 3) := by decide +kernel
theorem dX3_rodeoAt_33 : decode cX3_rodeoAt 33 = .ok (.checkcast 70, 3) := by decide +kernel
theorem dX3_rodeoAt_36 : decode cX3_rodeoAt 36 = .ok (.areturn, 1) := by decide +kernel
theorem dX3_checkRider_0 : decode cX3_checkRider 0 = .ok (.iload_n 1, 1) := by decide +kernel
theorem dX3_checkRider_1 : decode cX3_checkRider 1 = .ok (.ifCond .lt 11, 3) := by decide +kernel
theorem dX3_checkRider_4 : decode cX3_checkRider 4 = .ok (.iload_n 1, 1) := by decide +kernel
theorem dX3_checkRider_5 : decode cX3_checkRider 5 = .ok (.aload_n 0, 1) := by decide +kernel
theorem dX3_checkRider_6 : decode cX3_checkRider 6 = .ok (.getfield 19, 3) := by decide +kernel
theorem dX3_checkRider_9 : decode cX3_checkRider 9 = .ok (.if_icmp .lt 14, 3) := by decide +kernel
theorem dX3_checkRider_12 : decode cX3_checkRider 12 = .ok (.new 200, 3) := by decide +kernel
theorem dX3_checkRider_15 : decode cX3_checkRider 15 = .ok (.dup, 1) := by decide +kernel
theorem dX3_checkRider_16 : decode cX3_checkRider 16 = .ok (.ldc_w 256, 3) := by decide +kernel
theorem dX3_checkRider_19 : decode cX3_checkRider 19 = .ok (.invokespecial 204, 3) := by decide +kernel
theorem dX3_checkRider_22 : decode cX3_checkRider 22 = .ok (.athrow, 1) := by decide +kernel
theorem dX3_checkRider_23 : decode cX3_checkRider 23 = .ok (.return_, 1) := by decide +kernel
theorem dX3_entryAt_0 : decode cX3_entryAt 0 = .ok (.aload_n 0, 1) := by decide +kernel
theorem dX3_entryAt_1 : decode cX3_entryAt 1 = .ok (.iload_n 1, 1) := by decide +kernel
theorem dX3_entryAt_2 : decode cX3_entryAt 2 = .ok (.invokevirtual 75, 3) := by decide +kernel
theorem dX3_entryAt_5 : decode cX3_entryAt 5 = .ok (.astore_n 3, 1) := by decide +kernel
theorem dX3_entryAt_6 : decode cX3_entryAt 6 = .ok (.aload_n 0, 1) := by decide +kernel
theorem dX3_entryAt_7 : decode cX3_entryAt 7 = .ok (.iload_n 2, 1) := by decide +kernel
theorem dX3_entryAt_8 : decode cX3_entryAt 8 = .ok (.invokevirtual 236, 3) := by decide +kernel
theorem dX3_entryAt_11 : decode cX3_entryAt 11 = .ok (.aload_n 3, 1) := by decide +kernel
theorem dX3_entryAt_12 : decode cX3_entryAt 12 = .ok (.iload_n 2, 1) := by decide +kernel
theorem dX3_entryAt_13 : decode cX3_entryAt 13 = .ok (.invokevirtual 258, 3) := by decide +kernel
theorem dX3_entryAt_16 : decode cX3_entryAt 16 = .ok (.areturn, 1) := by decide +kernel
theorem dX3_performanceFor_0 : decode cX3_performanceFor 0 = .ok (.aload_n 0, 1) := by decide +kernel
theorem dX3_performanceFor_1 : decode cX3_performanceFor 1 = .ok (.aload_n 1, 1) := by decide +kernel
theorem dX3_performanceFor_2 : decode cX3_performanceFor 2 = .ok (.aload_n 2, 1) := by decide +kernel
theorem dX3_performanceFor_3 : decode cX3_performanceFor 3 = .ok (.getfield 262, 3) := by decide +kernel
theorem dX3_performanceFor_6 : decode cX3_performanceFor 6 = .ok (.aload_n 2, 1) := by decide +kernel
theorem dX3_performanceFor_7 : decode cX3_performanceFor 7 = .ok (.getfield 265, 3) := by decide +kernel
theorem dX3_performanceFor_10 : decode cX3_performanceFor 10 = .ok (.invokevirtual 268, 3) := by decide +kernel
theorem dX3_performanceFor_13 : decode cX3_performanceFor 13 = .ok (.ifCond .eq 8, 3) := by decide +kernel
theorem dX3_performanceFor_16 : decode cX3_performanceFor 16 = .ok (.aload_n 2, 1) := by decide +kernel
theorem dX3_performanceFor_17 : decode cX3_performanceFor 17 = .ok (.getfield 265, 3) := by decide +kernel
theorem dX3_performanceFor_20 : decode cX3_performanceFor 20 = .ok (.ireturn, 1) := by decide +kernel
theorem dX3_performanceFor_21 : decode cX3_performanceFor 21 = .ok (.iconst 0, 1) := by decide +kernel
theorem dX3_performanceFor_22 : decode cX3_performanceFor 22 = .ok (.istore_n 3, 1) := by decide +kernel
theorem dX3_performanceFor_23 : decode cX3_performanceFor 23 = .ok (.iload_n 3, 1) := by decide +kernel
theorem dX3_performanceFor_24 : decode cX3_performanceFor 24 = .ok (.aload_n 1, 1) := by decide +kernel
theorem dX3_performanceFor_25 : decode cX3_performanceFor 25 = .ok (.getfield 100, 3) := by decide +kernel
theorem dX3_performanceFor_28 : decode cX3_performanceFor 28 = .ok (.if_icmp .ge 35, 3) := by decide +kernel
theorem dX3_performanceFor_31 : decode cX3_performanceFor 31 = .ok (.aload_n 2, 1) := by decide +kernel
theorem dX3_performanceFor_32 : decode cX3_performanceFor 32 = .ok (.getfield 272, 3) := by decide +kernel
theorem dX3_performanceFor_35 : decode cX3_performanceFor 35 = .ok (.iload_n 3, 1) := by decide +kernel
theorem dX3_performanceFor_36 : decode cX3_performanceFor 36 = .ok (.invokestatic 105, 3) := by decide +kernel
theorem dX3_performanceFor_39 : decode cX3_performanceFor 39 = .ok (.ifCond .eq 18, 3) := by decide +kernel
theorem dX3_performanceFor_42 : decode cX3_performanceFor 42 = .ok (.aload_n 0, 1) := by decide +kernel
theorem dX3_performanceFor_43 : decode cX3_performanceFor 43 = .ok (.aload_n 1, 1) := by decide +kernel
theorem dX3_performanceFor_44 : decode cX3_performanceFor 44 = .ok (.aload_n 2, 1) := by decide +kernel
theorem dX3_performanceFor_45 : decode cX3_performanceFor 45 = .ok (.getfield 262, 3) := by decide +kernel
theorem dX3_performanceFor_48 : decode cX3_performanceFor 48 = .ok (.iload_n 3, 1) := by decide +kernel
theorem dX3_performanceFor_49 : decode cX3_performanceFor 49 = .ok (.invokevirtual 268, 3) := by decide +kernel
theorem dX3_performanceFor_52 : decode cX3_performanceFor 52 = .ok (.ifCond .eq 5, 3) := by decide +kernel
theorem dX3_performanceFor_55 : decode cX3_performanceFor 55 = .ok (.iload_n 3, 1) := by decide +kernel
theorem dX3_performanceFor_56 : decode cX3_performanceFor 56 = .ok (.ireturn, 1) := by decide +kernel
theorem dX3_performanceFor_57 : decode cX3_performanceFor 57 = .ok (.iinc 3 1, 3) := by decide +kernel
theorem dX3_performanceFor_60 : decode cX3_performanceFor 60 = .ok (.goto (-37), 3) := by decide +kernel
theorem dX3_performanceFor_63 : decode cX3_performanceFor 63 = .ok (.iconst (-1), 1) := by decide +kernel
theorem dX3_performanceFor_64 : decode cX3_performanceFor 64 = .ok (.ireturn, 1) := by decide +kernel
theorem dX3_canBePlaced_0 : decode cX3_canBePlaced 0 = .ok (.aload_n 1, 1) := by decide +kernel
theorem dX3_canBePlaced_1 : decode cX3_canBePlaced 1 = .ok (.iload_n 3, 1) := by decide +kernel
theorem dX3_canBePlaced_2 : decode cX3_canBePlaced 2 = .ok (.invokevirtual 275, 3) := by decide +kernel
theorem dX3_canBePlaced_5 : decode cX3_canBePlaced 5 = .ok (.aload_n 1, 1) := by decide +kernel
theorem dX3_canBePlaced_6 : decode cX3_canBePlaced 6 = .ok (.getfield 135, 3) := by decide +kernel
theorem dX3_canBePlaced_9 : decode cX3_canBePlaced 9 = .ok (.if_icmp .ge 17, 3) := by decide +kernel
theorem dX3_canBePlaced_12 : decode cX3_canBePlaced 12 = .ok (.aload_n 0, 1) := by decide +kernel
theorem dX3_canBePlaced_13 : decode cX3_canBePlaced 13 = .ok (.aload_n 1, 1) := by decide +kernel
theorem dX3_canBePlaced_14 : decode cX3_canBePlaced 14 = .ok (.iload_n 2, 1) := by decide +kernel
theorem dX3_canBePlaced_15 : decode cX3_canBePlaced 15 = .ok (.iload_n 3, 1) := by decide +kernel
theorem dX3_canBePlaced_16 : decode cX3_canBePlaced 16 = .ok (.invokevirtual 278, 3) := by decide +kernel
theorem dX3_canBePlaced_19 : decode cX3_canBePlaced 19 = .ok (.ifCond .eq 7, 3) := by decide +kernel
theorem dX3_canBePlaced_22 : decode cX3_canBePlaced 22 = .ok (.iconst 1, 1) := by decide +kernel
theorem dX3_canBePlaced_23 : decode cX3_canBePlaced 23 = .ok (.goto 4, 3) := by decide +kernel
theorem dX3_canBePlaced_26 : decode cX3_canBePlaced 26 = .ok (.iconst 0, 1) := by decide +kernel
theorem dX3_canBePlaced_27 : decode cX3_canBePlaced 27 = .ok (.ireturn, 1) := by decide +kernel
theorem dX3_canGet_0 : decode cX3_canGet 0 = .ok (.aload_n 1, 1) := by decide +kernel
theorem dX3_canGet_1 : decode cX3_canGet 1 = .ok (.iload_n 3, 1) := by decide +kernel
theorem dX3_canGet_2 : decode cX3_canGet 2 = .ok (.invokevirtual 281, 3) := by decide +kernel
theorem dX3_canGet_5 : decode cX3_canGet 5 = .ok (.istore 4, 2) := by decide +kernel
theorem dX3_canGet_7 : decode cX3_canGet 7 = .ok (.iconst 0, 1) := by decide +kernel
theorem dX3_canGet_8 : decode cX3_canGet 8 = .ok (.istore 5, 2) := by decide +kernel
theorem dX3_canGet_10 : decode cX3_canGet 10 = .ok (.iload 5, 2) := by decide +kernel
theorem dX3_canGet_12 : decode cX3_canGet 12 = .ok (.aload_n 0, 1) := by decide +kernel
theorem dX3_canGet_13 : decode cX3_canGet 13 = .ok (.getfield 16, 3) := by decide +kernel
theorem dX3_canGet_16 : decode cX3_canGet 16 = .ok (.invokevirtual 37, 3) := by decide +kernel
theorem dX3_canGet_19 : decode cX3_canGet 19 = .ok (.if_icmp .ge 105, 3) := by decide +kernel
theorem dX3_canGet_22 : decode cX3_canGet 22 = .ok (.aload_n 0, 1) := by decide +kernel
theorem dX3_canGet_23 : decode cX3_canGet 23 = .ok (.getfield 16, 3) := by decide +kernel
theorem dX3_canGet_26 : decode cX3_canGet 26 = .ok (.iload 5, 2) := by decide +kernel
theorem dX3_canGet_28 : decode cX3_canGet 28 = .ok (.invokevirtual 124, 3) := by decide +kernel
theorem dX3_canGet_31 : decode cX3_canGet 31 = .ok (.checkcast 70, 3) := by decide +kernel
theorem dX3_canGet_34 : decode cX3_canGet 34 = .ok (.astore 6, 2) := by decide +kernel
theorem dX3_canGet_36 : decode cX3_canGet 36 = .ok (.aload 6, 2) := by decide +kernel
theorem dX3_canGet_38 : decode cX3_canGet 38 = .ok (.aload_n 1, 1) := by decide +kernel
theorem dX3_canGet_39 : decode cX3_canGet 39 = .ok (.if_acmp .ne 7, 3) := by decide +kernel
theorem dX3_canGet_42 : decode cX3_canGet 42 = .ok (.aconst_null, 1) := by decide +kernel
theorem dX3_canGet_43 : decode cX3_canGet 43 = .ok (.goto 9, 3) := by decide +kernel
theorem dX3_canGet_46 : decode cX3_canGet 46 = .ok (.aload 6, 2) := by decide +kernel
theorem dX3_canGet_48 : decode cX3_canGet 48 = .ok (.iload_n 2, 1) := by decide +kernel
theorem dX3_canGet_49 : decode cX3_canGet 49 = .ok (.invokevirtual 258, 3) := by decide +kernel
theorem dX3_canGet_52 : decode cX3_canGet 52 = .ok (.astore 7, 2) := by decide +kernel
theorem dX3_canGet_54 : decode cX3_canGet 54 = .ok (.aload 7, 2) := by decide +kernel
theorem dX3_canGet_56 : decode cX3_canGet 56 = .ok (.ifnull 62, 3) := by decide +kernel
theorem dX3_canGet_59 : decode cX3_canGet 59 = .ok (.aload 7, 2) := by decide +kernel
theorem dX3_canGet_61 : decode cX3_canGet 61 = .ok (.invokevirtual 284, 3) := by decide +kernel
theorem dX3_canGet_64 : decode cX3_canGet 64 = .ok (.ifCond .eq 54, 3) := by decide +kernel
theorem dX3_canGet_67 : decode cX3_canGet 67 = .ok (.iload 4, 2) := by decide +kernel
theorem dX3_canGet_69 : decode cX3_canGet 69 = .ok (.aload 6, 2) := by decide +kernel
theorem dX3_canGet_71 : decode cX3_canGet 71 = .ok (.aload 7, 2) := by decide +kernel
theorem dX3_canGet_73 : decode cX3_canGet 73 = .ok (.getfield 132, 3) := by decide +kernel
theorem dX3_canGet_76 : decode cX3_canGet 76 = .ok (.invokevirtual 281, 3) := by decide +kernel
theorem dX3_canGet_79 : decode cX3_canGet 79 = .ok (.isub, 1) := by decide +kernel
theorem dX3_canGet_80 : decode cX3_canGet 80 = .ok (.invokestatic 287, 3) := by decide +kernel
theorem dX3_canGet_83 : decode cX3_canGet 83 = .ok (.istore 8, 2) := by decide +kernel
theorem dX3_canGet_85 : decode cX3_canGet 85 = .ok (.aload_n 1, 1) := by decide +kernel
theorem dX3_canGet_86 : decode cX3_canGet 86 = .ok (.getfield 290, 3) := by decide +kernel
theorem dX3_canGet_89 : decode cX3_canGet 89 = .ok (.aload 6, 2) := by decide +kernel
theorem dX3_canGet_91 : decode cX3_canGet 91 = .ok (.getfield 290, 3) := by decide +kernel
theorem dX3_canGet_94 : decode cX3_canGet 94 = .ok (.isub, 1) := by decide +kernel
theorem dX3_canGet_95 : decode cX3_canGet 95 = .ok (.invokestatic 287, 3) := by decide +kernel
theorem dX3_canGet_98 : decode cX3_canGet 98 = .ok (.istore 9, 2) := by decide +kernel
theorem dX3_canGet_100 : decode cX3_canGet 100 = .ok (.iload 8, 2) := by decide +kernel
theorem dX3_canGet_102 : decode cX3_canGet 102 = .ok (.ifCond .eq 14, 3) := by decide +kernel
theorem dX3_canGet_105 : decode cX3_canGet 105 = .ok (.sipush 400, 3) := by decide +kernel
theorem dX3_canGet_108 : decode cX3_canGet 108 = .ok (.iload 8, 2) := by decide +kernel
theorem dX3_canGet_110 : decode cX3_canGet 110 = .ok (.imul, 1) := by decide +kernel
theorem dX3_canGet_111 : decode cX3_canGet 111 = .ok (.iload 9, 2) := by decide +kernel
theorem dX3_canGet_113 : decode cX3_canGet 113 = .ok (.if_icmp .ge 5, 3) := by decide +kernel
theorem dX3_canGet_116 : decode cX3_canGet 116 = .ok (.iconst 0, 1) := by decide +kernel
theorem dX3_canGet_117 : decode cX3_canGet 117 = .ok (.ireturn, 1) := by decide +kernel
theorem dX3_canGet_118 : decode cX3_canGet 118 = .ok (.iinc 5 1, 3) := by decide +kernel
theorem dX3_canGet_121 : decode cX3_canGet 121 = .ok (.goto (-111), 3) := by decide +kernel
theorem dX3_canGet_124 : decode cX3_canGet 124 = .ok (.iconst 1, 1) := by decide +kernel
theorem dX3_canGet_125 : decode cX3_canGet 125 = .ok (.ireturn, 1) := by decide +kernel
theorem dX3_countWithWaysOutside_0 : decode cX3_countWithWaysOutside 0 = .ok (.iconst 0, 1) := by decide +kernel
theorem dX3_countWithWaysOutside_1 : decode cX3_countWithWaysOutside 1 = .ok (.istore_n 3, 1) := by decide +kernel
theorem dX3_countWithWaysOutside_2 : decode cX3_countWithWaysOutside 2 = .ok (.iconst 0, 1) := by decide +kernel
theorem dX3_countWithWaysOutside_3 : decode cX3_countWithWaysOutside 3 = .ok (.istore 4, 2) := by decide +kernel
theorem dX3_countWithWaysOutside_5 : decode cX3_countWithWaysOutside 5 = .ok (.iload 4, 2) := by decide +kernel
theorem dX3_countWithWaysOutside_7 : decode cX3_countWithWaysOutside 7 = .ok (.aload_n 1, 1) := by decide +kernel
theorem dX3_countWithWaysOutside_8 : decode cX3_countWithWaysOutside 8 = .ok (.getfield 82, 3) := by decide +kernel
theorem dX3_countWithWaysOutside_11 : decode cX3_countWithWaysOutside 11 = .ok (.invokevirtual 37, 3) := by decide +kernel
theorem dX3_countWithWaysOutside_14 : decode cX3_countWithWaysOutside 14 = .ok (.if_icmp .ge 33, 3) := by decide +kernel
theorem dX3_countWithWaysOutside_17 : decode cX3_countWithWaysOutside 17 = .ok (.aload_n 0, 1) := by decide +kernel
theorem dX3_countWithWaysOutside_18 : decode cX3_countWithWaysOutside 18 = .ok (.aload_n 1, 1) := by decide +kernel
theorem dX3_countWithWaysOutside_19 : decode cX3_countWithWaysOutside 19 = .ok (.aload_n 1, 1) := by decide +kernel
theorem dX3_countWithWaysOutside_20 : decode cX3_countWithWaysOutside 20 = .ok (.getfield 82, 3) := by decide +kernel
theorem dX3_countWithWaysOutside_23 : decode cX3_countWithWaysOutside 23 = .ok (.iload 4, 2) := by decide +kernel
theorem dX3_countWithWaysOutside_25 : decode cX3_countWithWaysOutside 25 = .ok (.invokevirtual 124, 3) := by decide +kernel
theorem dX3_countWithWaysOutside_28 : decode cX3_countWithWaysOutside 28 = .ok (.checkcast 113, 3) := by decide +kernel
theorem dX3_countWithWaysOutside_31 : decode cX3_countWithWaysOutside 31 = .ok (.iload_n 2, 1) := by decide +kernel
theorem dX3_countWithWaysOutside_32 : decode cX3_countWithWaysOutside 32 = .ok (.invokevirtual 293, 3) := by decide +kernel
theorem dX3_countWithWaysOutside_35 : decode cX3_countWithWaysOutside 35 = .ok (.ifCond .eq 6, 3) := by decide +kernel
theorem dX3_countWithWaysOutside_38 : decode cX3_countWithWaysOutside 38 = .ok (.iinc 3 1, 3) := by decide +kernel
theorem dX3_countWithWaysOutside_41 : decode cX3_countWithWaysOutside 41 = .ok (.iinc 4 1, 3) := by decide +kernel
theorem dX3_countWithWaysOutside_44 : decode cX3_countWithWaysOutside 44 = .ok (.goto (-39), 3) := by decide +kernel
theorem dX3_countWithWaysOutside_47 : decode cX3_countWithWaysOutside 47 = .ok (.iload_n 3, 1) := by decide +kernel
end
section
theorem dX3_countWithWaysOutside_48 : decode cX3_countWithWaysOutside 48 = .ok (.ireturn, 1) := by decide +kernel
theorem dX3_hasWayOutside_0 : decode cX3_hasWayOutside 0 = .ok (.iconst 0, 1) := by decide +kernel
theorem dX3_hasWayOutside_1 : decode cX3_hasWayOutside 1 = .ok (.istore 4, 2) := by decide +kernel
theorem dX3_hasWayOutside_3 : decode cX3_hasWayOutside 3 = .ok (.iload 4, 2) := by decide +kernel
theorem dX3_hasWayOutside_5 : decode cX3_hasWayOutside 5 = .ok (.aload_n 1, 1) := by decide +kernel
theorem dX3_hasWayOutside_6 : decode cX3_hasWayOutside 6 = .ok (.getfield 100, 3) := by decide +kernel
theorem dX3_hasWayOutside_9 : decode cX3_hasWayOutside 9 = .ok (.if_icmp .ge 58, 3) := by decide +kernel
theorem dX3_hasWayOutside_12 : decode cX3_hasWayOutside 12 = .ok (.aload_n 2, 1) := by decide +kernel
theorem dX3_hasWayOutside_13 : decode cX3_hasWayOutside 13 = .ok (.getfield 272, 3) := by decide +kernel
theorem dX3_hasWayOutside_16 : decode cX3_hasWayOutside 16 = .ok (.iload 4, 2) := by decide +kernel
theorem dX3_hasWayOutside_18 : decode cX3_hasWayOutside 18 = .ok (.invokestatic 105, 3) := by decide +kernel
theorem dX3_hasWayOutside_21 : decode cX3_hasWayOutside 21 = .ok (.ifCond .eq 16, 3) := by decide +kernel
theorem dX3_hasWayOutside_24 : decode cX3_hasWayOutside 24 = .ok (.iload_n 3, 1) := by decide +kernel
theorem dX3_hasWayOutside_25 : decode cX3_hasWayOutside 25 = .ok (.iload 4, 2) := by decide +kernel
theorem dX3_hasWayOutside_27 : decode cX3_hasWayOutside 27 = .ok (.invokestatic 105, 3) := by decide +kernel
theorem dX3_hasWayOutside_30 : decode cX3_hasWayOutside 30 = .ok (.ifCond .ne 7, 3) := by decide +kernel
theorem dX3_hasWayOutside_33 : decode cX3_hasWayOutside 33 = .ok (.iconst 1, 1) := by decide +kernel
theorem dX3_hasWayOutside_34 : decode cX3_hasWayOutside 34 = .ok (.goto 4, 3) := by decide +kernel
theorem dX3_hasWayOutside_37 : decode cX3_hasWayOutside 37 = .ok (.iconst 0, 1) := by decide +kernel
theorem dX3_hasWayOutside_38 : decode cX3_hasWayOutside 38 = .ok (.istore 5, 2) := by decide +kernel
theorem dX3_hasWayOutside_40 : decode cX3_hasWayOutside 40 = .ok (.iload 5, 2) := by decide +kernel
theorem dX3_hasWayOutside_42 : decode cX3_hasWayOutside 42 = .ok (.ifCond .eq 19, 3) := by decide +kernel
theorem dX3_hasWayOutside_45 : decode cX3_hasWayOutside 45 = .ok (.aload_n 0, 1) := by decide +kernel
theorem dX3_hasWayOutside_46 : decode cX3_hasWayOutside 46 = .ok (.aload_n 1, 1) := by decide +kernel
theorem dX3_hasWayOutside_47 : decode cX3_hasWayOutside 47 = .ok (.aload_n 2, 1) := by decide +kernel
theorem dX3_hasWayOutside_48 : decode cX3_hasWayOutside 48 = .ok (.getfield 262, 3) := by decide +kernel
theorem dX3_hasWayOutside_51 : decode cX3_hasWayOutside 51 = .ok (.iload 4, 2) := by decide +kernel
theorem dX3_hasWayOutside_53 : decode cX3_hasWayOutside 53 = .ok (.invokevirtual 278, 3) := by decide +kernel
theorem dX3_hasWayOutside_56 : decode cX3_hasWayOutside 56 = .ok (.ifCond .eq 5, 3) := by decide +kernel
theorem dX3_hasWayOutside_59 : decode cX3_hasWayOutside 59 = .ok (.iconst 1, 1) := by decide +kernel
theorem dX3_hasWayOutside_60 : decode cX3_hasWayOutside 60 = .ok (.ireturn, 1) := by decide +kernel
theorem dX3_hasWayOutside_61 : decode cX3_hasWayOutside 61 = .ok (.iinc 4 1, 3) := by decide +kernel
theorem dX3_hasWayOutside_64 : decode cX3_hasWayOutside 64 = .ok (.goto (-61), 3) := by decide +kernel
theorem dX3_hasWayOutside_67 : decode cX3_hasWayOutside 67 = .ok (.iconst 0, 1) := by decide +kernel
theorem dX3_hasWayOutside_68 : decode cX3_hasWayOutside 68 = .ok (.ireturn, 1) := by decide +kernel
theorem dX3_mountAll_0 : decode cX3_mountAll 0 = .ok (.iconst 0, 1) := by decide +kernel
theorem dX3_mountAll_1 : decode cX3_mountAll 1 = .ok (.istore_n 3, 1) := by decide +kernel
theorem dX3_mountAll_2 : decode cX3_mountAll 2 = .ok (.iconst 0, 1) := by decide +kernel
theorem dX3_mountAll_3 : decode cX3_mountAll 3 = .ok (.istore 4, 2) := by decide +kernel
theorem dX3_mountAll_5 : decode cX3_mountAll 5 = .ok (.iload 4, 2) := by decide +kernel
theorem dX3_mountAll_7 : decode cX3_mountAll 7 = .ok (.aload_n 1, 1) := by decide +kernel
theorem dX3_mountAll_8 : decode cX3_mountAll 8 = .ok (.getfield 82, 3) := by decide +kernel
theorem dX3_mountAll_11 : decode cX3_mountAll 11 = .ok (.invokevirtual 37, 3) := by decide +kernel
theorem dX3_mountAll_14 : decode cX3_mountAll 14 = .ok (.if_icmp .ge 55, 3) := by decide +kernel
theorem dX3_mountAll_17 : decode cX3_mountAll 17 = .ok (.aload_n 1, 1) := by decide +kernel
theorem dX3_mountAll_18 : decode cX3_mountAll 18 = .ok (.getfield 82, 3) := by decide +kernel
theorem dX3_mountAll_21 : decode cX3_mountAll 21 = .ok (.iload 4, 2) := by decide +kernel
theorem dX3_mountAll_23 : decode cX3_mountAll 23 = .ok (.invokevirtual 124, 3) := by decide +kernel
theorem dX3_mountAll_26 : decode cX3_mountAll 26 = .ok (.checkcast 113, 3) := by decide +kernel
theorem dX3_mountAll_29 : decode cX3_mountAll 29 = .ok (.astore 5, 2) := by decide +kernel
theorem dX3_mountAll_31 : decode cX3_mountAll 31 = .ok (.aload 5, 2) := by decide +kernel
theorem dX3_mountAll_33 : decode cX3_mountAll 33 = .ok (.getfield 132, 3) := by decide +kernel
theorem dX3_mountAll_36 : decode cX3_mountAll 36 = .ok (.iload_n 2, 1) := by decide +kernel
theorem dX3_mountAll_37 : decode cX3_mountAll 37 = .ok (.if_icmp .ne 26, 3) := by decide +kernel
theorem dX3_mountAll_40 : decode cX3_mountAll 40 = .ok (.aload_n 0, 1) := by decide +kernel
theorem dX3_mountAll_41 : decode cX3_mountAll 41 = .ok (.aload_n 1, 1) := by decide +kernel
theorem dX3_mountAll_42 : decode cX3_mountAll 42 = .ok (.aload 5, 2) := by decide +kernel
theorem dX3_mountAll_44 : decode cX3_mountAll 44 = .ok (.invokevirtual 196, 3) := by decide +kernel
theorem dX3_mountAll_47 : decode cX3_mountAll 47 = .ok (.iload_n 3, 1) := by decide +kernel
theorem dX3_mountAll_48 : decode cX3_mountAll 48 = .ok (.aload 5, 2) := by decide +kernel
theorem dX3_mountAll_50 : decode cX3_mountAll 50 = .ok (.getfield 169, 3) := by decide +kernel
theorem dX3_mountAll_53 : decode cX3_mountAll 53 = .ok (.ifCond .eq 7, 3) := by decide +kernel
theorem dX3_mountAll_56 : decode cX3_mountAll 56 = .ok (.iconst 1, 1) := by decide +kernel
theorem dX3_mountAll_57 : decode cX3_mountAll 57 = .ok (.goto 4, 3) := by decide +kernel
theorem dX3_mountAll_60 : decode cX3_mountAll 60 = .ok (.iconst 0, 1) := by decide +kernel
theorem dX3_mountAll_61 : decode cX3_mountAll 61 = .ok (.iadd, 1) := by decide +kernel
theorem dX3_mountAll_62 : decode cX3_mountAll 62 = .ok (.istore_n 3, 1) := by decide +kernel
theorem dX3_mountAll_63 : decode cX3_mountAll 63 = .ok (.iinc 4 1, 3) := by decide +kernel
theorem dX3_mountAll_66 : decode cX3_mountAll 66 = .ok (.goto (-61), 3) := by decide +kernel
theorem dX3_mountAll_69 : decode cX3_mountAll 69 = .ok (.iload_n 3, 1) := by decide +kernel
theorem dX3_mountAll_70 : decode cX3_mountAll 70 = .ok (.ireturn, 1) := by decide +kernel
theorem dX3_mount_0 : decode cX3_mount 0 = .ok (.aload_n 2, 1) := by decide +kernel
theorem dX3_mount_1 : decode cX3_mount 1 = .ok (.aload_n 0, 1) := by decide +kernel
theorem dX3_mount_2 : decode cX3_mount 2 = .ok (.aload_n 1, 1) := by decide +kernel
theorem dX3_mount_3 : decode cX3_mount 3 = .ok (.getfield 297, 3) := by decide +kernel
theorem dX3_mount_6 : decode cX3_mount 6 = .ok (.aload_n 1, 1) := by decide +kernel
theorem dX3_mount_7 : decode cX3_mount 7 = .ok (.aload_n 2, 1) := by decide +kernel
theorem dX3_mount_8 : decode cX3_mount 8 = .ok (.getfield 132, 3) := by decide +kernel
theorem dX3_mount_11 : decode cX3_mount 11 = .ok (.invokevirtual 281, 3) := by decide +kernel
theorem dX3_mount_14 : decode cX3_mount 14 = .ok (.invokevirtual 298, 3) := by decide +kernel
theorem dX3_mount_17 : decode cX3_mount 17 = .ok (.putfield 302, 3) := by decide +kernel
theorem dX3_mount_20 : decode cX3_mount 20 = .ok (.aload_n 2, 1) := by decide +kernel
theorem dX3_mount_21 : decode cX3_mount 21 = .ok (.aload_n 2, 1) := by decide +kernel
theorem dX3_mount_22 : decode cX3_mount 22 = .ok (.getfield 302, 3) := by decide +kernel
theorem dX3_mount_25 : decode cX3_mount 25 = .ok (.ifnull 7, 3) := by decide +kernel
theorem dX3_mount_28 : decode cX3_mount 28 = .ok (.iconst 1, 1) := by decide +kernel
theorem dX3_mount_29 : decode cX3_mount 29 = .ok (.goto 4, 3) := by decide +kernel
theorem dX3_mount_32 : decode cX3_mount 32 = .ok (.iconst 0, 1) := by decide +kernel
theorem dX3_mount_33 : decode cX3_mount 33 = .ok (.putfield 169, 3) := by decide +kernel
theorem dX3_mount_36 : decode cX3_mount 36 = .ok (.return_, 1) := by decide +kernel
theorem dX3_drawBeast_0 : decode cX3_drawBeast 0 = .ok (.aload_n 0, 1) := by decide +kernel
theorem dX3_drawBeast_1 : decode cX3_drawBeast 1 = .ok (.iload_n 1, 1) := by decide +kernel
theorem dX3_drawBeast_2 : decode cX3_drawBeast 2 = .ok (.iload_n 2, 1) := by decide +kernel
theorem dX3_drawBeast_3 : decode cX3_drawBeast 3 = .ok (.invokevirtual 306, 3) := by decide +kernel
theorem dX3_drawBeast_6 : decode cX3_drawBeast 6 = .ok (.istore_n 3, 1) := by decide +kernel
theorem dX3_drawBeast_7 : decode cX3_drawBeast 7 = .ok (.iload_n 3, 1) := by decide +kernel
theorem dX3_drawBeast_8 : decode cX3_drawBeast 8 = .ok (.iconst 1, 1) := by decide +kernel
theorem dX3_drawBeast_9 : decode cX3_drawBeast 9 = .ok (.if_icmp .ge 5, 3) := by decide +kernel
theorem dX3_drawBeast_12 : decode cX3_drawBeast 12 = .ok (.aconst_null, 1) := by decide +kernel
theorem dX3_drawBeast_13 : decode cX3_drawBeast 13 = .ok (.areturn, 1) := by decide +kernel
theorem dX3_drawBeast_14 : decode cX3_drawBeast 14 = .ok (.aload_n 0, 1) := by decide +kernel
theorem dX3_drawBeast_15 : decode cX3_drawBeast 15 = .ok (.bipush 75, 2) := by decide +kernel
theorem dX3_drawBeast_17 : decode cX3_drawBeast 17 = .ok (.aload_n 0, 1) := by decide +kernel
theorem dX3_drawBeast_18 : decode cX3_drawBeast 18 = .ok (.getfield 23, 3) := by decide +kernel
theorem dX3_drawBeast_21 : decode cX3_drawBeast 21 = .ok (.imul, 1) := by decide +kernel
theorem dX3_drawBeast_22 : decode cX3_drawBeast 22 = .ok (.bipush 74, 2) := by decide +kernel
theorem dX3_drawBeast_24 : decode cX3_drawBeast 24 = .ok (.iadd, 1) := by decide +kernel
theorem dX3_drawBeast_25 : decode cX3_drawBeast 25 = .ok (.ldc_w 309, 3) := by decide +kernel
theorem dX3_drawBeast_28 : decode cX3_drawBeast 28 = .ok (.irem, 1) := by decide +kernel
theorem dX3_drawBeast_29 : decode cX3_drawBeast 29 = .ok (.putfield 23, 3) := by decide +kernel
theorem dX3_drawBeast_32 : decode cX3_drawBeast 32 = .ok (.aload_n 0, 1) := by decide +kernel
theorem dX3_drawBeast_33 : decode cX3_drawBeast 33 = .ok (.iload_n 1, 1) := by decide +kernel
theorem dX3_drawBeast_34 : decode cX3_drawBeast 34 = .ok (.iload_n 2, 1) := by decide +kernel
theorem dX3_drawBeast_35 : decode cX3_drawBeast 35 = .ok (.aload_n 0, 1) := by decide +kernel
theorem dX3_drawBeast_36 : decode cX3_drawBeast 36 = .ok (.getfield 23, 3) := by decide +kernel
theorem dX3_drawBeast_39 : decode cX3_drawBeast 39 = .ok (.iload_n 3, 1) := by decide +kernel
theorem dX3_drawBeast_40 : decode cX3_drawBeast 40 = .ok (.irem, 1) := by decide +kernel
theorem dX3_drawBeast_41 : decode cX3_drawBeast 41 = .ok (.invokevirtual 310, 3) := by decide +kernel
theorem dX3_drawBeast_44 : decode cX3_drawBeast 44 = .ok (.astore 4, 2) := by decide +kernel
theorem dX3_drawBeast_46 : decode cX3_drawBeast 46 = .ok (.aload 4, 2) := by decide +kernel
theorem dX3_drawBeast_48 : decode cX3_drawBeast 48 = .ok (.ifnull 9, 3) := by decide +kernel
theorem dX3_drawBeast_51 : decode cX3_drawBeast 51 = .ok (.aload 4, 2) := by decide +kernel
theorem dX3_drawBeast_53 : decode cX3_drawBeast 53 = .ok (.iload_n 2, 1) := by decide +kernel
theorem dX3_drawBeast_54 : decode cX3_drawBeast 54 = .ok (.invokevirtual 314, 3) := by decide +kernel
theorem dX3_drawBeast_57 : decode cX3_drawBeast 57 = .ok (.aload 4, 2) := by decide +kernel
theorem dX3_drawBeast_59 : decode cX3_drawBeast 59 = .ok (.areturn, 1) := by decide +kernel
theorem dX3_countDrawable_0 : decode cX3_countDrawable 0 = .ok (.iconst 0, 1) := by decide +kernel
theorem dX3_countDrawable_1 : decode cX3_countDrawable 1 = .ok (.istore_n 3, 1) := by decide +kernel
theorem dX3_countDrawable_2 : decode cX3_countDrawable 2 = .ok (.iconst 0, 1) := by decide +kernel
theorem dX3_countDrawable_3 : decode cX3_countDrawable 3 = .ok (.istore 4, 2) := by decide +kernel
theorem dX3_countDrawable_5 : decode cX3_countDrawable 5 = .ok (.iload 4, 2) := by decide +kernel
theorem dX3_countDrawable_7 : decode cX3_countDrawable 7 = .ok (.aload_n 0, 1) := by decide +kernel
theorem dX3_countDrawable_8 : decode cX3_countDrawable 8 = .ok (.getfield 12, 3) := by decide +kernel
theorem dX3_countDrawable_11 : decode cX3_countDrawable 11 = .ok (.invokevirtual 37, 3) := by decide +kernel
theorem dX3_countDrawable_14 : decode cX3_countDrawable 14 = .ok (.if_icmp .ge 32, 3) := by decide +kernel
theorem dX3_countDrawable_17 : decode cX3_countDrawable 17 = .ok (.aload_n 0, 1) := by decide +kernel
theorem dX3_countDrawable_18 : decode cX3_countDrawable 18 = .ok (.getfield 12, 3) := by decide +kernel
theorem dX3_countDrawable_21 : decode cX3_countDrawable 21 = .ok (.iload 4, 2) := by decide +kernel
theorem dX3_countDrawable_23 : decode cX3_countDrawable 23 = .ok (.invokevirtual 124, 3) := by decide +kernel
theorem dX3_countDrawable_26 : decode cX3_countDrawable 26 = .ok (.checkcast 46, 3) := by decide +kernel
theorem dX3_countDrawable_29 : decode cX3_countDrawable 29 = .ok (.iload_n 1, 1) := by decide +kernel
theorem dX3_countDrawable_30 : decode cX3_countDrawable 30 = .ok (.iload_n 2, 1) := by decide +kernel
theorem dX3_countDrawable_31 : decode cX3_countDrawable 31 = .ok (.invokevirtual 317, 3) := by decide +kernel
theorem dX3_countDrawable_34 : decode cX3_countDrawable 34 = .ok (.ifCond .eq 6, 3) := by decide +kernel
theorem dX3_countDrawable_37 : decode cX3_countDrawable 37 = .ok (.iinc 3 1, 3) := by decide +kernel
theorem dX3_countDrawable_40 : decode cX3_countDrawable 40 = .ok (.iinc 4 1, 3) := by decide +kernel
theorem dX3_countDrawable_43 : decode cX3_countDrawable 43 = .ok (.goto (-38), 3) := by decide +kernel
theorem dX3_countDrawable_46 : decode cX3_countDrawable 46 = .ok (.iload_n 3, 1) := by decide +kernel
theorem dX3_countDrawable_47 : decode cX3_countDrawable 47 = .ok (.ireturn, 1) := by decide +kernel
theorem dX3_drawableAt_0 : decode cX3_drawableAt 0 = .ok (.iconst 0, 1) := by decide +kernel
theorem dX3_drawableAt_1 : decode cX3_drawableAt 1 = .ok (.istore 4, 2) := by decide +kernel
theorem dX3_drawableAt_3 : decode cX3_drawableAt 3 = .ok (.iconst 0, 1) := by decide +kernel
theorem dX3_drawableAt_4 : decode cX3_drawableAt 4 = .ok (.istore 5, 2) := by decide +kernel
theorem dX3_drawableAt_6 : decode cX3_drawableAt 6 = .ok (.iload 5, 2) := by decide +kernel
theorem dX3_drawableAt_8 : decode cX3_drawableAt 8 = .ok (.aload_n 0, 1) := by decide +kernel
theorem dX3_drawableAt_9 : decode cX3_drawableAt 9 = .ok (.getfield 12, 3) := by decide +kernel
theorem dX3_drawableAt_12 : decode cX3_drawableAt 12 = .ok (.invokevirtual 37, 3) := by decide +kernel
theorem dX3_drawableAt_15 : decode cX3_drawableAt 15 = .ok (.if_icmp .ge 45, 3) := by decide +kernel
theorem dX3_drawableAt_18 : decode cX3_drawableAt 18 = .ok (.aload_n 0, 1) := by decide +kernel
theorem dX3_drawableAt_19 : decode cX3_drawableAt 19 = .ok (.getfield 12, 3) := by decide +kernel
theorem dX3_drawableAt_22 : decode cX3_drawableAt 22 = .ok (.iload 5, 2) := by decide +kernel
theorem dX3_drawableAt_24 : decode cX3_drawableAt 24 = .ok (.invokevirtual 124, 3) := by decide +kernel
theorem dX3_drawableAt_27 : decode cX3_drawableAt 27 = .ok (.checkcast 46, 3) := by decide +kernel
theorem dX3_drawableAt_30 : decode cX3_drawableAt 30 = .ok (.astore 6, 2) := by decide +kernel
theorem dX3_drawableAt_32 : decode cX3_drawableAt 32 = .ok (.aload 6, 2) := by decide +kernel
theorem dX3_drawableAt_34 : decode cX3_drawableAt 34 = .ok (.iload_n 1, 1) := by decide +kernel
theorem dX3_drawableAt_35 : decode cX3_drawableAt 35 = .ok (.iload_n 2, 1) := by decide +kernel
theorem dX3_drawableAt_36 : decode cX3_drawableAt 36 = .ok (.invokevirtual 317, 3) := by decide +kernel
theorem dX3_drawableAt_39 : decode cX3_drawableAt 39 = .ok (.ifCond .eq 15, 3) := by decide +kernel
theorem dX3_drawableAt_42 : decode cX3_drawableAt 42 = .ok (.iload 4, 2) := by decide +kernel
theorem dX3_drawableAt_44 : decode cX3_drawableAt 44 = .ok (.iload_n 3, 1) := by decide +kernel
theorem dX3_drawableAt_45 : decode cX3_drawableAt 45 = .ok (.if_icmp .ne 6, 3) := by decide +kernel
theorem dX3_drawableAt_48 : decode cX3_drawableAt 48 = .ok (.aload 6, 2) := by decide +kernel
theorem dX3_drawableAt_50 : decode cX3_drawableAt 50 = .ok (.areturn, 1) := by decide +kernel
theorem dX3_drawableAt_51 : decode cX3_drawableAt 51 = .ok (.iinc 4 1, 3) := by decide +kernel
theorem dX3_drawableAt_54 : decode cX3_drawableAt 54 = .ok (.iinc 5 1, 3) := by decide +kernel
theorem dX3_drawableAt_57 : decode cX3_drawableAt 57 = .ok (.goto (-51), 3) := by decide +kernel
theorem dX3_drawableAt_60 : decode cX3_drawableAt 60 = .ok (.aconst_null, 1) := by decide +kernel
theorem dX3_drawableAt_61 : decode cX3_drawableAt 61 = .ok (.areturn, 1) := by decide +kernel
theorem dX3_rankOfBeast_0 : decode cX3_rankOfBeast 0 = .ok (.aload_n 1, 1) := by decide +kernel
theorem dX3_rankOfBeast_1 : decode cX3_rankOfBeast 1 = .ok (.getfield 208, 3) := by decide +kernel
theorem dX3_rankOfBeast_4 : decode cX3_rankOfBeast 4 = .ok (.ifCond .ne 5, 3) := by decide +kernel
theorem dX3_rankOfBeast_7 : decode cX3_rankOfBeast 7 = .ok (.iconst (-1), 1) := by decide +kernel
theorem dX3_rankOfBeast_8 : decode cX3_rankOfBeast 8 = .ok (.ireturn, 1) := by decide +kernel
theorem dX3_rankOfBeast_9 : decode cX3_rankOfBeast 9 = .ok (.iconst 0, 1) := by decide +kernel
theorem dX3_rankOfBeast_10 : decode cX3_rankOfBeast 10 = .ok (.istore_n 2, 1) := by decide +kernel
theorem dX3_rankOfBeast_11 : decode cX3_rankOfBeast 11 = .ok (.iconst 0, 1) := by decide +kernel
theorem dX3_rankOfBeast_12 : decode cX3_rankOfBeast 12 = .ok (.istore_n 3, 1) := by decide +kernel
theorem dX3_rankOfBeast_13 : decode cX3_rankOfBeast 13 = .ok (.iload_n 3, 1) := by decide +kernel
theorem dX3_rankOfBeast_14 : decode cX3_rankOfBeast 14 = .ok (.aload_n 0, 1) := by decide +kernel
theorem dX3_rankOfBeast_15 : decode cX3_rankOfBeast 15 = .ok (.getfield 12, 3) := by decide +kernel
theorem dX3_rankOfBeast_18 : decode cX3_rankOfBeast 18 = .ok (.invokevirtual 37, 3) := by decide +kernel
theorem dX3_rankOfBeast_21 : decode cX3_rankOfBeast 21 = .ok (.if_icmp .ge 42, 3) := by decide +kernel
theorem dX3_rankOfBeast_24 : decode cX3_rankOfBeast 24 = .ok (.aload_n 0, 1) := by decide +kernel
theorem dX3_rankOfBeast_25 : decode cX3_rankOfBeast 25 = .ok (.getfield 12, 3) := by decide +kernel
theorem dX3_rankOfBeast_28 : decode cX3_rankOfBeast 28 = .ok (.iload_n 3, 1) := by decide +kernel
theorem dX3_rankOfBeast_29 : decode cX3_rankOfBeast 29 = .ok (.invokevirtual 124, 3) := by decide +kernel
theorem dX3_rankOfBeast_32 : decode cX3_rankOfBeast 32 = .ok (.checkcast 46, 3) := by decide +kernel
theorem dX3_rankOfBeast_35 : decode cX3_rankOfBeast 35 = .ok (.astore 4, 2) := by decide +kernel
theorem dX3_rankOfBeast_37 : decode cX3_rankOfBeast 37 = .ok (.aload 4, 2) := by decide +kernel
theorem dX3_rankOfBeast_39 : decode cX3_rankOfBeast 39 = .ok (.getfield 208, 3) := by decide +kernel
theorem dX3_rankOfBeast_42 : decode cX3_rankOfBeast 42 = .ok (.ifCond .le 15, 3) := by decide +kernel
theorem dX3_rankOfBeast_45 : decode cX3_rankOfBeast 45 = .ok (.aload 4, 2) := by decide +kernel
theorem dX3_rankOfBeast_47 : decode cX3_rankOfBeast 47 = .ok (.aload_n 1, 1) := by decide +kernel
theorem dX3_rankOfBeast_48 : decode cX3_rankOfBeast 48 = .ok (.invokevirtual 320, 3) := by decide +kernel
theorem dX3_rankOfBeast_51 : decode cX3_rankOfBeast 51 = .ok (.ifCond .eq 6, 3) := by decide +kernel
theorem dX3_rankOfBeast_54 : decode cX3_rankOfBeast 54 = .ok (.iinc 2 1, 3) := by decide +kernel
theorem dX3_rankOfBeast_57 : decode cX3_rankOfBeast 57 = .ok (.iinc 3 1, 3) := by decide +kernel
theorem dX3_rankOfBeast_60 : decode cX3_rankOfBeast 60 = .ok (.goto (-47), 3) := by decide +kernel
theorem dX3_rankOfBeast_63 : decode cX3_rankOfBeast 63 = .ok (.iload_n 2, 1) := by decide +kernel
theorem dX3_rankOfBeast_64 : decode cX3_rankOfBeast 64 = .ok (.ireturn, 1) := by decide +kernel
theorem dX3_moneyOf_0 : decode cX3_moneyOf 0 = .ok (.aload_n 1, 1) := by decide +kernel
theorem dX3_moneyOf_1 : decode cX3_moneyOf 1 = .ok (.iload_n 2, 1) := by decide +kernel
theorem dX3_moneyOf_2 : decode cX3_moneyOf 2 = .ok (.invokevirtual 258, 3) := by decide +kernel
theorem dX3_moneyOf_5 : decode cX3_moneyOf 5 = .ok (.astore_n 3, 1) := by decide +kernel
theorem dX3_moneyOf_6 : decode cX3_moneyOf 6 = .ok (.aload_n 3, 1) := by decide +kernel
theorem dX3_moneyOf_7 : decode cX3_moneyOf 7 = .ok (.ifnonnull 7, 3) := by decide +kernel
theorem dX3_moneyOf_10 : decode cX3_moneyOf 10 = .ok (.iconst 0, 1) := by decide +kernel
theorem dX3_moneyOf_11 : decode cX3_moneyOf 11 = .ok (.goto 7, 3) := by decide +kernel
theorem dX3_moneyOf_14 : decode cX3_moneyOf 14 = .ok (.aload_n 3, 1) := by decide +kernel
theorem dX3_moneyOf_15 : decode cX3_moneyOf 15 = .ok (.getfield 233, 3) := by decide +kernel
theorem dX3_moneyOf_18 : decode cX3_moneyOf 18 = .ok (.ireturn, 1) := by decide +kernel
theorem dX3_bestThreePays_0 : decode cX3_bestThreePays 0 = .ok (.iconst 0, 1) := by decide +kernel
theorem dX3_bestThreePays_1 : decode cX3_bestThreePays 1 = .ok (.istore_n 2, 1) := by decide +kernel
theorem dX3_bestThreePays_2 : decode cX3_bestThreePays 2 = .ok (.iconst 0, 1) := by decide +kernel
theorem dX3_bestThreePays_3 : decode cX3_bestThreePays 3 = .ok (.istore_n 3, 1) := by decide +kernel
theorem dX3_bestThreePays_4 : decode cX3_bestThreePays 4 = .ok (.iconst 0, 1) := by decide +kernel
theorem dX3_bestThreePays_5 : decode cX3_bestThreePays 5 = .ok (.istore 4, 2) := by decide +kernel
theorem dX3_bestThreePays_7 : decode cX3_bestThreePays 7 = .ok (.iconst 0, 1) := by decide +kernel
theorem dX3_bestThreePays_8 : decode cX3_bestThreePays 8 = .ok (.istore 5, 2) := by decide +kernel
theorem dX3_bestThreePays_10 : decode cX3_bestThreePays 10 = .ok (.iload 5, 2) := by decide +kernel
theorem dX3_bestThreePays_12 : decode cX3_bestThreePays 12 = .ok (.aload_n 0, 1) := by decide +kernel
theorem dX3_bestThreePays_13 : decode cX3_bestThreePays 13 = .ok (.getfield 16, 3) := by decide +kernel
theorem dX3_bestThreePays_16 : decode cX3_bestThreePays 16 = .ok (.invokevirtual 37, 3) := by decide +kernel
theorem dX3_bestThreePays_19 : decode cX3_bestThreePays 19 = .ok (.if_icmp .ge 71, 3) := by decide +kernel
theorem dX3_bestThreePays_22 : decode cX3_bestThreePays 22 = .ok (.aload_n 0, 1) := by decide +kernel
theorem dX3_bestThreePays_23 : decode cX3_bestThreePays 23 = .ok (.aload_n 0, 1) := by decide +kernel
theorem dX3_bestThreePays_24 : decode cX3_bestThreePays 24 = .ok (.getfield 16, 3) := by decide +kernel
theorem dX3_bestThreePays_27 : decode cX3_bestThreePays 27 = .ok (.iload 5, 2) := by decide +kernel
theorem dX3_bestThreePays_29 : decode cX3_bestThreePays 29 = .ok (.invokevirtual 124, 3) := by decide +kernel
theorem dX3_bestThreePays_32 : decode cX3_bestThreePays 32 = .ok (.checkcast 70, 3) := by decide +kernel
theorem dX3_bestThreePays_35 : decode cX3_bestThreePays 35 = .ok (.iload_n 1, 1) := by decide +kernel
theorem dX3_bestThreePays_36 : decode cX3_bestThreePays 36 = .ok (.invokevirtual 324, 3) := by decide +kernel
theorem dX3_bestThreePays_39 : decode cX3_bestThreePays 39 = .ok (.istore 6, 2) := by decide +kernel
theorem dX3_bestThreePays_41 : decode cX3_bestThreePays 41 = .ok (.iload 6, 2) := by decide +kernel
theorem dX3_bestThreePays_43 : decode cX3_bestThreePays 43 = .ok (.iload_n 2, 1) := by decide +kernel
theorem dX3_bestThreePays_44 : decode cX3_bestThreePays 44 = .ok (.if_icmp .le 14, 3) := by decide +kernel
theorem dX3_bestThreePays_47 : decode cX3_bestThreePays 47 = .ok (.iload_n 3, 1) := by decide +kernel
theorem dX3_bestThreePays_48 : decode cX3_bestThreePays 48 = .ok (.istore 4, 2) := by decide +kernel
theorem dX3_bestThreePays_50 : decode cX3_bestThreePays 50 = .ok (.iload_n 2, 1) := by decide +kernel
theorem dX3_bestThreePays_51 : decode cX3_bestThreePays 51 = .ok (.istore_n 3, 1) := by decide +kernel
theorem dX3_bestThreePays_52 : decode cX3_bestThreePays 52 = .ok (.iload 6, 2) := by decide +kernel
theorem dX3_bestThreePays_54 : decode cX3_bestThreePays 54 = .ok (.istore_n 2, 1) := by decide +kernel
theorem dX3_bestThreePays_55 : decode cX3_bestThreePays 55 = .ok (.goto 29, 3) := by decide +kernel
theorem dX3_bestThreePays_58 : decode cX3_bestThreePays 58 = .ok (.iload 6, 2) := by decide +kernel
theorem dX3_bestThreePays_60 : decode cX3_bestThreePays 60 = .ok (.iload_n 3, 1) := by decide +kernel
theorem dX3_bestThreePays_61 : decode cX3_bestThreePays 61 = .ok (.if_icmp .le 12, 3) := by decide +kernel
theorem dX3_bestThreePays_64 : decode cX3_bestThreePays 64 = .ok (.iload_n 3, 1) := by decide +kernel
theorem dX3_bestThreePays_65 : decode cX3_bestThreePays 65 = .ok (.istore 4, 2) := by decide +kernel
theorem dX3_bestThreePays_67 : decode cX3_bestThreePays 67 = .ok (.iload 6, 2) := by decide +kernel
theorem dX3_bestThreePays_69 : decode cX3_bestThreePays 69 = .ok (.istore_n 3, 1) := by decide +kernel
theorem dX3_bestThreePays_70 : decode cX3_bestThreePays 70 = .ok (.goto 14, 3) := by decide +kernel
theorem dX3_bestThreePays_73 : decode cX3_bestThreePays 73 = .ok (.iload 6, 2) := by decide +kernel
theorem dX3_bestThreePays_75 : decode cX3_bestThreePays 75 = .ok (.iload 4, 2) := by decide +kernel
theorem dX3_bestThreePays_77 : decode cX3_bestThreePays 77 = .ok (.if_icmp .le 7, 3) := by decide +kernel
theorem dX3_bestThreePays_80 : decode cX3_bestThreePays 80 = .ok (.iload 6, 2) := by decide +kernel
theorem dX3_bestThreePays_82 : decode cX3_bestThreePays 82 = .ok (.istore 4, 2) := by decide +kernel
theorem dX3_bestThreePays_84 : decode cX3_bestThreePays 84 = .ok (.iinc 5 1, 3) := by decide +kernel
theorem dX3_bestThreePays_87 : decode cX3_bestThreePays 87 = .ok (.goto (-77), 3) := by decide +kernel
theorem dX3_bestThreePays_90 : decode cX3_bestThreePays 90 = .ok (.iload_n 2, 1) := by decide +kernel
theorem dX3_bestThreePays_91 : decode cX3_bestThreePays 91 = .ok (.iload_n 3, 1) := by decide +kernel
theorem dX3_bestThreePays_92 : decode cX3_bestThreePays 92 = .ok (.iadd, 1) := by decide +kernel
theorem dX3_bestThreePays_93 : decode cX3_bestThreePays 93 = .ok (.iload 4, 2) := by decide +kernel
theorem dX3_bestThreePays_95 : decode cX3_bestThreePays 95 = .ok (.iadd, 1) := by decide +kernel
theorem dX3_bestThreePays_96 : decode cX3_bestThreePays 96 = .ok (.ireturn, 1) := by decide +kernel
theorem dX3_allPays_0 : decode cX3_allPays 0 = .ok (.iconst 0, 1) := by decide +kernel
theorem dX3_allPays_1 : decode cX3_allPays 1 = .ok (.istore_n 2, 1) := by decide +kernel
theorem dX3_allPays_2 : decode cX3_allPays 2 = .ok (.iconst 0, 1) := by decide +kernel
theorem dX3_allPays_3 : decode cX3_allPays 3 = .ok (.istore_n 3, 1) := by decide +kernel
theorem dX3_allPays_4 : decode cX3_allPays 4 = .ok (.iload_n 3, 1) := by decide +kernel
theorem dX3_allPays_5 : decode cX3_allPays 5 = .ok (.aload_n 0, 1) := by decide +kernel
theorem dX3_allPays_6 : decode cX3_allPays 6 = .ok (.getfield 16, 3) := by decide +kernel
theorem dX3_allPays_9 : decode cX3_allPays 9 = .ok (.invokevirtual 37, 3) := by decide +kernel
theorem dX3_allPays_12 : decode cX3_allPays 12 = .ok (.if_icmp .ge 28, 3) := by decide +kernel
theorem dX3_allPays_15 : decode cX3_allPays 15 = .ok (.iload_n 2, 1) := by decide +kernel
theorem dX3_allPays_16 : decode cX3_allPays 16 = .ok (.aload_n 0, 1) := by decide +kernel
theorem dX3_allPays_17 : decode cX3_allPays 17 = .ok (.aload_n 0, 1) := by decide +kernel
theorem dX3_allPays_18 : decode cX3_allPays 18 = .ok (.getfield 16, 3) := by decide +kernel
theorem dX3_allPays_21 : decode cX3_allPays 21 = .ok (.iload_n 3, 1) := by decide +kernel
theorem dX3_allPays_22 : decode cX3_allPays 22 = .ok (.invokevirtual 124, 3) := by decide +kernel
theorem dX3_allPays_25 : decode cX3_allPays 25 = .ok (.checkcast 70, 3) := by decide +kernel
theorem dX3_allPays_28 : decode cX3_allPays 28 = .ok (.iload_n 1, 1) := by decide +kernel
theorem dX3_allPays_29 : decode cX3_allPays 29 = .ok (.invokevirtual 324, 3) := by decide +kernel
theorem dX3_allPays_32 : decode cX3_allPays 32 = .ok (.iadd, 1) := by decide +kernel
theorem dX3_allPays_33 : decode cX3_allPays 33 = .ok (.istore_n 2, 1) := by decide +kernel
theorem dX3_allPays_34 : decode cX3_allPays 34 = .ok (.iinc 3 1, 3) := by decide +kernel
theorem dX3_allPays_37 : decode cX3_allPays 37 = .ok (.goto (-33), 3) := by decide +kernel
theorem dX3_allPays_40 : decode cX3_allPays 40 = .ok (.iload_n 2, 1) := by decide +kernel
theorem dX3_allPays_41 : decode cX3_allPays 41 = .ok (.ireturn, 1) := by decide +kernel
theorem dX3_rankOfRider_0 : decode cX3_rankOfRider 0 = .ok (.iconst 0, 1) := by decide +kernel
theorem dX3_rankOfRider_1 : decode cX3_rankOfRider 1 = .ok (.istore_n 2, 1) := by decide +kernel
theorem dX3_rankOfRider_2 : decode cX3_rankOfRider 2 = .ok (.iconst 0, 1) := by decide +kernel
theorem dX3_rankOfRider_3 : decode cX3_rankOfRider 3 = .ok (.istore_n 3, 1) := by decide +kernel
theorem dX3_rankOfRider_4 : decode cX3_rankOfRider 4 = .ok (.iload_n 3, 1) := by decide +kernel
theorem dX3_rankOfRider_5 : decode cX3_rankOfRider 5 = .ok (.aload_n 0, 1) := by decide +kernel
theorem dX3_rankOfRider_6 : decode cX3_rankOfRider 6 = .ok (.getfield 19, 3) := by decide +kernel
theorem dX3_rankOfRider_9 : decode cX3_rankOfRider 9 = .ok (.if_icmp .ge 21, 3) := by decide +kernel
theorem dX3_rankOfRider_12 : decode cX3_rankOfRider 12 = .ok (.aload_n 0, 1) := by decide +kernel
theorem dX3_rankOfRider_13 : decode cX3_rankOfRider 13 = .ok (.iload_n 3, 1) := by decide +kernel
theorem dX3_rankOfRider_14 : decode cX3_rankOfRider 14 = .ok (.iload_n 1, 1) := by decide +kernel
theorem dX3_rankOfRider_15 : decode cX3_rankOfRider 15 = .ok (.invokevirtual 327, 3) := by decide +kernel
theorem dX3_rankOfRider_18 : decode cX3_rankOfRider 18 = .ok (.ifCond .eq 6, 3) := by decide +kernel
theorem dX3_rankOfRider_21 : decode cX3_rankOfRider 21 = .ok (.iinc 2 1, 3) := by decide +kernel
theorem dX3_rankOfRider_24 : decode cX3_rankOfRider 24 = .ok (.iinc 3 1, 3) := by decide +kernel
theorem dX3_rankOfRider_27 : decode cX3_rankOfRider 27 = .ok (.goto (-23), 3) := by decide +kernel
theorem dX3_rankOfRider_30 : decode cX3_rankOfRider 30 = .ok (.iload_n 2, 1) := by decide +kernel
theorem dX3_rankOfRider_31 : decode cX3_rankOfRider 31 = .ok (.ireturn, 1) := by decide +kernel
theorem dX3_isRiderAhead_0 : decode cX3_isRiderAhead 0 = .ok (.aload_n 0, 1) := by decide +kernel
theorem dX3_isRiderAhead_1 : decode cX3_isRiderAhead 1 = .ok (.iload_n 1, 1) := by decide +kernel
theorem dX3_isRiderAhead_2 : decode cX3_isRiderAhead 2 = .ok (.invokevirtual 240, 3) := by decide +kernel
theorem dX3_isRiderAhead_5 : decode cX3_isRiderAhead 5 = .ok (.aload_n 0, 1) := by decide +kernel
theorem dX3_isRiderAhead_6 : decode cX3_isRiderAhead 6 = .ok (.iload_n 2, 1) := by decide +kernel
theorem dX3_isRiderAhead_7 : decode cX3_isRiderAhead 7 = .ok (.invokevirtual 240, 3) := by decide +kernel
theorem dX3_isRiderAhead_10 : decode cX3_isRiderAhead 10 = .ok (.invokestatic 330, 3) := by decide +kernel
theorem dX3_isRiderAhead_13 : decode cX3_isRiderAhead 13 = .ok (.istore_n 3, 1) := by decide +kernel
theorem dX3_isRiderAhead_14 : decode cX3_isRiderAhead 14 = .ok (.iload_n 3, 1) := by decide +kernel
theorem dX3_isRiderAhead_15 : decode cX3_isRiderAhead 15 = .ok (.ifCond .eq 13, 3) := by decide +kernel
theorem dX3_isRiderAhead_18 : decode cX3_isRiderAhead 18 = .ok (.iload_n 3, 1) := by decide +kernel
theorem dX3_isRiderAhead_19 : decode cX3_isRiderAhead 19 = .ok (.ifCond .le 7, 3) := by decide +kernel
theorem dX3_isRiderAhead_22 : decode cX3_isRiderAhead 22 = .ok (.iconst 1, 1) := by decide +kernel
theorem dX3_isRiderAhead_23 : decode cX3_isRiderAhead 23 = .ok (.goto 4, 3) := by decide +kernel
theorem dX3_isRiderAhead_26 : decode cX3_isRiderAhead 26 = .ok (.iconst 0, 1) := by decide +kernel
theorem dX3_isRiderAhead_27 : decode cX3_isRiderAhead 27 = .ok (.ireturn, 1) := by decide +kernel
theorem dX3_isRiderAhead_28 : decode cX3_isRiderAhead 28 = .ok (.aload_n 0, 1) := by decide +kernel
theorem dX3_isRiderAhead_29 : decode cX3_isRiderAhead 29 = .ok (.iload_n 1, 1) := by decide +kernel
theorem dX3_isRiderAhead_30 : decode cX3_isRiderAhead 30 = .ok (.invokevirtual 333, 3) := by decide +kernel
theorem dX3_isRiderAhead_33 : decode cX3_isRiderAhead 33 = .ok (.aload_n 0, 1) := by decide +kernel
theorem dX3_isRiderAhead_34 : decode cX3_isRiderAhead 34 = .ok (.iload_n 2, 1) := by decide +kernel
theorem dX3_isRiderAhead_35 : decode cX3_isRiderAhead 35 = .ok (.invokevirtual 333, 3) := by decide +kernel
theorem dX3_isRiderAhead_38 : decode cX3_isRiderAhead 38 = .ok (.invokestatic 330, 3) := by decide +kernel
theorem dX3_isRiderAhead_41 : decode cX3_isRiderAhead 41 = .ok (.istore 4, 2) := by decide +kernel
theorem dX3_isRiderAhead_43 : decode cX3_isRiderAhead 43 = .ok (.iload 4, 2) := by decide +kernel
theorem dX3_isRiderAhead_45 : decode cX3_isRiderAhead 45 = .ok (.ifCond .eq 14, 3) := by decide +kernel
theorem dX3_isRiderAhead_48 : decode cX3_isRiderAhead 48 = .ok (.iload 4, 2) := by decide +kernel
theorem dX3_isRiderAhead_50 : decode cX3_isRiderAhead 50 = .ok (.ifCond .le 7, 3) := by decide +kernel
theorem dX3_isRiderAhead_53 : decode cX3_isRiderAhead 53 = .ok (.iconst 1, 1) := by decide +kernel
theorem dX3_isRiderAhead_54 : decode cX3_isRiderAhead 54 = .ok (.goto 4, 3) := by decide +kernel
theorem dX3_isRiderAhead_57 : decode cX3_isRiderAhead 57 = .ok (.iconst 0, 1) := by decide +kernel
theorem dX3_isRiderAhead_58 : decode cX3_isRiderAhead 58 = .ok (.ireturn, 1) := by decide +kernel
theorem dX3_isRiderAhead_59 : decode cX3_isRiderAhead 59 = .ok (.iload_n 1, 1) := by decide +kernel
theorem dX3_isRiderAhead_60 : decode cX3_isRiderAhead 60 = .ok (.iload_n 2, 1) := by decide +kernel
theorem dX3_isRiderAhead_61 : decode cX3_isRiderAhead 61 = .ok (.if_icmp .ge 7, 3) := by decide +kernel
theorem dX3_isRiderAhead_64 : decode cX3_isRiderAhead 64 = .ok (.iconst 1, 1) := by decide +kernel
theorem dX3_isRiderAhead_65 : decode cX3_isRiderAhead 65 = .ok (.goto 4, 3) := by decide +kernel
theorem dX3_isRiderAhead_68 : decode cX3_isRiderAhead 68 = .ok (.iconst 0, 1) := by decide +kernel
theorem dX3_isRiderAhead_69 : decode cX3_isRiderAhead 69 = .ok (.ireturn, 1) := by decide +kernel
end
section
theorem dX4_init_0 : decode cX4_init 0 = .ok (.aload_n 0, 1) := by decide +kernel
theorem dX4_init_1 : decode cX4_init 1 = .ok (.invokespecial 1, 3) := by decide +kernel
theorem dX4_init_4 : decode cX4_init 4 = .ok (.aload_n 0, 1) := by decide +kernel
theorem dX4_init_5 : decode cX4_init 5 = .ok (.bipush 16, 2) := by decide +kernel
theorem dX4_init_7 : decode cX4_init 7 = .ok (.newarray .int, 2) := by decide +kernel
theorem dX4_init_9 : decode cX4_init 9 = .ok (.putfield 7, 3) := by decide +kernel
theorem dX4_init_12 : decode cX4_init 12 = .ok (.aload_n 0, 1) := by decide +kernel
theorem dX4_init_13 : decode cX4_init 13 = .ok (.bipush 16, 2) := by decide +kernel
theorem dX4_init_15 : decode cX4_init 15 = .ok (.newarray .int, 2) := by decide +kernel
theorem dX4_init_17 : decode cX4_init 17 = .ok (.putfield 13, 3) := by decide +kernel
theorem dX4_init_20 : decode cX4_init 20 = .ok (.aload_n 0, 1) := by decide +kernel
theorem dX4_init_21 : decode cX4_init 21 = .ok (.bipush 16, 2) := by decide +kernel
theorem dX4_init_23 : decode cX4_init 23 = .ok (.newarray .int, 2) := by decide +kernel
theorem dX4_init_25 : decode cX4_init 25 = .ok (.putfield 16, 3) := by decide +kernel
theorem dX4_init_28 : decode cX4_init 28 = .ok (.aload_n 0, 1) := by decide +kernel
theorem dX4_init_29 : decode cX4_init 29 = .ok (.bipush 16, 2) := by decide +kernel
theorem dX4_init_31 : decode cX4_init 31 = .ok (.newarray .int, 2) := by decide +kernel
theorem dX4_init_33 : decode cX4_init 33 = .ok (.putfield 19, 3) := by decide +kernel
theorem dX4_init_36 : decode cX4_init 36 = .ok (.aload_n 0, 1) := by decide +kernel
theorem dX4_init_37 : decode cX4_init 37 = .ok (.bipush 16, 2) := by decide +kernel
theorem dX4_init_39 : decode cX4_init 39 = .ok (.newarray .long, 2) := by decide +kernel
theorem dX4_init_41 : decode cX4_init 41 = .ok (.putfield 22, 3) := by decide +kernel
theorem dX4_init_44 : decode cX4_init 44 = .ok (.aload_n 0, 1) := by decide +kernel
theorem dX4_init_45 : decode cX4_init 45 = .ok (.bipush 8, 2) := by decide +kernel
theorem dX4_init_47 : decode cX4_init 47 = .ok (.newarray .int, 2) := by decide +kernel
theorem dX4_init_49 : decode cX4_init 49 = .ok (.putfield 26, 3) := by decide +kernel
theorem dX4_init_52 : decode cX4_init 52 = .ok (.aload_n 0, 1) := by decide +kernel
theorem dX4_init_53 : decode cX4_init 53 = .ok (.bipush 8, 2) := by decide +kernel
theorem dX4_init_55 : decode cX4_init 55 = .ok (.newarray .int, 2) := by decide +kernel
theorem dX4_init_57 : decode cX4_init 57 = .ok (.putfield 29, 3) := by decide +kernel
theorem dX4_init_60 : decode cX4_init 60 = .ok (.aload_n 0, 1) := by decide +kernel
theorem dX4_init_61 : decode cX4_init 61 = .ok (.bipush 8, 2) := by decide +kernel
theorem dX4_init_63 : decode cX4_init 63 = .ok (.newarray .int, 2) := by decide +kernel
theorem dX4_init_65 : decode cX4_init 65 = .ok (.putfield 32, 3) := by decide +kernel
theorem dX4_init_68 : decode cX4_init 68 = .ok (.aload_n 0, 1) := by decide +kernel
theorem dX4_init_69 : decode cX4_init 69 = .ok (.bipush 8, 2) := by decide +kernel
theorem dX4_init_71 : decode cX4_init 71 = .ok (.newarray .int, 2) := by decide +kernel
theorem dX4_init_73 : decode cX4_init 73 = .ok (.putfield 35, 3) := by decide +kernel
theorem dX4_init_76 : decode cX4_init 76 = .ok (.aload_n 0, 1) := by decide +kernel
theorem dX4_init_77 : decode cX4_init 77 = .ok (.bipush 8, 2) := by decide +kernel
theorem dX4_init_79 : decode cX4_init 79 = .ok (.newarray .int, 2) := by decide +kernel
theorem dX4_init_81 : decode cX4_init 81 = .ok (.putfield 38, 3) := by decide +kernel
theorem dX4_init_84 : decode cX4_init 84 = .ok (.aload_n 0, 1) := by decide +kernel
theorem dX4_init_85 : decode cX4_init 85 = .ok (.bipush 8, 2) := by decide +kernel
theorem dX4_init_87 : decode cX4_init 87 = .ok (.newarray .int, 2) := by decide +kernel
theorem dX4_init_89 : decode cX4_init 89 = .ok (.putfield 41, 3) := by decide +kernel
theorem dX4_init_92 : decode cX4_init 92 = .ok (.aload_n 0, 1) := by decide +kernel
theorem dX4_init_93 : decode cX4_init 93 = .ok (.bipush 8, 2) := by decide +kernel
theorem dX4_init_95 : decode cX4_init 95 = .ok (.newarray .int, 2) := by decide +kernel
theorem dX4_init_97 : decode cX4_init 97 = .ok (.putfield 44, 3) := by decide +kernel
theorem dX4_init_100 : decode cX4_init 100 = .ok (.aload_n 0, 1) := by decide +kernel
theorem dX4_init_101 : decode cX4_init 101 = .ok (.bipush 8, 2) := by decide +kernel
theorem dX4_init_103 : decode cX4_init 103 = .ok (.newarray .int, 2) := by decide +kernel
theorem dX4_init_105 : decode cX4_init 105 = .ok (.putfield 47, 3) := by decide +kernel
theorem dX4_init_108 : decode cX4_init 108 = .ok (.aload_n 0, 1) := by decide +kernel
theorem dX4_init_109 : decode cX4_init 109 = .ok (.bipush 8, 2) := by decide +kernel
theorem dX4_init_111 : decode cX4_init 111 = .ok (.newarray .int, 2) := by decide +kernel
theorem dX4_init_113 : decode cX4_init 113 = .ok (.putfield 50, 3) := by decide +kernel
theorem dX4_init_116 : decode cX4_init 116 = .ok (.aload_n 0, 1) := by decide +kernel
theorem dX4_init_117 : decode cX4_init 117 = .ok (.bipush 8, 2) := by decide +kernel
theorem dX4_init_119 : decode cX4_init 119 = .ok (.newarray .int, 2) := by decide +kernel
theorem dX4_init_121 : decode cX4_init 121 = .ok (.putfield 53, 3) := by decide +kernel
theorem dX4_init_124 : decode cX4_init 124 = .ok (.aload_n 0, 1) := by decide +kernel
theorem dX4_init_125 : decode cX4_init 125 = .ok (.bipush 96, 2) := by decide +kernel
theorem dX4_init_127 : decode cX4_init 127 = .ok (.newarray .int, 2) := by decide +kernel
theorem dX4_init_129 : decode cX4_init 129 = .ok (.putfield 56, 3) := by decide +kernel
theorem dX4_init_132 : decode cX4_init 132 = .ok (.aload_n 0, 1) := by decide +kernel
theorem dX4_init_133 : decode cX4_init 133 = .ok (.bipush 96, 2) := by decide +kernel
theorem dX4_init_135 : decode cX4_init 135 = .ok (.newarray .int, 2) := by decide +kernel
theorem dX4_init_137 : decode cX4_init 137 = .ok (.putfield 59, 3) := by decide +kernel
theorem dX4_init_140 : decode cX4_init 140 = .ok (.aload_n 0, 1) := by decide +kernel
theorem dX4_init_141 : decode cX4_init 141 = .ok (.bipush 96, 2) := by decide +kernel
theorem dX4_init_143 : decode cX4_init 143 = .ok (.newarray .int, 2) := by decide +kernel
theorem dX4_init_145 : decode cX4_init 145 = .ok (.putfield 62, 3) := by decide +kernel
theorem dX4_init_148 : decode cX4_init 148 = .ok (.aload_n 0, 1) := by decide +kernel
theorem dX4_init_149 : decode cX4_init 149 = .ok (.bipush 96, 2) := by decide +kernel
theorem dX4_init_151 : decode cX4_init 151 = .ok (.newarray .int, 2) := by decide +kernel
theorem dX4_init_153 : decode cX4_init 153 = .ok (.putfield 65, 3) := by decide +kernel
theorem dX4_init_156 : decode cX4_init 156 = .ok (.aload_n 0, 1) := by decide +kernel
theorem dX4_init_157 : decode cX4_init 157 = .ok (.bipush 96, 2) := by decide +kernel
theorem dX4_init_159 : decode cX4_init 159 = .ok (.newarray .int, 2) := by decide +kernel
theorem dX4_init_161 : decode cX4_init 161 = .ok (.putfield 68, 3) := by decide +kernel
theorem dX4_init_164 : decode cX4_init 164 = .ok (.aload_n 0, 1) := by decide +kernel
theorem dX4_init_165 : decode cX4_init 165 = .ok (.bipush 96, 2) := by decide +kernel
theorem dX4_init_167 : decode cX4_init 167 = .ok (.newarray .boolean, 2) := by decide +kernel
theorem dX4_init_169 : decode cX4_init 169 = .ok (.putfield 71, 3) := by decide +kernel
theorem dX4_init_172 : decode cX4_init 172 = .ok (.aload_n 0, 1) := by decide +kernel
theorem dX4_init_173 : decode cX4_init 173 = .ok (.bipush 96, 2) := by decide +kernel
theorem dX4_init_175 : decode cX4_init 175 = .ok (.newarray .boolean, 2) := by decide +kernel
theorem dX4_init_177 : decode cX4_init 177 = .ok (.putfield 75, 3) := by decide +kernel
theorem dX4_init_180 : decode cX4_init 180 = .ok (.aload_n 0, 1) := by decide +kernel
theorem dX4_init_181 : decode cX4_init 181 = .ok (.bipush 96, 2) := by decide +kernel
theorem dX4_init_183 : decode cX4_init 183 = .ok (.newarray .boolean, 2) := by decide +kernel
theorem dX4_init_185 : decode cX4_init 185 = .ok (.putfield 78, 3) := by decide +kernel
theorem dX4_init_188 : decode cX4_init 188 = .ok (.aload_n 0, 1) := by decide +kernel
theorem dX4_init_189 : decode cX4_init 189 = .ok (.bipush 96, 2) := by decide +kernel
theorem dX4_init_191 : decode cX4_init 191 = .ok (.newarray .boolean, 2) := by decide +kernel
theorem dX4_init_193 : decode cX4_init 193 = .ok (.putfield 81, 3) := by decide +kernel
theorem dX4_init_196 : decode cX4_init 196 = .ok (.aload_n 0, 1) := by decide +kernel
theorem dX4_init_197 : decode cX4_init 197 = .ok (.bipush 96, 2) := by decide +kernel
theorem dX4_init_199 : decode cX4_init 199 = .ok (.newarray .int, 2) := by decide +kernel
theorem dX4_init_201 : decode cX4_init 201 = .ok (.putfield 84, 3) := by decide +kernel
theorem dX4_init_204 : decode cX4_init 204 = .ok (.aload_n 0, 1) := by decide +kernel
theorem dX4_init_205 : decode cX4_init 205 = .ok (.bipush 96, 2) := by decide +kernel
theorem dX4_init_207 : decode cX4_init 207 = .ok (.newarray .int, 2) := by decide +kernel
theorem dX4_init_209 : decode cX4_init 209 = .ok (.putfield 87, 3) := by decide +kernel
theorem dX4_init_212 : decode cX4_init 212 = .ok (.aload_n 0, 1) := by decide +kernel
theorem dX4_init_213 : decode cX4_init 213 = .ok (.iconst 1, 1) := by decide +kernel
theorem dX4_init_214 : decode cX4_init 214 = .ok (.putfield 90, 3) := by decide +kernel
theorem dX4_init_217 : decode cX4_init 217 = .ok (.aload_n 0, 1) := by decide +kernel
theorem dX4_init_218 : decode cX4_init 218 = .ok (.sipush 625, 3) := by decide +kernel
theorem dX4_init_221 : decode cX4_init 221 = .ok (.newarray .boolean, 2) := by decide +kernel
theorem dX4_init_223 : decode cX4_init 223 = .ok (.putfield 94, 3) := by decide +kernel
theorem dX4_init_226 : decode cX4_init 226 = .ok (.aload_n 0, 1) := by decide +kernel
theorem dX4_init_227 : decode cX4_init 227 = .ok (.iconst 1, 1) := by decide +kernel
theorem dX4_init_228 : decode cX4_init 228 = .ok (.putfield 90, 3) := by decide +kernel
theorem dX4_init_231 : decode cX4_init 231 = .ok (.return_, 1) := by decide +kernel
theorem dX4_thrown_0 : decode cX4_thrown 0 = .ok (.aload_n 0, 1) := by decide +kernel
theorem dX4_thrown_1 : decode cX4_thrown 1 = .ok (.getfield 97, 3) := by decide +kernel
theorem dX4_thrown_4 : decode cX4_thrown 4 = .ok (.ireturn, 1) := by decide +kernel
theorem dX4_holds_0 : decode cX4_holds 0 = .ok (.aload_n 0, 1) := by decide +kernel
theorem dX4_holds_1 : decode cX4_holds 1 = .ok (.iload_n 1, 1) := by decide +kernel
theorem dX4_holds_2 : decode cX4_holds 2 = .ok (.putfield 97, 3) := by decide +kernel
theorem dX4_holds_5 : decode cX4_holds 5 = .ok (.iload_n 1, 1) := by decide +kernel
theorem dX4_holds_6 : decode cX4_holds 6 = .ok (.ifCond .ne 7, 3) := by decide +kernel
theorem dX4_holds_9 : decode cX4_holds 9 = .ok (.iconst 1, 1) := by decide +kernel
theorem dX4_holds_10 : decode cX4_holds 10 = .ok (.goto 4, 3) := by decide +kernel
theorem dX4_holds_13 : decode cX4_holds 13 = .ok (.iconst 0, 1) := by decide +kernel
theorem dX4_holds_14 : decode cX4_holds 14 = .ok (.ireturn, 1) := by decide +kernel
theorem dX4_isIn_0 : decode cX4_isIn 0 = .ok (.iload_n 0, 1) := by decide +kernel
theorem dX4_isIn_1 : decode cX4_isIn 1 = .ok (.iload_n 1, 1) := by decide +kernel
theorem dX4_isIn_2 : decode cX4_isIn 2 = .ok (.if_icmp .lt 12, 3) := by decide +kernel
theorem dX4_isIn_5 : decode cX4_isIn 5 = .ok (.iload_n 0, 1) := by decide +kernel
theorem dX4_isIn_6 : decode cX4_isIn 6 = .ok (.iload_n 2, 1) := by decide +kernel
theorem dX4_isIn_7 : decode cX4_isIn 7 = .ok (.if_icmp .gt 7, 3) := by decide +kernel
theorem dX4_isIn_10 : decode cX4_isIn 10 = .ok (.iconst 1, 1) := by decide +kernel
theorem dX4_isIn_11 : decode cX4_isIn 11 = .ok (.goto 4, 3) := by decide +kernel
theorem dX4_isIn_14 : decode cX4_isIn 14 = .ok (.iconst 0, 1) := by decide +kernel
theorem dX4_isIn_15 : decode cX4_isIn 15 = .ok (.ireturn, 1) := by decide +kernel
theorem dX4_isBeast_0 : decode cX4_isBeast 0 = .ok (.iload_n 1, 1) := by decide +kernel
theorem dX4_isBeast_1 : decode cX4_isBeast 1 = .ok (.iconst 0, 1) := by decide +kernel
theorem dX4_isBeast_2 : decode cX4_isBeast 2 = .ok (.aload_n 0, 1) := by decide +kernel
theorem dX4_isBeast_3 : decode cX4_isBeast 3 = .ok (.getfield 100, 3) := by decide +kernel
theorem dX4_isBeast_6 : decode cX4_isBeast 6 = .ok (.iconst 1, 1) := by decide +kernel
theorem dX4_isBeast_7 : decode cX4_isBeast 7 = .ok (.isub, 1) := by decide +kernel
theorem dX4_isBeast_8 : decode cX4_isBeast 8 = .ok (.invokestatic 103, 3) := by decide +kernel
theorem dX4_isBeast_11 : decode cX4_isBeast 11 = .ok (.ireturn, 1) := by decide +kernel
theorem dX4_isRider_0 : decode cX4_isRider 0 = .ok (.iload_n 1, 1) := by decide +kernel
theorem dX4_isRider_1 : decode cX4_isRider 1 = .ok (.iconst 0, 1) := by decide +kernel
theorem dX4_isRider_2 : decode cX4_isRider 2 = .ok (.aload_n 0, 1) := by decide +kernel
theorem dX4_isRider_3 : decode cX4_isRider 3 = .ok (.getfield 107, 3) := by decide +kernel
theorem dX4_isRider_6 : decode cX4_isRider 6 = .ok (.iconst 1, 1) := by decide +kernel
theorem dX4_isRider_7 : decode cX4_isRider 7 = .ok (.isub, 1) := by decide +kernel
theorem dX4_isRider_8 : decode cX4_isRider 8 = .ok (.invokestatic 103, 3) := by decide +kernel
theorem dX4_isRider_11 : decode cX4_isRider 11 = .ok (.ireturn, 1) := by decide +kernel
theorem dX4_isRodeo_0 : decode cX4_isRodeo 0 = .ok (.iload_n 1, 1) := by decide +kernel
theorem dX4_isRodeo_1 : decode cX4_isRodeo 1 = .ok (.iconst 0, 1) := by decide +kernel
theorem dX4_isRodeo_2 : decode cX4_isRodeo 2 = .ok (.aload_n 0, 1) := by decide +kernel
theorem dX4_isRodeo_3 : decode cX4_isRodeo 3 = .ok (.getfield 110, 3) := by decide +kernel
theorem dX4_isRodeo_6 : decode cX4_isRodeo 6 = .ok (.iconst 1, 1) := by decide +kernel
theorem dX4_isRodeo_7 : decode cX4_isRodeo 7 = .ok (.isub, 1) := by decide +kernel
theorem dX4_isRodeo_8 : decode cX4_isRodeo 8 = .ok (.invokestatic 103, 3) := by decide +kernel
theorem dX4_isRodeo_11 : decode cX4_isRodeo 11 = .ok (.ireturn, 1) := by decide +kernel
theorem dX4_at_0 : decode cX4_at 0 = .ok (.bipush 12, 2) := by decide +kernel
theorem dX4_at_2 : decode cX4_at 2 = .ok (.iload_n 0, 1) := by decide +kernel
theorem dX4_at_3 : decode cX4_at 3 = .ok (.imul, 1) := by decide +kernel
theorem dX4_at_4 : decode cX4_at 4 = .ok (.iload_n 1, 1) := by decide +kernel
theorem dX4_at_5 : decode cX4_at 5 = .ok (.iadd, 1) := by decide +kernel
theorem dX4_at_6 : decode cX4_at 6 = .ok (.ireturn, 1) := by decide +kernel
theorem dX4_apart_0 : decode cX4_apart 0 = .ok (.iload_n 0, 1) := by decide +kernel
theorem dX4_apart_1 : decode cX4_apart 1 = .ok (.iload_n 1, 1) := by decide +kernel
theorem dX4_apart_2 : decode cX4_apart 2 = .ok (.if_icmp .ge 9, 3) := by decide +kernel
theorem dX4_apart_5 : decode cX4_apart 5 = .ok (.iload_n 1, 1) := by decide +kernel
theorem dX4_apart_6 : decode cX4_apart 6 = .ok (.iload_n 0, 1) := by decide +kernel
theorem dX4_apart_7 : decode cX4_apart 7 = .ok (.isub, 1) := by decide +kernel
theorem dX4_apart_8 : decode cX4_apart 8 = .ok (.goto 6, 3) := by decide +kernel
theorem dX4_apart_11 : decode cX4_apart 11 = .ok (.iload_n 0, 1) := by decide +kernel
theorem dX4_apart_12 : decode cX4_apart 12 = .ok (.iload_n 1, 1) := by decide +kernel
theorem dX4_apart_13 : decode cX4_apart 13 = .ok (.isub, 1) := by decide +kernel
theorem dX4_apart_14 : decode cX4_apart 14 = .ok (.ireturn, 1) := by decide +kernel
theorem dX4_beast_0 : decode cX4_beast 0 = .ok (.aload_n 0, 1) := by decide +kernel
theorem dX4_beast_1 : decode cX4_beast 1 = .ok (.iload_n 1, 1) := by decide +kernel
theorem dX4_beast_2 : decode cX4_beast 2 = .ok (.iconst 0, 1) := by decide +kernel
theorem dX4_beast_3 : decode cX4_beast 3 = .ok (.iconst 1, 1) := by decide +kernel
theorem dX4_beast_4 : decode cX4_beast 4 = .ok (.invokestatic 103, 3) := by decide +kernel
theorem dX4_beast_7 : decode cX4_beast 7 = .ok (.ifCond .ne 7, 3) := by decide +kernel
theorem dX4_beast_10 : decode cX4_beast 10 = .ok (.iconst 1, 1) := by decide +kernel
theorem dX4_beast_11 : decode cX4_beast 11 = .ok (.goto 17, 3) := by decide +kernel
theorem dX4_beast_14 : decode cX4_beast 14 = .ok (.aload_n 0, 1) := by decide +kernel
theorem dX4_beast_15 : decode cX4_beast 15 = .ok (.getfield 100, 3) := by decide +kernel
theorem dX4_beast_18 : decode cX4_beast 18 = .ok (.bipush 16, 2) := by decide +kernel
theorem dX4_beast_20 : decode cX4_beast 20 = .ok (.if_icmp .ne 7, 3) := by decide +kernel
theorem dX4_beast_23 : decode cX4_beast 23 = .ok (.iconst 2, 1) := by decide +kernel
theorem dX4_beast_24 : decode cX4_beast 24 = .ok (.goto 4, 3) := by decide +kernel
theorem dX4_beast_27 : decode cX4_beast 27 = .ok (.iconst 0, 1) := by decide +kernel
theorem dX4_beast_28 : decode cX4_beast 28 = .ok (.invokevirtual 113, 3) := by decide +kernel
theorem dX4_beast_31 : decode cX4_beast 31 = .ok (.ifCond .ne 5, 3) := by decide +kernel
theorem dX4_beast_34 : decode cX4_beast 34 = .ok (.iconst 0, 1) := by decide +kernel
theorem dX4_beast_35 : decode cX4_beast 35 = .ok (.ireturn, 1) := by decide +kernel
theorem dX4_beast_36 : decode cX4_beast 36 = .ok (.aload_n 0, 1) := by decide +kernel
theorem dX4_beast_37 : decode cX4_beast 37 = .ok (.getfield 7, 3) := by decide +kernel
theorem dX4_beast_40 : decode cX4_beast 40 = .ok (.aload_n 0, 1) := by decide +kernel
theorem dX4_beast_41 : decode cX4_beast 41 = .ok (.getfield 100, 3) := by decide +kernel
theorem dX4_beast_44 : decode cX4_beast 44 = .ok (.iload_n 1, 1) := by decide +kernel
theorem dX4_beast_45 : decode cX4_beast 45 = .ok (.iastore, 1) := by decide +kernel
theorem dX4_beast_46 : decode cX4_beast 46 = .ok (.aload_n 0, 1) := by decide +kernel
theorem dX4_beast_47 : decode cX4_beast 47 = .ok (.dup, 1) := by decide +kernel
theorem dX4_beast_48 : decode cX4_beast 48 = .ok (.getfield 100, 3) := by decide +kernel
theorem dX4_beast_51 : decode cX4_beast 51 = .ok (.iconst 1, 1) := by decide +kernel
theorem dX4_beast_52 : decode cX4_beast 52 = .ok (.iadd, 1) := by decide +kernel
theorem dX4_beast_53 : decode cX4_beast 53 = .ok (.putfield 100, 3) := by decide +kernel
theorem dX4_beast_56 : decode cX4_beast 56 = .ok (.aload_n 0, 1) := by decide +kernel
theorem dX4_beast_57 : decode cX4_beast 57 = .ok (.getfield 100, 3) := by decide +kernel
theorem dX4_beast_60 : decode cX4_beast 60 = .ok (.iconst 1, 1) := by decide +kernel
theorem dX4_beast_61 : decode cX4_beast 61 = .ok (.isub, 1) := by decide +kernel
theorem dX4_beast_62 : decode cX4_beast 62 = .ok (.ireturn, 1) := by decide +kernel
theorem dX4_rider_0 : decode cX4_rider 0 = .ok (.aload_n 0, 1) := by decide +kernel
theorem dX4_rider_1 : decode cX4_rider 1 = .ok (.aload_n 0, 1) := by decide +kernel
theorem dX4_rider_2 : decode cX4_rider 2 = .ok (.getfield 107, 3) := by decide +kernel
theorem dX4_rider_5 : decode cX4_rider 5 = .ok (.bipush 12, 2) := by decide +kernel
theorem dX4_rider_7 : decode cX4_rider 7 = .ok (.if_icmp .ne 7, 3) := by decide +kernel
theorem dX4_rider_10 : decode cX4_rider 10 = .ok (.iconst 1, 1) := by decide +kernel
theorem dX4_rider_11 : decode cX4_rider 11 = .ok (.goto 4, 3) := by decide +kernel
theorem dX4_rider_14 : decode cX4_rider 14 = .ok (.iconst 0, 1) := by decide +kernel
theorem dX4_rider_15 : decode cX4_rider 15 = .ok (.invokevirtual 113, 3) := by decide +kernel
theorem dX4_rider_18 : decode cX4_rider 18 = .ok (.ifCond .ne 5, 3) := by decide +kernel
theorem dX4_rider_21 : decode cX4_rider 21 = .ok (.iconst 0, 1) := by decide +kernel
theorem dX4_rider_22 : decode cX4_rider 22 = .ok (.ireturn, 1) := by decide +kernel
theorem dX4_rider_23 : decode cX4_rider 23 = .ok (.aload_n 0, 1) := by decide +kernel
theorem dX4_rider_24 : decode cX4_rider 24 = .ok (.dup, 1) := by decide +kernel
theorem dX4_rider_25 : decode cX4_rider 25 = .ok (.getfield 107, 3) := by decide +kernel
theorem dX4_rider_28 : decode cX4_rider 28 = .ok (.iconst 1, 1) := by decide +kernel
theorem dX4_rider_29 : decode cX4_rider 29 = .ok (.iadd, 1) := by decide +kernel
theorem dX4_rider_30 : decode cX4_rider 30 = .ok (.putfield 107, 3) := by decide +kernel
theorem dX4_rider_33 : decode cX4_rider 33 = .ok (.aload_n 0, 1) := by decide +kernel
theorem dX4_rider_34 : decode cX4_rider 34 = .ok (.getfield 107, 3) := by decide +kernel
theorem dX4_rider_37 : decode cX4_rider 37 = .ok (.iconst 1, 1) := by decide +kernel
theorem dX4_rider_38 : decode cX4_rider 38 = .ok (.isub, 1) := by decide +kernel
theorem dX4_rider_39 : decode cX4_rider 39 = .ok (.ireturn, 1) := by decide +kernel
theorem dX4_rodeo_0 : decode cX4_rodeo 0 = .ok (.iload_n 1, 1) := by decide +kernel
theorem dX4_rodeo_1 : decode cX4_rodeo 1 = .ok (.iconst 0, 1) := by decide +kernel
theorem dX4_rodeo_2 : decode cX4_rodeo 2 = .ok (.iconst 1, 1) := by decide +kernel
theorem dX4_rodeo_3 : decode cX4_rodeo 3 = .ok (.invokestatic 103, 3) := by decide +kernel
theorem dX4_rodeo_6 : decode cX4_rodeo 6 = .ok (.ifCond .eq 38, 3) := by decide +kernel
theorem dX4_rodeo_9 : decode cX4_rodeo 9 = .ok (.iload_n 2, 1) := by decide +kernel
theorem dX4_rodeo_10 : decode cX4_rodeo 10 = .ok (.iconst 0, 1) := by decide +kernel
theorem dX4_rodeo_11 : decode cX4_rodeo 11 = .ok (.sipush 2000, 3) := by decide +kernel
theorem dX4_rodeo_14 : decode cX4_rodeo 14 = .ok (.invokestatic 103, 3) := by decide +kernel
theorem dX4_rodeo_17 : decode cX4_rodeo 17 = .ok (.ifCond .eq 27, 3) := by decide +kernel
theorem dX4_rodeo_20 : decode cX4_rodeo 20 = .ok (.iload_n 3, 1) := by decide +kernel
theorem dX4_rodeo_21 : decode cX4_rodeo 21 = .ok (.iconst 0, 1) := by decide +kernel
theorem dX4_rodeo_22 : decode cX4_rodeo 22 = .ok (.bipush 60, 2) := by decide +kernel
theorem dX4_rodeo_24 : decode cX4_rodeo 24 = .ok (.invokestatic 103, 3) := by decide +kernel
theorem dX4_rodeo_27 : decode cX4_rodeo 27 = .ok (.ifCond .eq 17, 3) := by decide +kernel
theorem dX4_rodeo_30 : decode cX4_rodeo 30 = .ok (.iload 4, 2) := by decide +kernel
theorem dX4_rodeo_32 : decode cX4_rodeo 32 = .ok (.iconst 1, 1) := by decide +kernel
theorem dX4_rodeo_33 : decode cX4_rodeo 33 = .ok (.iconst 4, 1) := by decide +kernel
theorem dX4_rodeo_34 : decode cX4_rodeo 34 = .ok (.invokestatic 103, 3) := by decide +kernel
theorem dX4_rodeo_37 : decode cX4_rodeo 37 = .ok (.ifCond .eq 7, 3) := by decide +kernel
theorem dX4_rodeo_40 : decode cX4_rodeo 40 = .ok (.iconst 1, 1) := by decide +kernel
theorem dX4_rodeo_41 : decode cX4_rodeo 41 = .ok (.goto 4, 3) := by decide +kernel
theorem dX4_rodeo_44 : decode cX4_rodeo 44 = .ok (.iconst 0, 1) := by decide +kernel
theorem dX4_rodeo_45 : decode cX4_rodeo 45 = .ok (.istore 8, 2) := by decide +kernel
theorem dX4_rodeo_47 : decode cX4_rodeo 47 = .ok (.iload 5, 2) := by decide +kernel
theorem dX4_rodeo_49 : decode cX4_rodeo 49 = .ok (.iconst 1, 1) := by decide +kernel
theorem dX4_rodeo_50 : decode cX4_rodeo 50 = .ok (.iconst 4, 1) := by decide +kernel
theorem dX4_rodeo_51 : decode cX4_rodeo 51 = .ok (.invokestatic 103, 3) := by decide +kernel
theorem dX4_rodeo_54 : decode cX4_rodeo 54 = .ok (.ifCond .eq 30, 3) := by decide +kernel
theorem dX4_rodeo_57 : decode cX4_rodeo 57 = .ok (.iload 6, 2) := by decide +kernel
theorem dX4_rodeo_59 : decode cX4_rodeo 59 = .ok (.iconst 0, 1) := by decide +kernel
theorem dX4_rodeo_60 : decode cX4_rodeo 60 = .ok (.ldc 117, 2) := by decide +kernel
theorem dX4_rodeo_62 : decode cX4_rodeo 62 = .ok (.invokestatic 103, 3) := by decide +kernel
theorem dX4_rodeo_65 : decode cX4_rodeo 65 = .ok (.ifCond .eq 19, 3) := by decide +kernel
theorem dX4_rodeo_68 : decode cX4_rodeo 68 = .ok (.iload 7, 2) := by decide +kernel
theorem dX4_rodeo_70 : decode cX4_rodeo 70 = .ok (.iconst 0, 1) := by decide +kernel
theorem dX4_rodeo_71 : decode cX4_rodeo 71 = .ok (.sipush 999, 3) := by decide +kernel
theorem dX4_rodeo_74 : decode cX4_rodeo 74 = .ok (.invokestatic 103, 3) := by decide +kernel
theorem dX4_rodeo_77 : decode cX4_rodeo 77 = .ok (.ifCond .eq 7, 3) := by decide +kernel
theorem dX4_rodeo_80 : decode cX4_rodeo 80 = .ok (.iconst 1, 1) := by decide +kernel
theorem dX4_rodeo_81 : decode cX4_rodeo 81 = .ok (.goto 4, 3) := by decide +kernel
theorem dX4_rodeo_84 : decode cX4_rodeo 84 = .ok (.iconst 0, 1) := by decide +kernel
theorem dX4_rodeo_85 : decode cX4_rodeo 85 = .ok (.istore 9, 2) := by decide +kernel
theorem dX4_rodeo_87 : decode cX4_rodeo 87 = .ok (.aload_n 0, 1) := by decide +kernel
theorem dX4_rodeo_88 : decode cX4_rodeo 88 = .ok (.iload 8, 2) := by decide +kernel
theorem dX4_rodeo_90 : decode cX4_rodeo 90 = .ok (.ifCond .eq 8, 3) := by decide +kernel
theorem dX4_rodeo_93 : decode cX4_rodeo 93 = .ok (.iload 9, 2) := by decide +kernel
theorem dX4_rodeo_95 : decode cX4_rodeo 95 = .ok (.ifCond .ne 7, 3) := by decide +kernel
theorem dX4_rodeo_98 : decode cX4_rodeo 98 = .ok (.iconst 1, 1) := by decide +kernel
theorem dX4_rodeo_99 : decode cX4_rodeo 99 = .ok (.goto 17, 3) := by decide +kernel
theorem dX4_rodeo_102 : decode cX4_rodeo 102 = .ok (.aload_n 0, 1) := by decide +kernel
theorem dX4_rodeo_103 : decode cX4_rodeo 103 = .ok (.getfield 110, 3) := by decide +kernel
theorem dX4_rodeo_106 : decode cX4_rodeo 106 = .ok (.bipush 8, 2) := by decide +kernel
theorem dX4_rodeo_108 : decode cX4_rodeo 108 = .ok (.if_icmp .ne 7, 3) := by decide +kernel
theorem dX4_rodeo_111 : decode cX4_rodeo 111 = .ok (.iconst 2, 1) := by decide +kernel
theorem dX4_rodeo_112 : decode cX4_rodeo 112 = .ok (.goto 4, 3) := by decide +kernel
theorem dX4_rodeo_115 : decode cX4_rodeo 115 = .ok (.iconst 0, 1) := by decide +kernel
theorem dX4_rodeo_116 : decode cX4_rodeo 116 = .ok (.invokevirtual 113, 3) := by decide +kernel
theorem dX4_rodeo_119 : decode cX4_rodeo 119 = .ok (.ifCond .ne 5, 3) := by decide +kernel
theorem dX4_rodeo_122 : decode cX4_rodeo 122 = .ok (.iconst 0, 1) := by decide +kernel
theorem dX4_rodeo_123 : decode cX4_rodeo 123 = .ok (.ireturn, 1) := by decide +kernel
theorem dX4_rodeo_124 : decode cX4_rodeo 124 = .ok (.aload_n 0, 1) := by decide +kernel
theorem dX4_rodeo_125 : decode cX4_rodeo 125 = .ok (.getfield 110, 3) := by decide +kernel
theorem dX4_rodeo_128 : decode cX4_rodeo 128 = .ok (.istore 10, 2) := by decide +kernel
theorem dX4_rodeo_130 : decode cX4_rodeo 130 = .ok (.aload_n 0, 1) := by decide +kernel
theorem dX4_rodeo_131 : decode cX4_rodeo 131 = .ok (.getfield 26, 3) := by decide +kernel
theorem dX4_rodeo_134 : decode cX4_rodeo 134 = .ok (.iload 10, 2) := by decide +kernel
theorem dX4_rodeo_136 : decode cX4_rodeo 136 = .ok (.iload_n 1, 1) := by decide +kernel
theorem dX4_rodeo_137 : decode cX4_rodeo 137 = .ok (.iastore, 1) := by decide +kernel
theorem dX4_rodeo_138 : decode cX4_rodeo 138 = .ok (.aload_n 0, 1) := by decide +kernel
theorem dX4_rodeo_139 : decode cX4_rodeo 139 = .ok (.getfield 29, 3) := by decide +kernel
theorem dX4_rodeo_142 : decode cX4_rodeo 142 = .ok (.iload 10, 2) := by decide +kernel
theorem dX4_rodeo_144 : decode cX4_rodeo 144 = .ok (.iload_n 2, 1) := by decide +kernel
theorem dX4_rodeo_145 : decode cX4_rodeo 145 = .ok (.iastore, 1) := by decide +kernel
theorem dX4_rodeo_146 : decode cX4_rodeo 146 = .ok (.aload_n 0, 1) := by decide +kernel
theorem dX4_rodeo_147 : decode cX4_rodeo 147 = .ok (.getfield 32, 3) := by decide +kernel
theorem dX4_rodeo_150 : decode cX4_rodeo 150 = .ok (.iload 10, 2) := by decide +kernel
theorem dX4_rodeo_152 : decode cX4_rodeo 152 = .ok (.iload_n 3, 1) := by decide +kernel
theorem dX4_rodeo_153 : decode cX4_rodeo 153 = .ok (.iastore, 1) := by decide +kernel
theorem dX4_rodeo_154 : decode cX4_rodeo 154 = .ok (.aload_n 0, 1) := by decide +kernel
theorem dX4_rodeo_155 : decode cX4_rodeo 155 = .ok (.getfield 35, 3) := by decide +kernel
theorem dX4_rodeo_158 : decode cX4_rodeo 158 = .ok (.iload 10, 2) := by decide +kernel
theorem dX4_rodeo_160 : decode cX4_rodeo 160 = .ok (.iload 4, 2) := by decide +kernel
theorem dX4_rodeo_162 : decode cX4_rodeo 162 = .ok (.iastore, 1) := by decide +kernel
theorem dX4_rodeo_163 : decode cX4_rodeo 163 = .ok (.aload_n 0, 1) := by decide +kernel
theorem dX4_rodeo_164 : decode cX4_rodeo 164 = .ok (.getfield 38, 3) := by decide +kernel
theorem dX4_rodeo_167 : decode cX4_rodeo 167 = .ok (.iload 10, 2) := by decide +kernel
theorem dX4_rodeo_169 : decode cX4_rodeo 169 = .ok (.iload 5, 2) := by decide +kernel
theorem dX4_rodeo_171 : decode cX4_rodeo 171 = .ok (.iastore, 1) := by decide +kernel
theorem dX4_rodeo_172 : decode cX4_rodeo 172 = .ok (.aload_n 0, 1) := by decide +kernel
theorem dX4_rodeo_173 : decode cX4_rodeo 173 = .ok (.getfield 41, 3) := by decide +kernel
theorem dX4_rodeo_176 : decode cX4_rodeo 176 = .ok (.iload 10, 2) := by decide +kernel
theorem dX4_rodeo_178 : decode cX4_rodeo 178 = .ok (.iload 6, 2) := by decide +kernel
theorem dX4_rodeo_180 : decode cX4_rodeo 180 = .ok (.iastore, 1) := by decide +kernel
theorem dX4_rodeo_181 : decode cX4_rodeo 181 = .ok (.aload_n 0, 1) := by decide +kernel
theorem dX4_rodeo_182 : decode cX4_rodeo 182 = .ok (.getfield 44, 3) := by decide +kernel
theorem dX4_rodeo_185 : decode cX4_rodeo 185 = .ok (.iload 10, 2) := by decide +kernel
theorem dX4_rodeo_187 : decode cX4_rodeo 187 = .ok (.iload 7, 2) := by decide +kernel
theorem dX4_rodeo_189 : decode cX4_rodeo 189 = .ok (.iastore, 1) := by decide +kernel
theorem dX4_rodeo_190 : decode cX4_rodeo 190 = .ok (.iload 10, 2) := by decide +kernel
theorem dX4_rodeo_192 : decode cX4_rodeo 192 = .ok (.iconst 0, 1) := by decide +kernel
theorem dX4_rodeo_193 : decode cX4_rodeo 193 = .ok (.invokestatic 118, 3) := by decide +kernel
theorem dX4_rodeo_196 : decode cX4_rodeo 196 = .ok (.istore 11, 2) := by decide +kernel
theorem dX4_rodeo_198 : decode cX4_rodeo 198 = .ok (.iload 11, 2) := by decide +kernel
theorem dX4_rodeo_200 : decode cX4_rodeo 200 = .ok (.iload 10, 2) := by decide +kernel
theorem dX4_rodeo_202 : decode cX4_rodeo 202 = .ok (.iconst 1, 1) := by decide +kernel
theorem dX4_rodeo_203 : decode cX4_rodeo 203 = .ok (.iadd, 1) := by decide +kernel
theorem dX4_rodeo_204 : decode cX4_rodeo 204 = .ok (.iconst 0, 1) := by decide +kernel
theorem dX4_rodeo_205 : decode cX4_rodeo 205 = .ok (.invokestatic 118, 3) := by decide +kernel
theorem dX4_rodeo_208 : decode cX4_rodeo 208 = .ok (.if_icmp .ge 33, 3) := by decide +kernel
theorem dX4_rodeo_211 : decode cX4_rodeo 211 = .ok (.aload_n 0, 1) := by decide +kernel
theorem dX4_rodeo_212 : decode cX4_rodeo 212 = .ok (.getfield 65, 3) := by decide +kernel
theorem dX4_rodeo_215 : decode cX4_rodeo 215 = .ok (.iload 11, 2) := by decide +kernel
theorem dX4_rodeo_217 : decode cX4_rodeo 217 = .ok (.iconst (-1), 1) := by decide +kernel
theorem dX4_rodeo_218 : decode cX4_rodeo 218 = .ok (.iastore, 1) := by decide +kernel
theorem dX4_rodeo_219 : decode cX4_rodeo 219 = .ok (.aload_n 0, 1) := by decide +kernel
theorem dX4_rodeo_220 : decode cX4_rodeo 220 = .ok (.getfield 68, 3) := by decide +kernel
theorem dX4_rodeo_223 : decode cX4_rodeo 223 = .ok (.iload 11, 2) := by decide +kernel
theorem dX4_rodeo_225 : decode cX4_rodeo 225 = .ok (.iconst (-1), 1) := by decide +kernel
theorem dX4_rodeo_226 : decode cX4_rodeo 226 = .ok (.iastore, 1) := by decide +kernel
theorem dX4_rodeo_227 : decode cX4_rodeo 227 = .ok (.aload_n 0, 1) := by decide +kernel
theorem dX4_rodeo_228 : decode cX4_rodeo 228 = .ok (.getfield 84, 3) := by decide +kernel
theorem dX4_rodeo_231 : decode cX4_rodeo 231 = .ok (.iload 11, 2) := by decide +kernel
theorem dX4_rodeo_233 : decode cX4_rodeo 233 = .ok (.iconst (-1), 1) := by decide +kernel
theorem dX4_rodeo_234 : decode cX4_rodeo 234 = .ok (.iastore, 1) := by decide +kernel
theorem dX4_rodeo_235 : decode cX4_rodeo 235 = .ok (.iinc 11 1, 3) := by decide +kernel
theorem dX4_rodeo_238 : decode cX4_rodeo 238 = .ok (.goto (-40), 3) := by decide +kernel
theorem dX4_rodeo_241 : decode cX4_rodeo 241 = .ok (.aload_n 0, 1) := by decide +kernel
theorem dX4_rodeo_242 : decode cX4_rodeo 242 = .ok (.dup, 1) := by decide +kernel
theorem dX4_rodeo_243 : decode cX4_rodeo 243 = .ok (.getfield 110, 3) := by decide +kernel
theorem dX4_rodeo_246 : decode cX4_rodeo 246 = .ok (.iconst 1, 1) := by decide +kernel
theorem dX4_rodeo_247 : decode cX4_rodeo 247 = .ok (.iadd, 1) := by decide +kernel
theorem dX4_rodeo_248 : decode cX4_rodeo 248 = .ok (.putfield 110, 3) := by decide +kernel
theorem dX4_rodeo_251 : decode cX4_rodeo 251 = .ok (.iload 10, 2) := by decide +kernel
theorem dX4_rodeo_253 : decode cX4_rodeo 253 = .ok (.ireturn, 1) := by decide +kernel
theorem dX4_placedIn_0 : decode cX4_placedIn 0 = .ok (.iconst 0, 1) := by decide +kernel
theorem dX4_placedIn_1 : decode cX4_placedIn 1 = .ok (.istore_n 2, 1) := by decide +kernel
theorem dX4_placedIn_2 : decode cX4_placedIn 2 = .ok (.iload_n 1, 1) := by decide +kernel
theorem dX4_placedIn_3 : decode cX4_placedIn 3 = .ok (.iconst 0, 1) := by decide +kernel
theorem dX4_placedIn_4 : decode cX4_placedIn 4 = .ok (.invokestatic 118, 3) := by decide +kernel
theorem dX4_placedIn_7 : decode cX4_placedIn 7 = .ok (.istore_n 3, 1) := by decide +kernel
theorem dX4_placedIn_8 : decode cX4_placedIn 8 = .ok (.iload_n 3, 1) := by decide +kernel
theorem dX4_placedIn_9 : decode cX4_placedIn 9 = .ok (.iload_n 1, 1) := by decide +kernel
theorem dX4_placedIn_10 : decode cX4_placedIn 10 = .ok (.iconst 1, 1) := by decide +kernel
theorem dX4_placedIn_11 : decode cX4_placedIn 11 = .ok (.iadd, 1) := by decide +kernel
theorem dX4_placedIn_12 : decode cX4_placedIn 12 = .ok (.iconst 0, 1) := by decide +kernel
theorem dX4_placedIn_13 : decode cX4_placedIn 13 = .ok (.invokestatic 118, 3) := by decide +kernel
theorem dX4_placedIn_16 : decode cX4_placedIn 16 = .ok (.if_icmp .ge 27, 3) := by decide +kernel
theorem dX4_placedIn_19 : decode cX4_placedIn 19 = .ok (.iload_n 2, 1) := by decide +kernel
theorem dX4_placedIn_20 : decode cX4_placedIn 20 = .ok (.aload_n 0, 1) := by decide +kernel
theorem dX4_placedIn_21 : decode cX4_placedIn 21 = .ok (.getfield 65, 3) := by decide +kernel
theorem dX4_placedIn_24 : decode cX4_placedIn 24 = .ok (.iload_n 3, 1) := by decide +kernel
theorem dX4_placedIn_25 : decode cX4_placedIn 25 = .ok (.iaload, 1) := by decide +kernel
theorem dX4_placedIn_26 : decode cX4_placedIn 26 = .ok (.iconst (-1), 1) := by decide +kernel
theorem dX4_placedIn_27 : decode cX4_placedIn 27 = .ok (.if_icmp .ne 7, 3) := by decide +kernel
theorem dX4_placedIn_30 : decode cX4_placedIn 30 = .ok (.iconst 0, 1) := by decide +kernel
theorem dX4_placedIn_31 : decode cX4_placedIn 31 = .ok (.goto 4, 3) := by decide +kernel
theorem dX4_placedIn_34 : decode cX4_placedIn 34 = .ok (.iconst 1, 1) := by decide +kernel
theorem dX4_placedIn_35 : decode cX4_placedIn 35 = .ok (.iadd, 1) := by decide +kernel
theorem dX4_placedIn_36 : decode cX4_placedIn 36 = .ok (.istore_n 2, 1) := by decide +kernel
theorem dX4_placedIn_37 : decode cX4_placedIn 37 = .ok (.iinc 3 1, 3) := by decide +kernel
theorem dX4_placedIn_40 : decode cX4_placedIn 40 = .ok (.goto (-32), 3) := by decide +kernel
theorem dX4_placedIn_43 : decode cX4_placedIn 43 = .ok (.iload_n 2, 1) := by decide +kernel
theorem dX4_placedIn_44 : decode cX4_placedIn 44 = .ok (.ireturn, 1) := by decide +kernel
theorem dX4_pot_0 : decode cX4_pot 0 = .ok (.aload_n 0, 1) := by decide +kernel
theorem dX4_pot_1 : decode cX4_pot 1 = .ok (.getfield 47, 3) := by decide +kernel
theorem dX4_pot_4 : decode cX4_pot 4 = .ok (.iload_n 1, 1) := by decide +kernel
theorem dX4_pot_5 : decode cX4_pot 5 = .ok (.iaload, 1) := by decide +kernel
theorem dX4_pot_6 : decode cX4_pot 6 = .ok (.ifCond .ne 7, 3) := by decide +kernel
theorem dX4_pot_9 : decode cX4_pot 9 = .ok (.iconst 0, 1) := by decide +kernel
theorem dX4_pot_10 : decode cX4_pot 10 = .ok (.goto 22, 3) := by decide +kernel
theorem dX4_pot_13 : decode cX4_pot 13 = .ok (.aload_n 0, 1) := by decide +kernel
theorem dX4_pot_14 : decode cX4_pot 14 = .ok (.getfield 41, 3) := by decide +kernel
theorem dX4_pot_17 : decode cX4_pot 17 = .ok (.iload_n 1, 1) := by decide +kernel
theorem dX4_pot_18 : decode cX4_pot 18 = .ok (.iaload, 1) := by decide +kernel
theorem dX4_pot_19 : decode cX4_pot 19 = .ok (.aload_n 0, 1) := by decide +kernel
theorem dX4_pot_20 : decode cX4_pot 20 = .ok (.getfield 44, 3) := by decide +kernel
theorem dX4_pot_23 : decode cX4_pot 23 = .ok (.iload_n 1, 1) := by decide +kernel
theorem dX4_pot_24 : decode cX4_pot 24 = .ok (.iaload, 1) := by decide +kernel
theorem dX4_pot_25 : decode cX4_pot 25 = .ok (.aload_n 0, 1) := by decide +kernel
theorem dX4_pot_26 : decode cX4_pot 26 = .ok (.iload_n 1, 1) := by decide +kernel
theorem dX4_pot_27 : decode cX4_pot 27 = .ok (.invokevirtual 122, 3) := by decide +kernel
theorem dX4_pot_30 : decode cX4_pot 30 = .ok (.imul, 1) := by decide +kernel
theorem dX4_pot_31 : decode cX4_pot 31 = .ok (.iadd, 1) := by decide +kernel
theorem dX4_pot_32 : decode cX4_pot 32 = .ok (.ireturn, 1) := by decide +kernel
theorem dX4_tells_0 : decode cX4_tells 0 = .ok (.iload_n 2, 1) := by decide +kernel
theorem dX4_tells_1 : decode cX4_tells 1 = .ok (.tableswitch 57 0 3 #[31, 38, 45, 51], 31) := by decide +kernel
theorem dX4_tells_32 : decode cX4_tells 32 = .ok (.aload_n 0, 1) := by decide +kernel
theorem dX4_tells_33 : decode cX4_tells 33 = .ok (.getfield 47, 3) := by decide +kernel
theorem dX4_tells_36 : decode cX4_tells 36 = .ok (.iload_n 1, 1) := by decide +kernel
theorem dX4_tells_37 : decode cX4_tells 37 = .ok (.iaload, 1) := by decide +kernel
theorem dX4_tells_38 : decode cX4_tells 38 = .ok (.ireturn, 1) := by decide +kernel
theorem dX4_tells_39 : decode cX4_tells 39 = .ok (.aload_n 0, 1) := by decide +kernel
theorem dX4_tells_40 : decode cX4_tells 40 = .ok (.getfield 53, 3) := by decide +kernel
theorem dX4_tells_43 : decode cX4_tells 43 = .ok (.iload_n 1, 1) := by decide +kernel
theorem dX4_tells_44 : decode cX4_tells 44 = .ok (.iaload, 1) := by decide +kernel
theorem dX4_tells_45 : decode cX4_tells 45 = .ok (.ireturn, 1) := by decide +kernel
theorem dX4_tells_46 : decode cX4_tells 46 = .ok (.aload_n 0, 1) := by decide +kernel
theorem dX4_tells_47 : decode cX4_tells 47 = .ok (.iload_n 1, 1) := by decide +kernel
theorem dX4_tells_48 : decode cX4_tells 48 = .ok (.invokevirtual 122, 3) := by decide +kernel
theorem dX4_tells_51 : decode cX4_tells 51 = .ok (.ireturn, 1) := by decide +kernel
theorem dX4_tells_52 : decode cX4_tells 52 = .ok (.aload_n 0, 1) := by decide +kernel
theorem dX4_tells_53 : decode cX4_tells 53 = .ok (.iload_n 1, 1) := by decide +kernel
theorem dX4_tells_54 : decode cX4_tells 54 = .ok (.invokevirtual 126, 3) := by decide +kernel
theorem dX4_tells_57 : decode cX4_tells 57 = .ok (.ireturn, 1) := by decide +kernel
theorem dX4_tells_58 : decode cX4_tells 58 = .ok (.aload_n 0, 1) := by decide +kernel
theorem dX4_tells_59 : decode cX4_tells 59 = .ok (.getfield 50, 3) := by decide +kernel
theorem dX4_tells_62 : decode cX4_tells 62 = .ok (.iload_n 1, 1) := by decide +kernel
theorem dX4_tells_63 : decode cX4_tells 63 = .ok (.iaload, 1) := by decide +kernel
theorem dX4_tells_64 : decode cX4_tells 64 = .ok (.ireturn, 1) := by decide +kernel
theorem dX4_rodeoIs_0 : decode cX4_rodeoIs 0 = .ok (.aload_n 0, 1) := by decide +kernel
theorem dX4_rodeoIs_1 : decode cX4_rodeoIs 1 = .ok (.iload_n 1, 1) := by decide +kernel
theorem dX4_rodeoIs_2 : decode cX4_rodeoIs 2 = .ok (.invokevirtual 129, 3) := by decide +kernel
theorem dX4_rodeoIs_5 : decode cX4_rodeoIs 5 = .ok (.istore_n 3, 1) := by decide +kernel
theorem dX4_rodeoIs_6 : decode cX4_rodeoIs 6 = .ok (.aload_n 0, 1) := by decide +kernel
theorem dX4_rodeoIs_7 : decode cX4_rodeoIs 7 = .ok (.iload_n 3, 1) := by decide +kernel
theorem dX4_rodeoIs_8 : decode cX4_rodeoIs 8 = .ok (.ifCond .ne 7, 3) := by decide +kernel
theorem dX4_rodeoIs_11 : decode cX4_rodeoIs 11 = .ok (.iconst 1, 1) := by decide +kernel
theorem dX4_rodeoIs_12 : decode cX4_rodeoIs 12 = .ok (.goto 17, 3) := by decide +kernel
theorem dX4_rodeoIs_15 : decode cX4_rodeoIs 15 = .ok (.iload_n 2, 1) := by decide +kernel
theorem dX4_rodeoIs_16 : decode cX4_rodeoIs 16 = .ok (.iconst 0, 1) := by decide +kernel
theorem dX4_rodeoIs_17 : decode cX4_rodeoIs 17 = .ok (.iconst 4, 1) := by decide +kernel
theorem dX4_rodeoIs_18 : decode cX4_rodeoIs 18 = .ok (.invokestatic 103, 3) := by decide +kernel
theorem dX4_rodeoIs_21 : decode cX4_rodeoIs 21 = .ok (.ifCond .ne 7, 3) := by decide +kernel
theorem dX4_rodeoIs_24 : decode cX4_rodeoIs 24 = .ok (.iconst 2, 1) := by decide +kernel
theorem dX4_rodeoIs_25 : decode cX4_rodeoIs 25 = .ok (.goto 4, 3) := by decide +kernel
theorem dX4_rodeoIs_28 : decode cX4_rodeoIs 28 = .ok (.iconst 0, 1) := by decide +kernel
theorem dX4_rodeoIs_29 : decode cX4_rodeoIs 29 = .ok (.invokevirtual 113, 3) := by decide +kernel
theorem dX4_rodeoIs_32 : decode cX4_rodeoIs 32 = .ok (.ifCond .eq 12, 3) := by decide +kernel
theorem dX4_rodeoIs_35 : decode cX4_rodeoIs 35 = .ok (.aload_n 0, 1) := by decide +kernel
theorem dX4_rodeoIs_36 : decode cX4_rodeoIs 36 = .ok (.iload_n 1, 1) := by decide +kernel
theorem dX4_rodeoIs_37 : decode cX4_rodeoIs 37 = .ok (.iload_n 2, 1) := by decide +kernel
theorem dX4_rodeoIs_38 : decode cX4_rodeoIs 38 = .ok (.invokevirtual 132, 3) := by decide +kernel
theorem dX4_rodeoIs_41 : decode cX4_rodeoIs 41 = .ok (.goto 4, 3) := by decide +kernel
theorem dX4_rodeoIs_44 : decode cX4_rodeoIs 44 = .ok (.iconst 0, 1) := by decide +kernel
theorem dX4_rodeoIs_45 : decode cX4_rodeoIs 45 = .ok (.ireturn, 1) := by decide +kernel
theorem dX4_hasEntered_0 : decode cX4_hasEntered 0 = .ok (.iconst 0, 1) := by decide +kernel
theorem dX4_hasEntered_1 : decode cX4_hasEntered 1 = .ok (.istore_n 3, 1) := by decide +kernel
theorem dX4_hasEntered_2 : decode cX4_hasEntered 2 = .ok (.iconst 0, 1) := by decide +kernel
theorem dX4_hasEntered_3 : decode cX4_hasEntered 3 = .ok (.istore 4, 2) := by decide +kernel
theorem dX4_hasEntered_5 : decode cX4_hasEntered 5 = .ok (.iload 4, 2) := by decide +kernel
theorem dX4_hasEntered_7 : decode cX4_hasEntered 7 = .ok (.aload_n 0, 1) := by decide +kernel
theorem dX4_hasEntered_8 : decode cX4_hasEntered 8 = .ok (.getfield 53, 3) := by decide +kernel
theorem dX4_hasEntered_11 : decode cX4_hasEntered 11 = .ok (.iload_n 1, 1) := by decide +kernel
theorem dX4_hasEntered_12 : decode cX4_hasEntered 12 = .ok (.iaload, 1) := by decide +kernel
theorem dX4_hasEntered_13 : decode cX4_hasEntered 13 = .ok (.if_icmp .ge 34, 3) := by decide +kernel
theorem dX4_hasEntered_16 : decode cX4_hasEntered 16 = .ok (.iload_n 3, 1) := by decide +kernel
theorem dX4_hasEntered_17 : decode cX4_hasEntered 17 = .ok (.ifCond .ne 18, 3) := by decide +kernel
theorem dX4_hasEntered_20 : decode cX4_hasEntered 20 = .ok (.aload_n 0, 1) := by decide +kernel
theorem dX4_hasEntered_21 : decode cX4_hasEntered 21 = .ok (.getfield 56, 3) := by decide +kernel
theorem dX4_hasEntered_24 : decode cX4_hasEntered 24 = .ok (.iload_n 1, 1) := by decide +kernel
theorem dX4_hasEntered_25 : decode cX4_hasEntered 25 = .ok (.iload 4, 2) := by decide +kernel
theorem dX4_hasEntered_27 : decode cX4_hasEntered 27 = .ok (.invokestatic 118, 3) := by decide +kernel
theorem dX4_hasEntered_30 : decode cX4_hasEntered 30 = .ok (.iaload, 1) := by decide +kernel
theorem dX4_hasEntered_31 : decode cX4_hasEntered 31 = .ok (.iload_n 2, 1) := by decide +kernel
theorem dX4_hasEntered_32 : decode cX4_hasEntered 32 = .ok (.if_icmp .ne 7, 3) := by decide +kernel
theorem dX4_hasEntered_35 : decode cX4_hasEntered 35 = .ok (.iconst 1, 1) := by decide +kernel
theorem dX4_hasEntered_36 : decode cX4_hasEntered 36 = .ok (.goto 4, 3) := by decide +kernel
theorem dX4_hasEntered_39 : decode cX4_hasEntered 39 = .ok (.iconst 0, 1) := by decide +kernel
theorem dX4_hasEntered_40 : decode cX4_hasEntered 40 = .ok (.istore_n 3, 1) := by decide +kernel
theorem dX4_hasEntered_41 : decode cX4_hasEntered 41 = .ok (.iinc 4 1, 3) := by decide +kernel
theorem dX4_hasEntered_44 : decode cX4_hasEntered 44 = .ok (.goto (-39), 3) := by decide +kernel
theorem dX4_hasEntered_47 : decode cX4_hasEntered 47 = .ok (.iload_n 3, 1) := by decide +kernel
theorem dX4_hasEntered_48 : decode cX4_hasEntered 48 = .ok (.ireturn, 1) := by decide +kernel
theorem dX4_enter_0 : decode cX4_enter 0 = .ok (.aload_n 0, 1) := by decide +kernel
theorem dX4_enter_1 : decode cX4_enter 1 = .ok (.iload_n 1, 1) := by decide +kernel
theorem dX4_enter_2 : decode cX4_enter 2 = .ok (.invokevirtual 129, 3) := by decide +kernel
theorem dX4_enter_5 : decode cX4_enter 5 = .ok (.ifCond .eq 15, 3) := by decide +kernel
theorem dX4_enter_8 : decode cX4_enter 8 = .ok (.aload_n 0, 1) := by decide +kernel
theorem dX4_enter_9 : decode cX4_enter 9 = .ok (.iload_n 2, 1) := by decide +kernel
theorem dX4_enter_10 : decode cX4_enter 10 = .ok (.invokevirtual 135, 3) := by decide +kernel
theorem dX4_enter_13 : decode cX4_enter 13 = .ok (.ifCond .eq 7, 3) := by decide +kernel
theorem dX4_enter_16 : decode cX4_enter 16 = .ok (.iconst 1, 1) := by decide +kernel
theorem dX4_enter_17 : decode cX4_enter 17 = .ok (.goto 4, 3) := by decide +kernel
theorem dX4_enter_20 : decode cX4_enter 20 = .ok (.iconst 0, 1) := by decide +kernel
theorem dX4_enter_21 : decode cX4_enter 21 = .ok (.istore 5, 2) := by decide +kernel
theorem dX4_enter_23 : decode cX4_enter 23 = .ok (.iload 5, 2) := by decide +kernel
theorem dX4_enter_25 : decode cX4_enter 25 = .ok (.ifCond .eq 43, 3) := by decide +kernel
theorem dX4_enter_28 : decode cX4_enter 28 = .ok (.iload_n 3, 1) := by decide +kernel
theorem dX4_enter_29 : decode cX4_enter 29 = .ok (.ifCond .le 39, 3) := by decide +kernel
theorem dX4_enter_32 : decode cX4_enter 32 = .ok (.iload_n 3, 1) := by decide +kernel
theorem dX4_enter_33 : decode cX4_enter 33 = .ok (.iconst 1, 1) := by decide +kernel
theorem dX4_enter_34 : decode cX4_enter 34 = .ok (.aload_n 0, 1) := by decide +kernel
theorem dX4_enter_35 : decode cX4_enter 35 = .ok (.getfield 35, 3) := by decide +kernel
theorem dX4_enter_38 : decode cX4_enter 38 = .ok (.iload_n 1, 1) := by decide +kernel
theorem dX4_enter_39 : decode cX4_enter 39 = .ok (.iaload, 1) := by decide +kernel
theorem dX4_enter_40 : decode cX4_enter 40 = .ok (.ishl, 1) := by decide +kernel
theorem dX4_enter_41 : decode cX4_enter 41 = .ok (.if_icmp .ge 27, 3) := by decide +kernel
theorem dX4_enter_44 : decode cX4_enter 44 = .ok (.iload 4, 2) := by decide +kernel
theorem dX4_enter_46 : decode cX4_enter 46 = .ok (.iconst 0, 1) := by decide +kernel
theorem dX4_enter_47 : decode cX4_enter 47 = .ok (.iconst 3, 1) := by decide +kernel
theorem dX4_enter_48 : decode cX4_enter 48 = .ok (.invokestatic 103, 3) := by decide +kernel
theorem dX4_enter_51 : decode cX4_enter 51 = .ok (.ifCond .eq 17, 3) := by decide +kernel
theorem dX4_enter_54 : decode cX4_enter 54 = .ok (.iload_n 3, 1) := by decide +kernel
theorem dX4_enter_55 : decode cX4_enter 55 = .ok (.iload 4, 2) := by decide +kernel
theorem dX4_enter_57 : decode cX4_enter 57 = .ok (.ishr, 1) := by decide +kernel
theorem dX4_enter_58 : decode cX4_enter 58 = .ok (.iconst 1, 1) := by decide +kernel
theorem dX4_enter_59 : decode cX4_enter 59 = .ok (.iand, 1) := by decide +kernel
theorem dX4_enter_60 : decode cX4_enter 60 = .ok (.iconst 1, 1) := by decide +kernel
theorem dX4_enter_61 : decode cX4_enter 61 = .ok (.if_icmp .ne 7, 3) := by decide +kernel
theorem dX4_enter_64 : decode cX4_enter 64 = .ok (.iconst 1, 1) := by decide +kernel
theorem dX4_enter_65 : decode cX4_enter 65 = .ok (.goto 4, 3) := by decide +kernel
theorem dX4_enter_68 : decode cX4_enter 68 = .ok (.iconst 0, 1) := by decide +kernel
theorem dX4_enter_69 : decode cX4_enter 69 = .ok (.istore 6, 2) := by decide +kernel
theorem dX4_enter_71 : decode cX4_enter 71 = .ok (.aload_n 0, 1) := by decide +kernel
theorem dX4_enter_72 : decode cX4_enter 72 = .ok (.iload 5, 2) := by decide +kernel
theorem dX4_enter_74 : decode cX4_enter 74 = .ok (.ifCond .ne 7, 3) := by decide +kernel
theorem dX4_enter_77 : decode cX4_enter 77 = .ok (.iconst 1, 1) := by decide +kernel
theorem dX4_enter_78 : decode cX4_enter 78 = .ok (.goto 35, 3) := by decide +kernel
theorem dX4_enter_81 : decode cX4_enter 81 = .ok (.iload 6, 2) := by decide +kernel
theorem dX4_enter_83 : decode cX4_enter 83 = .ok (.ifCond .ne 7, 3) := by decide +kernel
theorem dX4_enter_86 : decode cX4_enter 86 = .ok (.iconst 2, 1) := by decide +kernel
theorem dX4_enter_87 : decode cX4_enter 87 = .ok (.goto 26, 3) := by decide +kernel
theorem dX4_enter_90 : decode cX4_enter 90 = .ok (.aload_n 0, 1) := by decide +kernel
theorem dX4_enter_91 : decode cX4_enter 91 = .ok (.getfield 47, 3) := by decide +kernel
theorem dX4_enter_94 : decode cX4_enter 94 = .ok (.iload_n 1, 1) := by decide +kernel
theorem dX4_enter_95 : decode cX4_enter 95 = .ok (.iaload, 1) := by decide +kernel
theorem dX4_enter_96 : decode cX4_enter 96 = .ok (.ifCond .ne 12, 3) := by decide +kernel
theorem dX4_enter_99 : decode cX4_enter 99 = .ok (.aload_n 0, 1) := by decide +kernel
theorem dX4_enter_100 : decode cX4_enter 100 = .ok (.iload_n 1, 1) := by decide +kernel
theorem dX4_enter_101 : decode cX4_enter 101 = .ok (.iload_n 2, 1) := by decide +kernel
theorem dX4_enter_102 : decode cX4_enter 102 = .ok (.invokevirtual 138, 3) := by decide +kernel
theorem dX4_enter_105 : decode cX4_enter 105 = .ok (.ifCond .eq 7, 3) := by decide +kernel
theorem dX4_enter_108 : decode cX4_enter 108 = .ok (.iconst 3, 1) := by decide +kernel
theorem dX4_enter_109 : decode cX4_enter 109 = .ok (.goto 4, 3) := by decide +kernel
theorem dX4_enter_112 : decode cX4_enter 112 = .ok (.iconst 0, 1) := by decide +kernel
theorem dX4_enter_113 : decode cX4_enter 113 = .ok (.invokevirtual 113, 3) := by decide +kernel
theorem dX4_enter_116 : decode cX4_enter 116 = .ok (.ifCond .ne 5, 3) := by decide +kernel
theorem dX4_enter_119 : decode cX4_enter 119 = .ok (.iconst 0, 1) := by decide +kernel
theorem dX4_enter_120 : decode cX4_enter 120 = .ok (.ireturn, 1) := by decide +kernel
theorem dX4_enter_121 : decode cX4_enter 121 = .ok (.aload_n 0, 1) := by decide +kernel
theorem dX4_enter_122 : decode cX4_enter 122 = .ok (.getfield 56, 3) := by decide +kernel
theorem dX4_enter_125 : decode cX4_enter 125 = .ok (.iload_n 1, 1) := by decide +kernel
theorem dX4_enter_126 : decode cX4_enter 126 = .ok (.aload_n 0, 1) := by decide +kernel
theorem dX4_enter_127 : decode cX4_enter 127 = .ok (.getfield 53, 3) := by decide +kernel
theorem dX4_enter_130 : decode cX4_enter 130 = .ok (.iload_n 1, 1) := by decide +kernel
theorem dX4_enter_131 : decode cX4_enter 131 = .ok (.iaload, 1) := by decide +kernel
theorem dX4_enter_132 : decode cX4_enter 132 = .ok (.invokestatic 118, 3) := by decide +kernel
theorem dX4_enter_135 : decode cX4_enter 135 = .ok (.iload_n 2, 1) := by decide +kernel
theorem dX4_enter_136 : decode cX4_enter 136 = .ok (.iastore, 1) := by decide +kernel
theorem dX4_enter_137 : decode cX4_enter 137 = .ok (.aload_n 0, 1) := by decide +kernel
theorem dX4_enter_138 : decode cX4_enter 138 = .ok (.getfield 59, 3) := by decide +kernel
theorem dX4_enter_141 : decode cX4_enter 141 = .ok (.iload_n 1, 1) := by decide +kernel
theorem dX4_enter_142 : decode cX4_enter 142 = .ok (.iload_n 2, 1) := by decide +kernel
theorem dX4_enter_143 : decode cX4_enter 143 = .ok (.invokestatic 118, 3) := by decide +kernel
theorem dX4_enter_146 : decode cX4_enter 146 = .ok (.iload_n 3, 1) := by decide +kernel
theorem dX4_enter_147 : decode cX4_enter 147 = .ok (.iastore, 1) := by decide +kernel
theorem dX4_enter_148 : decode cX4_enter 148 = .ok (.aload_n 0, 1) := by decide +kernel
theorem dX4_enter_149 : decode cX4_enter 149 = .ok (.getfield 62, 3) := by decide +kernel
theorem dX4_enter_152 : decode cX4_enter 152 = .ok (.iload_n 1, 1) := by decide +kernel
theorem dX4_enter_153 : decode cX4_enter 153 = .ok (.iload_n 2, 1) := by decide +kernel
theorem dX4_enter_154 : decode cX4_enter 154 = .ok (.invokestatic 118, 3) := by decide +kernel
theorem dX4_enter_157 : decode cX4_enter 157 = .ok (.iload 4, 2) := by decide +kernel
theorem dX4_enter_159 : decode cX4_enter 159 = .ok (.iastore, 1) := by decide +kernel
theorem dX4_enter_160 : decode cX4_enter 160 = .ok (.aload_n 0, 1) := by decide +kernel
theorem dX4_enter_161 : decode cX4_enter 161 = .ok (.getfield 53, 3) := by decide +kernel
theorem dX4_enter_164 : decode cX4_enter 164 = .ok (.iload_n 1, 1) := by decide +kernel
theorem dX4_enter_165 : decode cX4_enter 165 = .ok (.dup2, 1) := by decide +kernel
theorem dX4_enter_166 : decode cX4_enter 166 = .ok (.iaload, 1) := by decide +kernel
theorem dX4_enter_167 : decode cX4_enter 167 = .ok (.iconst 1, 1) := by decide +kernel
theorem dX4_enter_168 : decode cX4_enter 168 = .ok (.iadd, 1) := by decide +kernel
theorem dX4_enter_169 : decode cX4_enter 169 = .ok (.iastore, 1) := by decide +kernel
theorem dX4_enter_170 : decode cX4_enter 170 = .ok (.aload_n 0, 1) := by decide +kernel
theorem dX4_enter_171 : decode cX4_enter 171 = .ok (.getfield 53, 3) := by decide +kernel
theorem dX4_enter_174 : decode cX4_enter 174 = .ok (.iload_n 1, 1) := by decide +kernel
theorem dX4_enter_175 : decode cX4_enter 175 = .ok (.iaload, 1) := by decide +kernel
theorem dX4_enter_176 : decode cX4_enter 176 = .ok (.ireturn, 1) := by decide +kernel
theorem dX4_gets_0 : decode cX4_gets 0 = .ok (.iconst 1, 1) := by decide +kernel
theorem dX4_gets_1 : decode cX4_gets 1 = .ok (.istore 4, 2) := by decide +kernel
theorem dX4_gets_3 : decode cX4_gets 3 = .ok (.iconst 0, 1) := by decide +kernel
theorem dX4_gets_4 : decode cX4_gets 4 = .ok (.istore 5, 2) := by decide +kernel
theorem dX4_gets_6 : decode cX4_gets 6 = .ok (.iload 5, 2) := by decide +kernel
theorem dX4_gets_8 : decode cX4_gets 8 = .ok (.aload_n 0, 1) := by decide +kernel
theorem dX4_gets_9 : decode cX4_gets 9 = .ok (.getfield 110, 3) := by decide +kernel
theorem dX4_gets_12 : decode cX4_gets 12 = .ok (.if_icmp .ge 99, 3) := by decide +kernel
theorem dX4_gets_15 : decode cX4_gets 15 = .ok (.aload_n 0, 1) := by decide +kernel
theorem dX4_gets_16 : decode cX4_gets 16 = .ok (.getfield 65, 3) := by decide +kernel
theorem dX4_gets_19 : decode cX4_gets 19 = .ok (.iload 5, 2) := by decide +kernel
theorem dX4_gets_21 : decode cX4_gets 21 = .ok (.iload_n 2, 1) := by decide +kernel
theorem dX4_gets_22 : decode cX4_gets 22 = .ok (.invokestatic 118, 3) := by decide +kernel
theorem dX4_gets_25 : decode cX4_gets 25 = .ok (.iaload, 1) := by decide +kernel
theorem dX4_gets_26 : decode cX4_gets 26 = .ok (.istore 6, 2) := by decide +kernel
theorem dX4_gets_28 : decode cX4_gets 28 = .ok (.iload 5, 2) := by decide +kernel
theorem dX4_gets_30 : decode cX4_gets 30 = .ok (.iload_n 1, 1) := by decide +kernel
theorem dX4_gets_31 : decode cX4_gets 31 = .ok (.if_icmp .eq 74, 3) := by decide +kernel
theorem dX4_gets_34 : decode cX4_gets 34 = .ok (.iload 6, 2) := by decide +kernel
theorem dX4_gets_36 : decode cX4_gets 36 = .ok (.iconst (-1), 1) := by decide +kernel
theorem dX4_gets_37 : decode cX4_gets 37 = .ok (.if_icmp .eq 68, 3) := by decide +kernel
theorem dX4_gets_40 : decode cX4_gets 40 = .ok (.aload_n 0, 1) := by decide +kernel
theorem dX4_gets_41 : decode cX4_gets 41 = .ok (.getfield 32, 3) := by decide +kernel
theorem dX4_gets_44 : decode cX4_gets 44 = .ok (.iload_n 1, 1) := by decide +kernel
theorem dX4_gets_45 : decode cX4_gets 45 = .ok (.iaload, 1) := by decide +kernel
theorem dX4_gets_46 : decode cX4_gets 46 = .ok (.iload_n 3, 1) := by decide +kernel
theorem dX4_gets_47 : decode cX4_gets 47 = .ok (.iadd, 1) := by decide +kernel
theorem dX4_gets_48 : decode cX4_gets 48 = .ok (.aload_n 0, 1) := by decide +kernel
theorem dX4_gets_49 : decode cX4_gets 49 = .ok (.getfield 32, 3) := by decide +kernel
theorem dX4_gets_52 : decode cX4_gets 52 = .ok (.iload 5, 2) := by decide +kernel
theorem dX4_gets_54 : decode cX4_gets 54 = .ok (.iaload, 1) := by decide +kernel
theorem dX4_gets_55 : decode cX4_gets 55 = .ok (.iload 6, 2) := by decide +kernel
theorem dX4_gets_57 : decode cX4_gets 57 = .ok (.iadd, 1) := by decide +kernel
theorem dX4_gets_58 : decode cX4_gets 58 = .ok (.invokestatic 142, 3) := by decide +kernel
theorem dX4_gets_61 : decode cX4_gets 61 = .ok (.istore 7, 2) := by decide +kernel
theorem dX4_gets_63 : decode cX4_gets 63 = .ok (.iload 4, 2) := by decide +kernel
theorem dX4_gets_65 : decode cX4_gets 65 = .ok (.ifCond .eq 37, 3) := by decide +kernel
theorem dX4_gets_68 : decode cX4_gets 68 = .ok (.iload 7, 2) := by decide +kernel
theorem dX4_gets_70 : decode cX4_gets 70 = .ok (.ifCond .le 32, 3) := by decide +kernel
theorem dX4_gets_73 : decode cX4_gets 73 = .ok (.sipush 400, 3) := by decide +kernel
theorem dX4_gets_76 : decode cX4_gets 76 = .ok (.iload 7, 2) := by decide +kernel
theorem dX4_gets_78 : decode cX4_gets 78 = .ok (.imul, 1) := by decide +kernel
theorem dX4_gets_79 : decode cX4_gets 79 = .ok (.aload_n 0, 1) := by decide +kernel
theorem dX4_gets_80 : decode cX4_gets 80 = .ok (.getfield 29, 3) := by decide +kernel
theorem dX4_gets_83 : decode cX4_gets 83 = .ok (.iload_n 1, 1) := by decide +kernel
theorem dX4_gets_84 : decode cX4_gets 84 = .ok (.iaload, 1) := by decide +kernel
theorem dX4_gets_85 : decode cX4_gets 85 = .ok (.aload_n 0, 1) := by decide +kernel
theorem dX4_gets_86 : decode cX4_gets 86 = .ok (.getfield 29, 3) := by decide +kernel
theorem dX4_gets_89 : decode cX4_gets 89 = .ok (.iload 5, 2) := by decide +kernel
theorem dX4_gets_91 : decode cX4_gets 91 = .ok (.iaload, 1) := by decide +kernel
theorem dX4_gets_92 : decode cX4_gets 92 = .ok (.invokestatic 142, 3) := by decide +kernel
theorem dX4_gets_95 : decode cX4_gets 95 = .ok (.if_icmp .lt 7, 3) := by decide +kernel
theorem dX4_gets_98 : decode cX4_gets 98 = .ok (.iconst 1, 1) := by decide +kernel
theorem dX4_gets_99 : decode cX4_gets 99 = .ok (.goto 4, 3) := by decide +kernel
theorem dX4_gets_102 : decode cX4_gets 102 = .ok (.iconst 0, 1) := by decide +kernel
theorem dX4_gets_103 : decode cX4_gets 103 = .ok (.istore 4, 2) := by decide +kernel
theorem dX4_gets_105 : decode cX4_gets 105 = .ok (.iinc 5 1, 3) := by decide +kernel
theorem dX4_gets_108 : decode cX4_gets 108 = .ok (.goto (-102), 3) := by decide +kernel
theorem dX4_gets_111 : decode cX4_gets 111 = .ok (.iload 4, 2) := by decide +kernel
theorem dX4_gets_113 : decode cX4_gets 113 = .ok (.ireturn, 1) := by decide +kernel
theorem dX4_taken_0 : decode cX4_taken 0 = .ok (.iconst 0, 1) := by decide +kernel
theorem dX4_taken_1 : decode cX4_taken 1 = .ok (.istore_n 3, 1) := by decide +kernel
theorem dX4_taken_2 : decode cX4_taken 2 = .ok (.iload_n 1, 1) := by decide +kernel
theorem dX4_taken_3 : decode cX4_taken 3 = .ok (.iconst 0, 1) := by decide +kernel
theorem dX4_taken_4 : decode cX4_taken 4 = .ok (.invokestatic 118, 3) := by decide +kernel
theorem dX4_taken_7 : decode cX4_taken 7 = .ok (.istore 4, 2) := by decide +kernel
theorem dX4_taken_9 : decode cX4_taken 9 = .ok (.iload 4, 2) := by decide +kernel
theorem dX4_taken_11 : decode cX4_taken 11 = .ok (.iload_n 1, 1) := by decide +kernel
theorem dX4_taken_12 : decode cX4_taken 12 = .ok (.iconst 1, 1) := by decide +kernel
theorem dX4_taken_13 : decode cX4_taken 13 = .ok (.iadd, 1) := by decide +kernel
theorem dX4_taken_14 : decode cX4_taken 14 = .ok (.iconst 0, 1) := by decide +kernel
theorem dX4_taken_15 : decode cX4_taken 15 = .ok (.invokestatic 118, 3) := by decide +kernel
theorem dX4_taken_18 : decode cX4_taken 18 = .ok (.if_icmp .ge 28, 3) := by decide +kernel
theorem dX4_taken_21 : decode cX4_taken 21 = .ok (.iload_n 3, 1) := by decide +kernel
theorem dX4_taken_22 : decode cX4_taken 22 = .ok (.aload_n 0, 1) := by decide +kernel
theorem dX4_taken_23 : decode cX4_taken 23 = .ok (.getfield 65, 3) := by decide +kernel
theorem dX4_taken_26 : decode cX4_taken 26 = .ok (.iload 4, 2) := by decide +kernel
theorem dX4_taken_28 : decode cX4_taken 28 = .ok (.iaload, 1) := by decide +kernel
theorem dX4_taken_29 : decode cX4_taken 29 = .ok (.iload_n 2, 1) := by decide +kernel
theorem dX4_taken_30 : decode cX4_taken 30 = .ok (.if_icmp .ne 7, 3) := by decide +kernel
theorem dX4_taken_33 : decode cX4_taken 33 = .ok (.iconst 1, 1) := by decide +kernel
theorem dX4_taken_34 : decode cX4_taken 34 = .ok (.goto 4, 3) := by decide +kernel
theorem dX4_taken_37 : decode cX4_taken 37 = .ok (.iconst 0, 1) := by decide +kernel
theorem dX4_taken_38 : decode cX4_taken 38 = .ok (.iadd, 1) := by decide +kernel
theorem dX4_taken_39 : decode cX4_taken 39 = .ok (.istore_n 3, 1) := by decide +kernel
theorem dX4_taken_40 : decode cX4_taken 40 = .ok (.iinc 4 1, 3) := by decide +kernel
theorem dX4_taken_43 : decode cX4_taken 43 = .ok (.goto (-34), 3) := by decide +kernel
theorem dX4_taken_46 : decode cX4_taken 46 = .ok (.iload_n 3, 1) := by decide +kernel
theorem dX4_taken_47 : decode cX4_taken 47 = .ok (.ireturn, 1) := by decide +kernel
theorem dX4_fits_0 : decode cX4_fits 0 = .ok (.aload_n 0, 1) := by decide +kernel
theorem dX4_fits_1 : decode cX4_fits 1 = .ok (.getfield 59, 3) := by decide +kernel
theorem dX4_fits_4 : decode cX4_fits 4 = .ok (.iload_n 1, 1) := by decide +kernel
theorem dX4_fits_5 : decode cX4_fits 5 = .ok (.iload_n 2, 1) := by decide +kernel
theorem dX4_fits_6 : decode cX4_fits 6 = .ok (.invokestatic 118, 3) := by decide +kernel
theorem dX4_fits_9 : decode cX4_fits 9 = .ok (.iaload, 1) := by decide +kernel
theorem dX4_fits_10 : decode cX4_fits 10 = .ok (.iload_n 3, 1) := by decide +kernel
theorem dX4_fits_11 : decode cX4_fits 11 = .ok (.ishr, 1) := by decide +kernel
theorem dX4_fits_12 : decode cX4_fits 12 = .ok (.iconst 1, 1) := by decide +kernel
theorem dX4_fits_13 : decode cX4_fits 13 = .ok (.iand, 1) := by decide +kernel
theorem dX4_fits_14 : decode cX4_fits 14 = .ok (.iconst 1, 1) := by decide +kernel
theorem dX4_fits_15 : decode cX4_fits 15 = .ok (.if_icmp .ne 32, 3) := by decide +kernel
theorem dX4_fits_18 : decode cX4_fits 18 = .ok (.aload_n 0, 1) := by decide +kernel
theorem dX4_fits_19 : decode cX4_fits 19 = .ok (.iload_n 1, 1) := by decide +kernel
theorem dX4_fits_20 : decode cX4_fits 20 = .ok (.iload_n 3, 1) := by decide +kernel
theorem dX4_fits_21 : decode cX4_fits 21 = .ok (.invokevirtual 145, 3) := by decide +kernel
theorem dX4_fits_24 : decode cX4_fits 24 = .ok (.aload_n 0, 1) := by decide +kernel
theorem dX4_fits_25 : decode cX4_fits 25 = .ok (.getfield 38, 3) := by decide +kernel
theorem dX4_fits_28 : decode cX4_fits 28 = .ok (.iload_n 1, 1) := by decide +kernel
theorem dX4_fits_29 : decode cX4_fits 29 = .ok (.iaload, 1) := by decide +kernel
theorem dX4_fits_30 : decode cX4_fits 30 = .ok (.if_icmp .ge 17, 3) := by decide +kernel
theorem dX4_fits_33 : decode cX4_fits 33 = .ok (.aload_n 0, 1) := by decide +kernel
theorem dX4_fits_34 : decode cX4_fits 34 = .ok (.iload_n 1, 1) := by decide +kernel
theorem dX4_fits_35 : decode cX4_fits 35 = .ok (.iload_n 2, 1) := by decide +kernel
theorem dX4_fits_36 : decode cX4_fits 36 = .ok (.iload_n 3, 1) := by decide +kernel
theorem dX4_fits_37 : decode cX4_fits 37 = .ok (.invokevirtual 148, 3) := by decide +kernel
theorem dX4_fits_40 : decode cX4_fits 40 = .ok (.ifCond .eq 7, 3) := by decide +kernel
theorem dX4_fits_43 : decode cX4_fits 43 = .ok (.iconst 1, 1) := by decide +kernel
theorem dX4_fits_44 : decode cX4_fits 44 = .ok (.goto 4, 3) := by decide +kernel
theorem dX4_fits_47 : decode cX4_fits 47 = .ok (.iconst 0, 1) := by decide +kernel
theorem dX4_fits_48 : decode cX4_fits 48 = .ok (.ireturn, 1) := by decide +kernel
theorem dX4_places_0 : decode cX4_places 0 = .ok (.iconst (-1), 1) := by decide +kernel
theorem dX4_places_1 : decode cX4_places 1 = .ok (.istore_n 3, 1) := by decide +kernel
theorem dX4_places_2 : decode cX4_places 2 = .ok (.aload_n 0, 1) := by decide +kernel
theorem dX4_places_3 : decode cX4_places 3 = .ok (.getfield 35, 3) := by decide +kernel
theorem dX4_places_6 : decode cX4_places 6 = .ok (.iload_n 1, 1) := by decide +kernel
theorem dX4_places_7 : decode cX4_places 7 = .ok (.iaload, 1) := by decide +kernel
theorem dX4_places_8 : decode cX4_places 8 = .ok (.iconst 1, 1) := by decide +kernel
theorem dX4_places_9 : decode cX4_places 9 = .ok (.isub, 1) := by decide +kernel
theorem dX4_places_10 : decode cX4_places 10 = .ok (.istore 4, 2) := by decide +kernel
theorem dX4_places_12 : decode cX4_places 12 = .ok (.iload 4, 2) := by decide +kernel
theorem dX4_places_14 : decode cX4_places 14 = .ok (.ifCond .lt 27, 3) := by decide +kernel
theorem dX4_places_17 : decode cX4_places 17 = .ok (.aload_n 0, 1) := by decide +kernel
theorem dX4_places_18 : decode cX4_places 18 = .ok (.iload_n 1, 1) := by decide +kernel
theorem dX4_places_19 : decode cX4_places 19 = .ok (.iload_n 2, 1) := by decide +kernel
theorem dX4_places_20 : decode cX4_places 20 = .ok (.iload 4, 2) := by decide +kernel
theorem dX4_places_22 : decode cX4_places 22 = .ok (.invokevirtual 151, 3) := by decide +kernel
theorem dX4_places_25 : decode cX4_places 25 = .ok (.ifCond .eq 8, 3) := by decide +kernel
theorem dX4_places_28 : decode cX4_places 28 = .ok (.iload 4, 2) := by decide +kernel
theorem dX4_places_30 : decode cX4_places 30 = .ok (.goto 4, 3) := by decide +kernel
theorem dX4_places_33 : decode cX4_places 33 = .ok (.iload_n 3, 1) := by decide +kernel
theorem dX4_places_34 : decode cX4_places 34 = .ok (.istore_n 3, 1) := by decide +kernel
theorem dX4_places_35 : decode cX4_places 35 = .ok (.iinc 4 (-1), 3) := by decide +kernel
theorem dX4_places_38 : decode cX4_places 38 = .ok (.goto (-26), 3) := by decide +kernel
theorem dX4_places_41 : decode cX4_places 41 = .ok (.aload_n 0, 1) := by decide +kernel
theorem dX4_places_42 : decode cX4_places 42 = .ok (.getfield 62, 3) := by decide +kernel
theorem dX4_places_45 : decode cX4_places 45 = .ok (.iload_n 1, 1) := by decide +kernel
theorem dX4_places_46 : decode cX4_places 46 = .ok (.iload_n 2, 1) := by decide +kernel
theorem dX4_places_47 : decode cX4_places 47 = .ok (.invokestatic 118, 3) := by decide +kernel
theorem dX4_places_50 : decode cX4_places 50 = .ok (.iaload, 1) := by decide +kernel
theorem dX4_places_51 : decode cX4_places 51 = .ok (.istore 4, 2) := by decide +kernel
theorem dX4_places_53 : decode cX4_places 53 = .ok (.aload_n 0, 1) := by decide +kernel
theorem dX4_places_54 : decode cX4_places 54 = .ok (.getfield 65, 3) := by decide +kernel
theorem dX4_places_57 : decode cX4_places 57 = .ok (.iload_n 1, 1) := by decide +kernel
theorem dX4_places_58 : decode cX4_places 58 = .ok (.iload_n 2, 1) := by decide +kernel
theorem dX4_places_59 : decode cX4_places 59 = .ok (.invokestatic 118, 3) := by decide +kernel
theorem dX4_places_62 : decode cX4_places 62 = .ok (.aload_n 0, 1) := by decide +kernel
theorem dX4_places_63 : decode cX4_places 63 = .ok (.iload_n 1, 1) := by decide +kernel
theorem dX4_places_64 : decode cX4_places 64 = .ok (.iload_n 2, 1) := by decide +kernel
theorem dX4_places_65 : decode cX4_places 65 = .ok (.iload 4, 2) := by decide +kernel
theorem dX4_places_67 : decode cX4_places 67 = .ok (.invokevirtual 151, 3) := by decide +kernel
theorem dX4_places_70 : decode cX4_places 70 = .ok (.ifCond .eq 8, 3) := by decide +kernel
theorem dX4_places_73 : decode cX4_places 73 = .ok (.iload 4, 2) := by decide +kernel
theorem dX4_places_75 : decode cX4_places 75 = .ok (.goto 4, 3) := by decide +kernel
theorem dX4_places_78 : decode cX4_places 78 = .ok (.iload_n 3, 1) := by decide +kernel
theorem dX4_places_79 : decode cX4_places 79 = .ok (.iastore, 1) := by decide +kernel
theorem dX4_places_80 : decode cX4_places 80 = .ok (.return_, 1) := by decide +kernel
theorem dX4_close_0 : decode cX4_close 0 = .ok (.aload_n 0, 1) := by decide +kernel
theorem dX4_close_1 : decode cX4_close 1 = .ok (.iload_n 1, 1) := by decide +kernel
theorem dX4_close_2 : decode cX4_close 2 = .ok (.invokevirtual 129, 3) := by decide +kernel
theorem dX4_close_5 : decode cX4_close 5 = .ok (.istore_n 2, 1) := by decide +kernel
theorem dX4_close_6 : decode cX4_close 6 = .ok (.aload_n 0, 1) := by decide +kernel
theorem dX4_close_7 : decode cX4_close 7 = .ok (.iload_n 2, 1) := by decide +kernel
theorem dX4_close_8 : decode cX4_close 8 = .ok (.ifCond .ne 7, 3) := by decide +kernel
theorem dX4_close_11 : decode cX4_close 11 = .ok (.iconst 1, 1) := by decide +kernel
theorem dX4_close_12 : decode cX4_close 12 = .ok (.goto 17, 3) := by decide +kernel
theorem dX4_close_15 : decode cX4_close 15 = .ok (.aload_n 0, 1) := by decide +kernel
theorem dX4_close_16 : decode cX4_close 16 = .ok (.getfield 47, 3) := by decide +kernel
theorem dX4_close_19 : decode cX4_close 19 = .ok (.iload_n 1, 1) := by decide +kernel
theorem dX4_close_20 : decode cX4_close 20 = .ok (.iaload, 1) := by decide +kernel
theorem dX4_close_21 : decode cX4_close 21 = .ok (.ifCond .eq 7, 3) := by decide +kernel
theorem dX4_close_24 : decode cX4_close 24 = .ok (.iconst 2, 1) := by decide +kernel
theorem dX4_close_25 : decode cX4_close 25 = .ok (.goto 4, 3) := by decide +kernel
theorem dX4_close_28 : decode cX4_close 28 = .ok (.iconst 0, 1) := by decide +kernel
theorem dX4_close_29 : decode cX4_close 29 = .ok (.invokevirtual 113, 3) := by decide +kernel
theorem dX4_close_32 : decode cX4_close 32 = .ok (.ifCond .ne 5, 3) := by decide +kernel
theorem dX4_close_35 : decode cX4_close 35 = .ok (.iconst 0, 1) := by decide +kernel
theorem dX4_close_36 : decode cX4_close 36 = .ok (.ireturn, 1) := by decide +kernel
theorem dX4_close_37 : decode cX4_close 37 = .ok (.iconst 0, 1) := by decide +kernel
theorem dX4_close_38 : decode cX4_close 38 = .ok (.istore_n 3, 1) := by decide +kernel
theorem dX4_close_39 : decode cX4_close 39 = .ok (.iload_n 3, 1) := by decide +kernel
theorem dX4_close_40 : decode cX4_close 40 = .ok (.aload_n 0, 1) := by decide +kernel
theorem dX4_close_41 : decode cX4_close 41 = .ok (.getfield 53, 3) := by decide +kernel
theorem dX4_close_44 : decode cX4_close 44 = .ok (.iload_n 1, 1) := by decide +kernel
theorem dX4_close_45 : decode cX4_close 45 = .ok (.iaload, 1) := by decide +kernel
theorem dX4_close_46 : decode cX4_close 46 = .ok (.if_icmp .ge 24, 3) := by decide +kernel
theorem dX4_close_49 : decode cX4_close 49 = .ok (.aload_n 0, 1) := by decide +kernel
theorem dX4_close_50 : decode cX4_close 50 = .ok (.iload_n 1, 1) := by decide +kernel
theorem dX4_close_51 : decode cX4_close 51 = .ok (.aload_n 0, 1) := by decide +kernel
theorem dX4_close_52 : decode cX4_close 52 = .ok (.getfield 56, 3) := by decide +kernel
theorem dX4_close_55 : decode cX4_close 55 = .ok (.iload_n 1, 1) := by decide +kernel
theorem dX4_close_56 : decode cX4_close 56 = .ok (.iload_n 3, 1) := by decide +kernel
theorem dX4_close_57 : decode cX4_close 57 = .ok (.invokestatic 118, 3) := by decide +kernel
theorem dX4_close_60 : decode cX4_close 60 = .ok (.iaload, 1) := by decide +kernel
theorem dX4_close_61 : decode cX4_close 61 = .ok (.invokevirtual 154, 3) := by decide +kernel
theorem dX4_close_64 : decode cX4_close 64 = .ok (.iinc 3 1, 3) := by decide +kernel
theorem dX4_close_67 : decode cX4_close 67 = .ok (.goto (-28), 3) := by decide +kernel
theorem dX4_close_70 : decode cX4_close 70 = .ok (.aload_n 0, 1) := by decide +kernel
theorem dX4_close_71 : decode cX4_close 71 = .ok (.getfield 47, 3) := by decide +kernel
theorem dX4_close_74 : decode cX4_close 74 = .ok (.iload_n 1, 1) := by decide +kernel
theorem dX4_close_75 : decode cX4_close 75 = .ok (.iconst 1, 1) := by decide +kernel
theorem dX4_close_76 : decode cX4_close 76 = .ok (.iastore, 1) := by decide +kernel
theorem dX4_close_77 : decode cX4_close 77 = .ok (.aload_n 0, 1) := by decide +kernel
theorem dX4_close_78 : decode cX4_close 78 = .ok (.iload_n 1, 1) := by decide +kernel
theorem dX4_close_79 : decode cX4_close 79 = .ok (.invokevirtual 122, 3) := by decide +kernel
theorem dX4_close_82 : decode cX4_close 82 = .ok (.ireturn, 1) := by decide +kernel
theorem dX4_placed_0 : decode cX4_placed 0 = .ok (.aload_n 0, 1) := by decide +kernel
theorem dX4_placed_1 : decode cX4_placed 1 = .ok (.aload_n 0, 1) := by decide +kernel
theorem dX4_placed_2 : decode cX4_placed 2 = .ok (.iload_n 1, 1) := by decide +kernel
theorem dX4_placed_3 : decode cX4_placed 3 = .ok (.invokevirtual 129, 3) := by decide +kernel
theorem dX4_placed_6 : decode cX4_placed 6 = .ok (.ifCond .eq 15, 3) := by decide +kernel
theorem dX4_placed_9 : decode cX4_placed 9 = .ok (.aload_n 0, 1) := by decide +kernel
theorem dX4_placed_10 : decode cX4_placed 10 = .ok (.iload_n 2, 1) := by decide +kernel
theorem dX4_placed_11 : decode cX4_placed 11 = .ok (.invokevirtual 135, 3) := by decide +kernel
theorem dX4_placed_14 : decode cX4_placed 14 = .ok (.ifCond .eq 7, 3) := by decide +kernel
theorem dX4_placed_17 : decode cX4_placed 17 = .ok (.iconst 0, 1) := by decide +kernel
theorem dX4_placed_18 : decode cX4_placed 18 = .ok (.goto 4, 3) := by decide +kernel
theorem dX4_placed_21 : decode cX4_placed 21 = .ok (.iconst 1, 1) := by decide +kernel
theorem dX4_placed_22 : decode cX4_placed 22 = .ok (.invokevirtual 113, 3) := by decide +kernel
theorem dX4_placed_25 : decode cX4_placed 25 = .ok (.ifCond .eq 16, 3) := by decide +kernel
theorem dX4_placed_28 : decode cX4_placed 28 = .ok (.aload_n 0, 1) := by decide +kernel
theorem dX4_placed_29 : decode cX4_placed 29 = .ok (.getfield 65, 3) := by decide +kernel
theorem dX4_placed_32 : decode cX4_placed 32 = .ok (.iload_n 1, 1) := by decide +kernel
theorem dX4_placed_33 : decode cX4_placed 33 = .ok (.iload_n 2, 1) := by decide +kernel
theorem dX4_placed_34 : decode cX4_placed 34 = .ok (.invokestatic 118, 3) := by decide +kernel
theorem dX4_placed_37 : decode cX4_placed 37 = .ok (.iaload, 1) := by decide +kernel
theorem dX4_placed_38 : decode cX4_placed 38 = .ok (.goto 4, 3) := by decide +kernel
theorem dX4_placed_41 : decode cX4_placed 41 = .ok (.iconst 0, 1) := by decide +kernel
theorem dX4_placed_42 : decode cX4_placed 42 = .ok (.ireturn, 1) := by decide +kernel
theorem dX4_unit_0 : decode cX4_unit 0 = .ok (.iload_n 0, 1) := by decide +kernel
theorem dX4_unit_1 : decode cX4_unit 1 = .ok (.ifCond .ne 7, 3) := by decide +kernel
theorem dX4_unit_4 : decode cX4_unit 4 = .ok (.iconst 1, 1) := by decide +kernel
theorem dX4_unit_5 : decode cX4_unit 5 = .ok (.goto 24, 3) := by decide +kernel
theorem dX4_unit_8 : decode cX4_unit 8 = .ok (.iload_n 0, 1) := by decide +kernel
theorem dX4_unit_9 : decode cX4_unit 9 = .ok (.iconst 1, 1) := by decide +kernel
theorem dX4_unit_10 : decode cX4_unit 10 = .ok (.if_icmp .ne 7, 3) := by decide +kernel
theorem dX4_unit_13 : decode cX4_unit 13 = .ok (.iconst 5, 1) := by decide +kernel
theorem dX4_unit_14 : decode cX4_unit 14 = .ok (.goto 15, 3) := by decide +kernel
theorem dX4_unit_17 : decode cX4_unit 17 = .ok (.iload_n 0, 1) := by decide +kernel
theorem dX4_unit_18 : decode cX4_unit 18 = .ok (.iconst 2, 1) := by decide +kernel
theorem dX4_unit_19 : decode cX4_unit 19 = .ok (.if_icmp .ne 8, 3) := by decide +kernel
theorem dX4_unit_22 : decode cX4_unit 22 = .ok (.bipush 25, 2) := by decide +kernel
theorem dX4_unit_24 : decode cX4_unit 24 = .ok (.goto 5, 3) := by decide +kernel
theorem dX4_unit_27 : decode cX4_unit 27 = .ok (.bipush 125, 2) := by decide +kernel
theorem dX4_unit_29 : decode cX4_unit 29 = .ok (.ireturn, 1) := by decide +kernel
theorem dX4_greatest_0 : decode cX4_greatest 0 = .ok (.iconst 0, 1) := by decide +kernel
theorem dX4_greatest_1 : decode cX4_greatest 1 = .ok (.istore_n 2, 1) := by decide +kernel
theorem dX4_greatest_2 : decode cX4_greatest 2 = .ok (.iload_n 2, 1) := by decide +kernel
theorem dX4_greatest_3 : decode cX4_greatest 3 = .ok (.sipush 625, 3) := by decide +kernel
theorem dX4_greatest_6 : decode cX4_greatest 6 = .ok (.if_icmp .ge 24, 3) := by decide +kernel
theorem dX4_greatest_9 : decode cX4_greatest 9 = .ok (.aload_n 0, 1) := by decide +kernel
theorem dX4_greatest_10 : decode cX4_greatest 10 = .ok (.getfield 94, 3) := by decide +kernel
theorem dX4_greatest_13 : decode cX4_greatest 13 = .ok (.iload_n 2, 1) := by decide +kernel
theorem dX4_greatest_14 : decode cX4_greatest 14 = .ok (.iload_n 2, 1) := by decide +kernel
theorem dX4_greatest_15 : decode cX4_greatest 15 = .ok (.ifCond .ne 7, 3) := by decide +kernel
theorem dX4_greatest_18 : decode cX4_greatest 18 = .ok (.iconst 1, 1) := by decide +kernel
theorem dX4_greatest_19 : decode cX4_greatest 19 = .ok (.goto 4, 3) := by decide +kernel
theorem dX4_greatest_22 : decode cX4_greatest 22 = .ok (.iconst 0, 1) := by decide +kernel
theorem dX4_greatest_23 : decode cX4_greatest 23 = .ok (.bastore, 1) := by decide +kernel
theorem dX4_greatest_24 : decode cX4_greatest 24 = .ok (.iinc 2 1, 3) := by decide +kernel
theorem dX4_greatest_27 : decode cX4_greatest 27 = .ok (.goto (-25), 3) := by decide +kernel
theorem dX4_greatest_30 : decode cX4_greatest 30 = .ok (.iconst 0, 1) := by decide +kernel
theorem dX4_greatest_31 : decode cX4_greatest 31 = .ok (.istore_n 2, 1) := by decide +kernel
theorem dX4_greatest_32 : decode cX4_greatest 32 = .ok (.iload_n 2, 1) := by decide +kernel
theorem dX4_greatest_33 : decode cX4_greatest 33 = .ok (.aload_n 0, 1) := by decide +kernel
theorem dX4_greatest_34 : decode cX4_greatest 34 = .ok (.getfield 53, 3) := by decide +kernel
theorem dX4_greatest_37 : decode cX4_greatest 37 = .ok (.iload_n 1, 1) := by decide +kernel
theorem dX4_greatest_38 : decode cX4_greatest 38 = .ok (.iaload, 1) := by decide +kernel
theorem dX4_greatest_39 : decode cX4_greatest 39 = .ok (.if_icmp .ge 141, 3) := by decide +kernel
theorem dX4_greatest_42 : decode cX4_greatest 42 = .ok (.aload_n 0, 1) := by decide +kernel
theorem dX4_greatest_43 : decode cX4_greatest 43 = .ok (.getfield 56, 3) := by decide +kernel
theorem dX4_greatest_46 : decode cX4_greatest 46 = .ok (.iload_n 1, 1) := by decide +kernel
theorem dX4_greatest_47 : decode cX4_greatest 47 = .ok (.iload_n 2, 1) := by decide +kernel
theorem dX4_greatest_48 : decode cX4_greatest 48 = .ok (.invokestatic 118, 3) := by decide +kernel
theorem dX4_greatest_51 : decode cX4_greatest 51 = .ok (.iaload, 1) := by decide +kernel
theorem dX4_greatest_52 : decode cX4_greatest 52 = .ok (.istore_n 3, 1) := by decide +kernel
theorem dX4_greatest_53 : decode cX4_greatest 53 = .ok (.sipush 624, 3) := by decide +kernel
theorem dX4_greatest_56 : decode cX4_greatest 56 = .ok (.istore 4, 2) := by decide +kernel
theorem dX4_greatest_58 : decode cX4_greatest 58 = .ok (.iload 4, 2) := by decide +kernel
theorem dX4_greatest_60 : decode cX4_greatest 60 = .ok (.ifCond .lt 114, 3) := by decide +kernel
theorem dX4_greatest_63 : decode cX4_greatest 63 = .ok (.iconst 0, 1) := by decide +kernel
theorem dX4_greatest_64 : decode cX4_greatest 64 = .ok (.istore 5, 2) := by decide +kernel
theorem dX4_greatest_66 : decode cX4_greatest 66 = .ok (.iload 5, 2) := by decide +kernel
theorem dX4_greatest_68 : decode cX4_greatest 68 = .ok (.aload_n 0, 1) := by decide +kernel
theorem dX4_greatest_69 : decode cX4_greatest 69 = .ok (.getfield 35, 3) := by decide +kernel
end
section
theorem dX4_greatest_72 : decode cX4_greatest 72 = .ok (.iload_n 1, 1) := by decide +kernel
theorem dX4_greatest_73 : decode cX4_greatest 73 = .ok (.iaload, 1) := by decide +kernel
theorem dX4_greatest_74 : decode cX4_greatest 74 = .ok (.if_icmp .ge 94, 3) := by decide +kernel
theorem dX4_greatest_77 : decode cX4_greatest 77 = .ok (.aload_n 0, 1) := by decide +kernel
theorem dX4_greatest_78 : decode cX4_greatest 78 = .ok (.getfield 94, 3) := by decide +kernel
theorem dX4_greatest_81 : decode cX4_greatest 81 = .ok (.iload 4, 2) := by decide +kernel
theorem dX4_greatest_83 : decode cX4_greatest 83 = .ok (.baload, 1) := by decide +kernel
theorem dX4_greatest_84 : decode cX4_greatest 84 = .ok (.ifCond .eq 84, 3) := by decide +kernel
theorem dX4_greatest_87 : decode cX4_greatest 87 = .ok (.aload_n 0, 1) := by decide +kernel
theorem dX4_greatest_88 : decode cX4_greatest 88 = .ok (.getfield 59, 3) := by decide +kernel
theorem dX4_greatest_91 : decode cX4_greatest 91 = .ok (.iload_n 1, 1) := by decide +kernel
theorem dX4_greatest_92 : decode cX4_greatest 92 = .ok (.iload_n 3, 1) := by decide +kernel
theorem dX4_greatest_93 : decode cX4_greatest 93 = .ok (.invokestatic 118, 3) := by decide +kernel
theorem dX4_greatest_96 : decode cX4_greatest 96 = .ok (.iaload, 1) := by decide +kernel
theorem dX4_greatest_97 : decode cX4_greatest 97 = .ok (.iload 5, 2) := by decide +kernel
theorem dX4_greatest_99 : decode cX4_greatest 99 = .ok (.ishr, 1) := by decide +kernel
theorem dX4_greatest_100 : decode cX4_greatest 100 = .ok (.iconst 1, 1) := by decide +kernel
theorem dX4_greatest_101 : decode cX4_greatest 101 = .ok (.iand, 1) := by decide +kernel
theorem dX4_greatest_102 : decode cX4_greatest 102 = .ok (.iconst 1, 1) := by decide +kernel
theorem dX4_greatest_103 : decode cX4_greatest 103 = .ok (.if_icmp .ne 26, 3) := by decide +kernel
theorem dX4_greatest_106 : decode cX4_greatest 106 = .ok (.iload 4, 2) := by decide +kernel
theorem dX4_greatest_108 : decode cX4_greatest 108 = .ok (.iload 5, 2) := by decide +kernel
theorem dX4_greatest_110 : decode cX4_greatest 110 = .ok (.invokestatic 157, 3) := by decide +kernel
theorem dX4_greatest_113 : decode cX4_greatest 113 = .ok (.idiv, 1) := by decide +kernel
theorem dX4_greatest_114 : decode cX4_greatest 114 = .ok (.iconst 5, 1) := by decide +kernel
theorem dX4_greatest_115 : decode cX4_greatest 115 = .ok (.irem, 1) := by decide +kernel
theorem dX4_greatest_116 : decode cX4_greatest 116 = .ok (.aload_n 0, 1) := by decide +kernel
theorem dX4_greatest_117 : decode cX4_greatest 117 = .ok (.getfield 38, 3) := by decide +kernel
theorem dX4_greatest_120 : decode cX4_greatest 120 = .ok (.iload_n 1, 1) := by decide +kernel
theorem dX4_greatest_121 : decode cX4_greatest 121 = .ok (.iaload, 1) := by decide +kernel
theorem dX4_greatest_122 : decode cX4_greatest 122 = .ok (.if_icmp .ge 7, 3) := by decide +kernel
theorem dX4_greatest_125 : decode cX4_greatest 125 = .ok (.iconst 1, 1) := by decide +kernel
theorem dX4_greatest_126 : decode cX4_greatest 126 = .ok (.goto 4, 3) := by decide +kernel
theorem dX4_greatest_129 : decode cX4_greatest 129 = .ok (.iconst 0, 1) := by decide +kernel
theorem dX4_greatest_130 : decode cX4_greatest 130 = .ok (.istore 6, 2) := by decide +kernel
theorem dX4_greatest_132 : decode cX4_greatest 132 = .ok (.iload 6, 2) := by decide +kernel
theorem dX4_greatest_134 : decode cX4_greatest 134 = .ok (.ifCond .eq 28, 3) := by decide +kernel
theorem dX4_greatest_137 : decode cX4_greatest 137 = .ok (.aload_n 0, 1) := by decide +kernel
theorem dX4_greatest_138 : decode cX4_greatest 138 = .ok (.iload_n 1, 1) := by decide +kernel
theorem dX4_greatest_139 : decode cX4_greatest 139 = .ok (.iload_n 3, 1) := by decide +kernel
theorem dX4_greatest_140 : decode cX4_greatest 140 = .ok (.iload 5, 2) := by decide +kernel
theorem dX4_greatest_142 : decode cX4_greatest 142 = .ok (.invokevirtual 148, 3) := by decide +kernel
theorem dX4_greatest_145 : decode cX4_greatest 145 = .ok (.ifCond .eq 17, 3) := by decide +kernel
theorem dX4_greatest_148 : decode cX4_greatest 148 = .ok (.aload_n 0, 1) := by decide +kernel
theorem dX4_greatest_149 : decode cX4_greatest 149 = .ok (.getfield 94, 3) := by decide +kernel
theorem dX4_greatest_152 : decode cX4_greatest 152 = .ok (.iload 4, 2) := by decide +kernel
theorem dX4_greatest_154 : decode cX4_greatest 154 = .ok (.iload 5, 2) := by decide +kernel
theorem dX4_greatest_156 : decode cX4_greatest 156 = .ok (.invokestatic 157, 3) := by decide +kernel
theorem dX4_greatest_159 : decode cX4_greatest 159 = .ok (.iadd, 1) := by decide +kernel
theorem dX4_greatest_160 : decode cX4_greatest 160 = .ok (.iconst 1, 1) := by decide +kernel
theorem dX4_greatest_161 : decode cX4_greatest 161 = .ok (.bastore, 1) := by decide +kernel
theorem dX4_greatest_162 : decode cX4_greatest 162 = .ok (.iinc 5 1, 3) := by decide +kernel
theorem dX4_greatest_165 : decode cX4_greatest 165 = .ok (.goto (-99), 3) := by decide +kernel
theorem dX4_greatest_168 : decode cX4_greatest 168 = .ok (.iinc 4 (-1), 3) := by decide +kernel
theorem dX4_greatest_171 : decode cX4_greatest 171 = .ok (.goto (-113), 3) := by decide +kernel
theorem dX4_greatest_174 : decode cX4_greatest 174 = .ok (.iinc 2 1, 3) := by decide +kernel
theorem dX4_greatest_177 : decode cX4_greatest 177 = .ok (.goto (-145), 3) := by decide +kernel
theorem dX4_greatest_180 : decode cX4_greatest 180 = .ok (.iconst 0, 1) := by decide +kernel
theorem dX4_greatest_181 : decode cX4_greatest 181 = .ok (.istore_n 2, 1) := by decide +kernel
theorem dX4_greatest_182 : decode cX4_greatest 182 = .ok (.iconst 0, 1) := by decide +kernel
theorem dX4_greatest_183 : decode cX4_greatest 183 = .ok (.istore_n 3, 1) := by decide +kernel
theorem dX4_greatest_184 : decode cX4_greatest 184 = .ok (.iload_n 3, 1) := by decide +kernel
theorem dX4_greatest_185 : decode cX4_greatest 185 = .ok (.sipush 625, 3) := by decide +kernel
theorem dX4_greatest_188 : decode cX4_greatest 188 = .ok (.if_icmp .ge 54, 3) := by decide +kernel
theorem dX4_greatest_191 : decode cX4_greatest 191 = .ok (.iload_n 3, 1) := by decide +kernel
theorem dX4_greatest_192 : decode cX4_greatest 192 = .ok (.iconst 5, 1) := by decide +kernel
theorem dX4_greatest_193 : decode cX4_greatest 193 = .ok (.irem, 1) := by decide +kernel
theorem dX4_greatest_194 : decode cX4_greatest 194 = .ok (.iload_n 3, 1) := by decide +kernel
theorem dX4_greatest_195 : decode cX4_greatest 195 = .ok (.iconst 5, 1) := by decide +kernel
theorem dX4_greatest_196 : decode cX4_greatest 196 = .ok (.idiv, 1) := by decide +kernel
theorem dX4_greatest_197 : decode cX4_greatest 197 = .ok (.iconst 5, 1) := by decide +kernel
theorem dX4_greatest_198 : decode cX4_greatest 198 = .ok (.irem, 1) := by decide +kernel
theorem dX4_greatest_199 : decode cX4_greatest 199 = .ok (.iadd, 1) := by decide +kernel
theorem dX4_greatest_200 : decode cX4_greatest 200 = .ok (.iload_n 3, 1) := by decide +kernel
theorem dX4_greatest_201 : decode cX4_greatest 201 = .ok (.bipush 25, 2) := by decide +kernel
theorem dX4_greatest_203 : decode cX4_greatest 203 = .ok (.idiv, 1) := by decide +kernel
theorem dX4_greatest_204 : decode cX4_greatest 204 = .ok (.iconst 5, 1) := by decide +kernel
theorem dX4_greatest_205 : decode cX4_greatest 205 = .ok (.irem, 1) := by decide +kernel
theorem dX4_greatest_206 : decode cX4_greatest 206 = .ok (.iadd, 1) := by decide +kernel
theorem dX4_greatest_207 : decode cX4_greatest 207 = .ok (.iload_n 3, 1) := by decide +kernel
theorem dX4_greatest_208 : decode cX4_greatest 208 = .ok (.bipush 125, 2) := by decide +kernel
theorem dX4_greatest_210 : decode cX4_greatest 210 = .ok (.idiv, 1) := by decide +kernel
theorem dX4_greatest_211 : decode cX4_greatest 211 = .ok (.iadd, 1) := by decide +kernel
theorem dX4_greatest_212 : decode cX4_greatest 212 = .ok (.istore 4, 2) := by decide +kernel
theorem dX4_greatest_214 : decode cX4_greatest 214 = .ok (.aload_n 0, 1) := by decide +kernel
theorem dX4_greatest_215 : decode cX4_greatest 215 = .ok (.getfield 94, 3) := by decide +kernel
theorem dX4_greatest_218 : decode cX4_greatest 218 = .ok (.iload_n 3, 1) := by decide +kernel
theorem dX4_greatest_219 : decode cX4_greatest 219 = .ok (.baload, 1) := by decide +kernel
theorem dX4_greatest_220 : decode cX4_greatest 220 = .ok (.ifCond .eq 14, 3) := by decide +kernel
theorem dX4_greatest_223 : decode cX4_greatest 223 = .ok (.iload 4, 2) := by decide +kernel
theorem dX4_greatest_225 : decode cX4_greatest 225 = .ok (.iload_n 2, 1) := by decide +kernel
theorem dX4_greatest_226 : decode cX4_greatest 226 = .ok (.if_icmp .le 8, 3) := by decide +kernel
theorem dX4_greatest_229 : decode cX4_greatest 229 = .ok (.iload 4, 2) := by decide +kernel
theorem dX4_greatest_231 : decode cX4_greatest 231 = .ok (.goto 4, 3) := by decide +kernel
theorem dX4_greatest_234 : decode cX4_greatest 234 = .ok (.iload_n 2, 1) := by decide +kernel
theorem dX4_greatest_235 : decode cX4_greatest 235 = .ok (.istore_n 2, 1) := by decide +kernel
theorem dX4_greatest_236 : decode cX4_greatest 236 = .ok (.iinc 3 1, 3) := by decide +kernel
theorem dX4_greatest_239 : decode cX4_greatest 239 = .ok (.goto (-55), 3) := by decide +kernel
theorem dX4_greatest_242 : decode cX4_greatest 242 = .ok (.iload_n 2, 1) := by decide +kernel
theorem dX4_greatest_243 : decode cX4_greatest 243 = .ok (.ireturn, 1) := by decide +kernel
theorem dX4_most_0 : decode cX4_most 0 = .ok (.aload_n 0, 1) := by decide +kernel
theorem dX4_most_1 : decode cX4_most 1 = .ok (.aload_n 0, 1) := by decide +kernel
theorem dX4_most_2 : decode cX4_most 2 = .ok (.iload_n 1, 1) := by decide +kernel
theorem dX4_most_3 : decode cX4_most 3 = .ok (.invokevirtual 129, 3) := by decide +kernel
theorem dX4_most_6 : decode cX4_most 6 = .ok (.ifCond .eq 7, 3) := by decide +kernel
theorem dX4_most_9 : decode cX4_most 9 = .ok (.iconst 0, 1) := by decide +kernel
theorem dX4_most_10 : decode cX4_most 10 = .ok (.goto 4, 3) := by decide +kernel
theorem dX4_most_13 : decode cX4_most 13 = .ok (.iconst 1, 1) := by decide +kernel
theorem dX4_most_14 : decode cX4_most 14 = .ok (.invokevirtual 113, 3) := by decide +kernel
theorem dX4_most_17 : decode cX4_most 17 = .ok (.ifCond .eq 11, 3) := by decide +kernel
theorem dX4_most_20 : decode cX4_most 20 = .ok (.aload_n 0, 1) := by decide +kernel
theorem dX4_most_21 : decode cX4_most 21 = .ok (.iload_n 1, 1) := by decide +kernel
theorem dX4_most_22 : decode cX4_most 22 = .ok (.invokevirtual 160, 3) := by decide +kernel
theorem dX4_most_25 : decode cX4_most 25 = .ok (.goto 4, 3) := by decide +kernel
theorem dX4_most_28 : decode cX4_most 28 = .ok (.iconst 0, 1) := by decide +kernel
theorem dX4_most_29 : decode cX4_most 29 = .ok (.ireturn, 1) := by decide +kernel
theorem dX4_hide_0 : decode cX4_hide 0 = .ok (.aload_n 0, 1) := by decide +kernel
theorem dX4_hide_1 : decode cX4_hide 1 = .ok (.iload_n 1, 1) := by decide +kernel
theorem dX4_hide_2 : decode cX4_hide 2 = .ok (.iconst 0, 1) := by decide +kernel
theorem dX4_hide_3 : decode cX4_hide 3 = .ok (.ldc 163, 2) := by decide +kernel
theorem dX4_hide_5 : decode cX4_hide 5 = .ok (.invokestatic 103, 3) := by decide +kernel
theorem dX4_hide_8 : decode cX4_hide 8 = .ok (.ifCond .eq 7, 3) := by decide +kernel
theorem dX4_hide_11 : decode cX4_hide 11 = .ok (.iconst 0, 1) := by decide +kernel
theorem dX4_hide_12 : decode cX4_hide 12 = .ok (.goto 4, 3) := by decide +kernel
theorem dX4_hide_15 : decode cX4_hide 15 = .ok (.iconst 1, 1) := by decide +kernel
theorem dX4_hide_16 : decode cX4_hide 16 = .ok (.invokevirtual 113, 3) := by decide +kernel
theorem dX4_hide_19 : decode cX4_hide 19 = .ok (.ifCond .eq 8, 3) := by decide +kernel
theorem dX4_hide_22 : decode cX4_hide 22 = .ok (.aload_n 0, 1) := by decide +kernel
theorem dX4_hide_23 : decode cX4_hide 23 = .ok (.iload_n 1, 1) := by decide +kernel
theorem dX4_hide_24 : decode cX4_hide 24 = .ok (.putfield 90, 3) := by decide +kernel
theorem dX4_hide_27 : decode cX4_hide 27 = .ok (.return_, 1) := by decide +kernel
theorem dX4_canBeDrawn_0 : decode cX4_canBeDrawn 0 = .ok (.aload_n 0, 1) := by decide +kernel
theorem dX4_canBeDrawn_1 : decode cX4_canBeDrawn 1 = .ok (.getfield 7, 3) := by decide +kernel
theorem dX4_canBeDrawn_4 : decode cX4_canBeDrawn 4 = .ok (.iload_n 1, 1) := by decide +kernel
theorem dX4_canBeDrawn_5 : decode cX4_canBeDrawn 5 = .ok (.iaload, 1) := by decide +kernel
theorem dX4_canBeDrawn_6 : decode cX4_canBeDrawn 6 = .ok (.aload_n 0, 1) := by decide +kernel
theorem dX4_canBeDrawn_7 : decode cX4_canBeDrawn 7 = .ok (.getfield 26, 3) := by decide +kernel
theorem dX4_canBeDrawn_10 : decode cX4_canBeDrawn 10 = .ok (.iload_n 2, 1) := by decide +kernel
theorem dX4_canBeDrawn_11 : decode cX4_canBeDrawn 11 = .ok (.iaload, 1) := by decide +kernel
theorem dX4_canBeDrawn_12 : decode cX4_canBeDrawn 12 = .ok (.if_icmp .ne 7, 3) := by decide +kernel
theorem dX4_canBeDrawn_15 : decode cX4_canBeDrawn 15 = .ok (.iconst 1, 1) := by decide +kernel
theorem dX4_canBeDrawn_16 : decode cX4_canBeDrawn 16 = .ok (.goto 4, 3) := by decide +kernel
theorem dX4_canBeDrawn_19 : decode cX4_canBeDrawn 19 = .ok (.iconst 0, 1) := by decide +kernel
theorem dX4_canBeDrawn_20 : decode cX4_canBeDrawn 20 = .ok (.istore 4, 2) := by decide +kernel
theorem dX4_canBeDrawn_22 : decode cX4_canBeDrawn 22 = .ok (.iload_n 3, 1) := by decide +kernel
theorem dX4_canBeDrawn_23 : decode cX4_canBeDrawn 23 = .ok (.iconst 1, 1) := by decide +kernel
theorem dX4_canBeDrawn_24 : decode cX4_canBeDrawn 24 = .ok (.isub, 1) := by decide +kernel
theorem dX4_canBeDrawn_25 : decode cX4_canBeDrawn 25 = .ok (.istore 5, 2) := by decide +kernel
theorem dX4_canBeDrawn_27 : decode cX4_canBeDrawn 27 = .ok (.iload 5, 2) := by decide +kernel
theorem dX4_canBeDrawn_29 : decode cX4_canBeDrawn 29 = .ok (.iload_n 3, 1) := by decide +kernel
theorem dX4_canBeDrawn_30 : decode cX4_canBeDrawn 30 = .ok (.iconst 1, 1) := by decide +kernel
theorem dX4_canBeDrawn_31 : decode cX4_canBeDrawn 31 = .ok (.iadd, 1) := by decide +kernel
theorem dX4_canBeDrawn_32 : decode cX4_canBeDrawn 32 = .ok (.if_icmp .gt 48, 3) := by decide +kernel
theorem dX4_canBeDrawn_35 : decode cX4_canBeDrawn 35 = .ok (.iload 4, 2) := by decide +kernel
theorem dX4_canBeDrawn_37 : decode cX4_canBeDrawn 37 = .ok (.ifCond .eq 34, 3) := by decide +kernel
theorem dX4_canBeDrawn_40 : decode cX4_canBeDrawn 40 = .ok (.iload 5, 2) := by decide +kernel
theorem dX4_canBeDrawn_42 : decode cX4_canBeDrawn 42 = .ok (.iconst 0, 1) := by decide +kernel
theorem dX4_canBeDrawn_43 : decode cX4_canBeDrawn 43 = .ok (.bipush 63, 2) := by decide +kernel
theorem dX4_canBeDrawn_45 : decode cX4_canBeDrawn 45 = .ok (.invokestatic 103, 3) := by decide +kernel
theorem dX4_canBeDrawn_48 : decode cX4_canBeDrawn 48 = .ok (.ifCond .eq 19, 3) := by decide +kernel
theorem dX4_canBeDrawn_51 : decode cX4_canBeDrawn 51 = .ok (.aload_n 0, 1) := by decide +kernel
theorem dX4_canBeDrawn_52 : decode cX4_canBeDrawn 52 = .ok (.getfield 22, 3) := by decide +kernel
theorem dX4_canBeDrawn_55 : decode cX4_canBeDrawn 55 = .ok (.iload_n 1, 1) := by decide +kernel
theorem dX4_canBeDrawn_56 : decode cX4_canBeDrawn 56 = .ok (.laload, 1) := by decide +kernel
theorem dX4_canBeDrawn_57 : decode cX4_canBeDrawn 57 = .ok (.iload 5, 2) := by decide +kernel
theorem dX4_canBeDrawn_59 : decode cX4_canBeDrawn 59 = .ok (.lshr, 1) := by decide +kernel
theorem dX4_canBeDrawn_60 : decode cX4_canBeDrawn 60 = .ok (.lconst 1, 1) := by decide +kernel
theorem dX4_canBeDrawn_61 : decode cX4_canBeDrawn 61 = .ok (.land, 1) := by decide +kernel
theorem dX4_canBeDrawn_62 : decode cX4_canBeDrawn 62 = .ok (.lconst 0, 1) := by decide +kernel
theorem dX4_canBeDrawn_63 : decode cX4_canBeDrawn 63 = .ok (.lcmp, 1) := by decide +kernel
theorem dX4_canBeDrawn_64 : decode cX4_canBeDrawn 64 = .ok (.ifCond .ne 7, 3) := by decide +kernel
theorem dX4_canBeDrawn_67 : decode cX4_canBeDrawn 67 = .ok (.iconst 1, 1) := by decide +kernel
theorem dX4_canBeDrawn_68 : decode cX4_canBeDrawn 68 = .ok (.goto 4, 3) := by decide +kernel
theorem dX4_canBeDrawn_71 : decode cX4_canBeDrawn 71 = .ok (.iconst 0, 1) := by decide +kernel
theorem dX4_canBeDrawn_72 : decode cX4_canBeDrawn 72 = .ok (.istore 4, 2) := by decide +kernel
theorem dX4_canBeDrawn_74 : decode cX4_canBeDrawn 74 = .ok (.iinc 5 1, 3) := by decide +kernel
theorem dX4_canBeDrawn_77 : decode cX4_canBeDrawn 77 = .ok (.goto (-50), 3) := by decide +kernel
theorem dX4_canBeDrawn_80 : decode cX4_canBeDrawn 80 = .ok (.iload 4, 2) := by decide +kernel
theorem dX4_canBeDrawn_82 : decode cX4_canBeDrawn 82 = .ok (.ireturn, 1) := by decide +kernel
theorem dX4_drawsFor_0 : decode cX4_drawsFor 0 = .ok (.aload_n 0, 1) := by decide +kernel
theorem dX4_drawsFor_1 : decode cX4_drawsFor 1 = .ok (.getfield 32, 3) := by decide +kernel
theorem dX4_drawsFor_4 : decode cX4_drawsFor 4 = .ok (.iload_n 1, 1) := by decide +kernel
theorem dX4_drawsFor_5 : decode cX4_drawsFor 5 = .ok (.iaload, 1) := by decide +kernel
theorem dX4_drawsFor_6 : decode cX4_drawsFor 6 = .ok (.aload_n 0, 1) := by decide +kernel
theorem dX4_drawsFor_7 : decode cX4_drawsFor 7 = .ok (.getfield 65, 3) := by decide +kernel
theorem dX4_drawsFor_10 : decode cX4_drawsFor 10 = .ok (.iload_n 1, 1) := by decide +kernel
theorem dX4_drawsFor_11 : decode cX4_drawsFor 11 = .ok (.iload_n 2, 1) := by decide +kernel
theorem dX4_drawsFor_12 : decode cX4_drawsFor 12 = .ok (.invokestatic 118, 3) := by decide +kernel
theorem dX4_drawsFor_15 : decode cX4_drawsFor 15 = .ok (.iaload, 1) := by decide +kernel
theorem dX4_drawsFor_16 : decode cX4_drawsFor 16 = .ok (.iadd, 1) := by decide +kernel
theorem dX4_drawsFor_17 : decode cX4_drawsFor 17 = .ok (.istore_n 3, 1) := by decide +kernel
theorem dX4_drawsFor_18 : decode cX4_drawsFor 18 = .ok (.iconst 0, 1) := by decide +kernel
theorem dX4_drawsFor_19 : decode cX4_drawsFor 19 = .ok (.istore 4, 2) := by decide +kernel
theorem dX4_drawsFor_21 : decode cX4_drawsFor 21 = .ok (.iconst 0, 1) := by decide +kernel
theorem dX4_drawsFor_22 : decode cX4_drawsFor 22 = .ok (.istore 5, 2) := by decide +kernel
theorem dX4_drawsFor_24 : decode cX4_drawsFor 24 = .ok (.iload 5, 2) := by decide +kernel
theorem dX4_drawsFor_26 : decode cX4_drawsFor 26 = .ok (.aload_n 0, 1) := by decide +kernel
theorem dX4_drawsFor_27 : decode cX4_drawsFor 27 = .ok (.getfield 100, 3) := by decide +kernel
theorem dX4_drawsFor_30 : decode cX4_drawsFor 30 = .ok (.if_icmp .ge 30, 3) := by decide +kernel
theorem dX4_drawsFor_33 : decode cX4_drawsFor 33 = .ok (.iload 4, 2) := by decide +kernel
theorem dX4_drawsFor_35 : decode cX4_drawsFor 35 = .ok (.aload_n 0, 1) := by decide +kernel
theorem dX4_drawsFor_36 : decode cX4_drawsFor 36 = .ok (.iload 5, 2) := by decide +kernel
theorem dX4_drawsFor_38 : decode cX4_drawsFor 38 = .ok (.iload_n 1, 1) := by decide +kernel
theorem dX4_drawsFor_39 : decode cX4_drawsFor 39 = .ok (.iload_n 3, 1) := by decide +kernel
theorem dX4_drawsFor_40 : decode cX4_drawsFor 40 = .ok (.invokevirtual 164, 3) := by decide +kernel
theorem dX4_drawsFor_43 : decode cX4_drawsFor 43 = .ok (.ifCond .eq 7, 3) := by decide +kernel
theorem dX4_drawsFor_46 : decode cX4_drawsFor 46 = .ok (.iconst 1, 1) := by decide +kernel
theorem dX4_drawsFor_47 : decode cX4_drawsFor 47 = .ok (.goto 4, 3) := by decide +kernel
theorem dX4_drawsFor_50 : decode cX4_drawsFor 50 = .ok (.iconst 0, 1) := by decide +kernel
theorem dX4_drawsFor_51 : decode cX4_drawsFor 51 = .ok (.iadd, 1) := by decide +kernel
theorem dX4_drawsFor_52 : decode cX4_drawsFor 52 = .ok (.istore 4, 2) := by decide +kernel
theorem dX4_drawsFor_54 : decode cX4_drawsFor 54 = .ok (.iinc 5 1, 3) := by decide +kernel
theorem dX4_drawsFor_57 : decode cX4_drawsFor 57 = .ok (.goto (-33), 3) := by decide +kernel
theorem dX4_drawsFor_60 : decode cX4_drawsFor 60 = .ok (.iconst (-1), 1) := by decide +kernel
theorem dX4_drawsFor_61 : decode cX4_drawsFor 61 = .ok (.istore 5, 2) := by decide +kernel
theorem dX4_drawsFor_63 : decode cX4_drawsFor 63 = .ok (.iload 4, 2) := by decide +kernel
theorem dX4_drawsFor_65 : decode cX4_drawsFor 65 = .ok (.ifCond .le 88, 3) := by decide +kernel
theorem dX4_drawsFor_68 : decode cX4_drawsFor 68 = .ok (.aload_n 0, 1) := by decide +kernel
theorem dX4_drawsFor_69 : decode cX4_drawsFor 69 = .ok (.bipush 75, 2) := by decide +kernel
theorem dX4_drawsFor_71 : decode cX4_drawsFor 71 = .ok (.aload_n 0, 1) := by decide +kernel
theorem dX4_drawsFor_72 : decode cX4_drawsFor 72 = .ok (.getfield 90, 3) := by decide +kernel
theorem dX4_drawsFor_75 : decode cX4_drawsFor 75 = .ok (.imul, 1) := by decide +kernel
theorem dX4_drawsFor_76 : decode cX4_drawsFor 76 = .ok (.bipush 74, 2) := by decide +kernel
theorem dX4_drawsFor_78 : decode cX4_drawsFor 78 = .ok (.iadd, 1) := by decide +kernel
theorem dX4_drawsFor_79 : decode cX4_drawsFor 79 = .ok (.ldc 167, 2) := by decide +kernel
theorem dX4_drawsFor_81 : decode cX4_drawsFor 81 = .ok (.irem, 1) := by decide +kernel
theorem dX4_drawsFor_82 : decode cX4_drawsFor 82 = .ok (.putfield 90, 3) := by decide +kernel
theorem dX4_drawsFor_85 : decode cX4_drawsFor 85 = .ok (.aload_n 0, 1) := by decide +kernel
theorem dX4_drawsFor_86 : decode cX4_drawsFor 86 = .ok (.getfield 90, 3) := by decide +kernel
theorem dX4_drawsFor_89 : decode cX4_drawsFor 89 = .ok (.iload 4, 2) := by decide +kernel
theorem dX4_drawsFor_91 : decode cX4_drawsFor 91 = .ok (.irem, 1) := by decide +kernel
theorem dX4_drawsFor_92 : decode cX4_drawsFor 92 = .ok (.istore 6, 2) := by decide +kernel
theorem dX4_drawsFor_94 : decode cX4_drawsFor 94 = .ok (.iconst 0, 1) := by decide +kernel
theorem dX4_drawsFor_95 : decode cX4_drawsFor 95 = .ok (.istore 7, 2) := by decide +kernel
theorem dX4_drawsFor_97 : decode cX4_drawsFor 97 = .ok (.iload 7, 2) := by decide +kernel
theorem dX4_drawsFor_99 : decode cX4_drawsFor 99 = .ok (.aload_n 0, 1) := by decide +kernel
theorem dX4_drawsFor_100 : decode cX4_drawsFor 100 = .ok (.getfield 100, 3) := by decide +kernel
theorem dX4_drawsFor_103 : decode cX4_drawsFor 103 = .ok (.if_icmp .ge 37, 3) := by decide +kernel
theorem dX4_drawsFor_106 : decode cX4_drawsFor 106 = .ok (.aload_n 0, 1) := by decide +kernel
theorem dX4_drawsFor_107 : decode cX4_drawsFor 107 = .ok (.iload 7, 2) := by decide +kernel
theorem dX4_drawsFor_109 : decode cX4_drawsFor 109 = .ok (.iload_n 1, 1) := by decide +kernel
theorem dX4_drawsFor_110 : decode cX4_drawsFor 110 = .ok (.iload_n 3, 1) := by decide +kernel
theorem dX4_drawsFor_111 : decode cX4_drawsFor 111 = .ok (.invokevirtual 164, 3) := by decide +kernel
theorem dX4_drawsFor_114 : decode cX4_drawsFor 114 = .ok (.ifCond .eq 20, 3) := by decide +kernel
theorem dX4_drawsFor_117 : decode cX4_drawsFor 117 = .ok (.iload 6, 2) := by decide +kernel
theorem dX4_drawsFor_119 : decode cX4_drawsFor 119 = .ok (.ifCond .ne 8, 3) := by decide +kernel
theorem dX4_drawsFor_122 : decode cX4_drawsFor 122 = .ok (.iload 7, 2) := by decide +kernel
theorem dX4_drawsFor_124 : decode cX4_drawsFor 124 = .ok (.goto 5, 3) := by decide +kernel
theorem dX4_drawsFor_127 : decode cX4_drawsFor 127 = .ok (.iload 5, 2) := by decide +kernel
theorem dX4_drawsFor_129 : decode cX4_drawsFor 129 = .ok (.istore 5, 2) := by decide +kernel
theorem dX4_drawsFor_131 : decode cX4_drawsFor 131 = .ok (.iinc 6 (-1), 3) := by decide +kernel
theorem dX4_drawsFor_134 : decode cX4_drawsFor 134 = .ok (.iinc 7 1, 3) := by decide +kernel
theorem dX4_drawsFor_137 : decode cX4_drawsFor 137 = .ok (.goto (-40), 3) := by decide +kernel
theorem dX4_drawsFor_140 : decode cX4_drawsFor 140 = .ok (.aload_n 0, 1) := by decide +kernel
theorem dX4_drawsFor_141 : decode cX4_drawsFor 141 = .ok (.getfield 22, 3) := by decide +kernel
theorem dX4_drawsFor_144 : decode cX4_drawsFor 144 = .ok (.iload 5, 2) := by decide +kernel
theorem dX4_drawsFor_146 : decode cX4_drawsFor 146 = .ok (.dup2, 1) := by decide +kernel
theorem dX4_drawsFor_147 : decode cX4_drawsFor 147 = .ok (.laload, 1) := by decide +kernel
theorem dX4_drawsFor_148 : decode cX4_drawsFor 148 = .ok (.lconst 1, 1) := by decide +kernel
theorem dX4_drawsFor_149 : decode cX4_drawsFor 149 = .ok (.iload_n 3, 1) := by decide +kernel
theorem dX4_drawsFor_150 : decode cX4_drawsFor 150 = .ok (.lshl, 1) := by decide +kernel
theorem dX4_drawsFor_151 : decode cX4_drawsFor 151 = .ok (.lor, 1) := by decide +kernel
theorem dX4_drawsFor_152 : decode cX4_drawsFor 152 = .ok (.lastore, 1) := by decide +kernel
theorem dX4_drawsFor_153 : decode cX4_drawsFor 153 = .ok (.aload_n 0, 1) := by decide +kernel
theorem dX4_drawsFor_154 : decode cX4_drawsFor 154 = .ok (.getfield 68, 3) := by decide +kernel
theorem dX4_drawsFor_157 : decode cX4_drawsFor 157 = .ok (.iload_n 1, 1) := by decide +kernel
theorem dX4_drawsFor_158 : decode cX4_drawsFor 158 = .ok (.iload_n 2, 1) := by decide +kernel
theorem dX4_drawsFor_159 : decode cX4_drawsFor 159 = .ok (.invokestatic 118, 3) := by decide +kernel
theorem dX4_drawsFor_162 : decode cX4_drawsFor 162 = .ok (.iload 5, 2) := by decide +kernel
theorem dX4_drawsFor_164 : decode cX4_drawsFor 164 = .ok (.iastore, 1) := by decide +kernel
theorem dX4_drawsFor_165 : decode cX4_drawsFor 165 = .ok (.aload_n 0, 1) := by decide +kernel
theorem dX4_drawsFor_166 : decode cX4_drawsFor 166 = .ok (.getfield 71, 3) := by decide +kernel
theorem dX4_drawsFor_169 : decode cX4_drawsFor 169 = .ok (.iload_n 1, 1) := by decide +kernel
theorem dX4_drawsFor_170 : decode cX4_drawsFor 170 = .ok (.iload_n 2, 1) := by decide +kernel
theorem dX4_drawsFor_171 : decode cX4_drawsFor 171 = .ok (.invokestatic 118, 3) := by decide +kernel
theorem dX4_drawsFor_174 : decode cX4_drawsFor 174 = .ok (.iload 5, 2) := by decide +kernel
theorem dX4_drawsFor_176 : decode cX4_drawsFor 176 = .ok (.iconst (-1), 1) := by decide +kernel
theorem dX4_drawsFor_177 : decode cX4_drawsFor 177 = .ok (.if_icmp .eq 7, 3) := by decide +kernel
theorem dX4_drawsFor_180 : decode cX4_drawsFor 180 = .ok (.iconst 1, 1) := by decide +kernel
theorem dX4_drawsFor_181 : decode cX4_drawsFor 181 = .ok (.goto 4, 3) := by decide +kernel
theorem dX4_drawsFor_184 : decode cX4_drawsFor 184 = .ok (.iconst 0, 1) := by decide +kernel
theorem dX4_drawsFor_185 : decode cX4_drawsFor 185 = .ok (.bastore, 1) := by decide +kernel
theorem dX4_drawsFor_186 : decode cX4_drawsFor 186 = .ok (.return_, 1) := by decide +kernel
theorem dX4_drawn_0 : decode cX4_drawn 0 = .ok (.iconst 0, 1) := by decide +kernel
theorem dX4_drawn_1 : decode cX4_drawn 1 = .ok (.istore_n 2, 1) := by decide +kernel
theorem dX4_drawn_2 : decode cX4_drawn 2 = .ok (.iload_n 2, 1) := by decide +kernel
theorem dX4_drawn_3 : decode cX4_drawn 3 = .ok (.aload_n 0, 1) := by decide +kernel
theorem dX4_drawn_4 : decode cX4_drawn 4 = .ok (.getfield 35, 3) := by decide +kernel
theorem dX4_drawn_7 : decode cX4_drawn 7 = .ok (.iload_n 1, 1) := by decide +kernel
theorem dX4_drawn_8 : decode cX4_drawn 8 = .ok (.iaload, 1) := by decide +kernel
theorem dX4_drawn_9 : decode cX4_drawn 9 = .ok (.if_icmp .ge 61, 3) := by decide +kernel
theorem dX4_drawn_12 : decode cX4_drawn 12 = .ok (.iconst 0, 1) := by decide +kernel
theorem dX4_drawn_13 : decode cX4_drawn 13 = .ok (.istore_n 3, 1) := by decide +kernel
theorem dX4_drawn_14 : decode cX4_drawn 14 = .ok (.iload_n 3, 1) := by decide +kernel
theorem dX4_drawn_15 : decode cX4_drawn 15 = .ok (.aload_n 0, 1) := by decide +kernel
theorem dX4_drawn_16 : decode cX4_drawn 16 = .ok (.getfield 53, 3) := by decide +kernel
theorem dX4_drawn_19 : decode cX4_drawn 19 = .ok (.iload_n 1, 1) := by decide +kernel
theorem dX4_drawn_20 : decode cX4_drawn 20 = .ok (.iaload, 1) := by decide +kernel
theorem dX4_drawn_21 : decode cX4_drawn 21 = .ok (.if_icmp .ge 43, 3) := by decide +kernel
theorem dX4_drawn_24 : decode cX4_drawn 24 = .ok (.aload_n 0, 1) := by decide +kernel
theorem dX4_drawn_25 : decode cX4_drawn 25 = .ok (.getfield 56, 3) := by decide +kernel
theorem dX4_drawn_28 : decode cX4_drawn 28 = .ok (.iload_n 1, 1) := by decide +kernel
theorem dX4_drawn_29 : decode cX4_drawn 29 = .ok (.iload_n 3, 1) := by decide +kernel
theorem dX4_drawn_30 : decode cX4_drawn 30 = .ok (.invokestatic 118, 3) := by decide +kernel
theorem dX4_drawn_33 : decode cX4_drawn 33 = .ok (.iaload, 1) := by decide +kernel
theorem dX4_drawn_34 : decode cX4_drawn 34 = .ok (.istore 4, 2) := by decide +kernel
theorem dX4_drawn_36 : decode cX4_drawn 36 = .ok (.aload_n 0, 1) := by decide +kernel
theorem dX4_drawn_37 : decode cX4_drawn 37 = .ok (.getfield 65, 3) := by decide +kernel
theorem dX4_drawn_40 : decode cX4_drawn 40 = .ok (.iload_n 1, 1) := by decide +kernel
theorem dX4_drawn_41 : decode cX4_drawn 41 = .ok (.iload 4, 2) := by decide +kernel
theorem dX4_drawn_43 : decode cX4_drawn 43 = .ok (.invokestatic 118, 3) := by decide +kernel
theorem dX4_drawn_46 : decode cX4_drawn 46 = .ok (.iaload, 1) := by decide +kernel
theorem dX4_drawn_47 : decode cX4_drawn 47 = .ok (.iload_n 2, 1) := by decide +kernel
theorem dX4_drawn_48 : decode cX4_drawn 48 = .ok (.if_icmp .ne 10, 3) := by decide +kernel
theorem dX4_drawn_51 : decode cX4_drawn 51 = .ok (.aload_n 0, 1) := by decide +kernel
theorem dX4_drawn_52 : decode cX4_drawn 52 = .ok (.iload_n 1, 1) := by decide +kernel
theorem dX4_drawn_53 : decode cX4_drawn 53 = .ok (.iload 4, 2) := by decide +kernel
theorem dX4_drawn_55 : decode cX4_drawn 55 = .ok (.invokevirtual 168, 3) := by decide +kernel
theorem dX4_drawn_58 : decode cX4_drawn 58 = .ok (.iinc 3 1, 3) := by decide +kernel
theorem dX4_drawn_61 : decode cX4_drawn 61 = .ok (.goto (-47), 3) := by decide +kernel
theorem dX4_drawn_64 : decode cX4_drawn 64 = .ok (.iinc 2 1, 3) := by decide +kernel
theorem dX4_drawn_67 : decode cX4_drawn 67 = .ok (.goto (-65), 3) := by decide +kernel
theorem dX4_drawn_70 : decode cX4_drawn 70 = .ok (.iconst 0, 1) := by decide +kernel
theorem dX4_drawn_71 : decode cX4_drawn 71 = .ok (.istore_n 2, 1) := by decide +kernel
theorem dX4_drawn_72 : decode cX4_drawn 72 = .ok (.iload_n 1, 1) := by decide +kernel
theorem dX4_drawn_73 : decode cX4_drawn 73 = .ok (.iconst 0, 1) := by decide +kernel
theorem dX4_drawn_74 : decode cX4_drawn 74 = .ok (.invokestatic 118, 3) := by decide +kernel
theorem dX4_drawn_77 : decode cX4_drawn 77 = .ok (.istore_n 3, 1) := by decide +kernel
theorem dX4_drawn_78 : decode cX4_drawn 78 = .ok (.iload_n 3, 1) := by decide +kernel
theorem dX4_drawn_79 : decode cX4_drawn 79 = .ok (.iload_n 1, 1) := by decide +kernel
theorem dX4_drawn_80 : decode cX4_drawn 80 = .ok (.iconst 1, 1) := by decide +kernel
theorem dX4_drawn_81 : decode cX4_drawn 81 = .ok (.iadd, 1) := by decide +kernel
theorem dX4_drawn_82 : decode cX4_drawn 82 = .ok (.iconst 0, 1) := by decide +kernel
theorem dX4_drawn_83 : decode cX4_drawn 83 = .ok (.invokestatic 118, 3) := by decide +kernel
theorem dX4_drawn_86 : decode cX4_drawn 86 = .ok (.if_icmp .ge 27, 3) := by decide +kernel
theorem dX4_drawn_89 : decode cX4_drawn 89 = .ok (.iload_n 2, 1) := by decide +kernel
theorem dX4_drawn_90 : decode cX4_drawn 90 = .ok (.aload_n 0, 1) := by decide +kernel
theorem dX4_drawn_91 : decode cX4_drawn 91 = .ok (.getfield 68, 3) := by decide +kernel
theorem dX4_drawn_94 : decode cX4_drawn 94 = .ok (.iload_n 3, 1) := by decide +kernel
theorem dX4_drawn_95 : decode cX4_drawn 95 = .ok (.iaload, 1) := by decide +kernel
theorem dX4_drawn_96 : decode cX4_drawn 96 = .ok (.iconst (-1), 1) := by decide +kernel
theorem dX4_drawn_97 : decode cX4_drawn 97 = .ok (.if_icmp .ne 7, 3) := by decide +kernel
theorem dX4_drawn_100 : decode cX4_drawn 100 = .ok (.iconst 0, 1) := by decide +kernel
theorem dX4_drawn_101 : decode cX4_drawn 101 = .ok (.goto 4, 3) := by decide +kernel
theorem dX4_drawn_104 : decode cX4_drawn 104 = .ok (.iconst 1, 1) := by decide +kernel
theorem dX4_drawn_105 : decode cX4_drawn 105 = .ok (.iadd, 1) := by decide +kernel
theorem dX4_drawn_106 : decode cX4_drawn 106 = .ok (.istore_n 2, 1) := by decide +kernel
theorem dX4_drawn_107 : decode cX4_drawn 107 = .ok (.iinc 3 1, 3) := by decide +kernel
theorem dX4_drawn_110 : decode cX4_drawn 110 = .ok (.goto (-32), 3) := by decide +kernel
theorem dX4_drawn_113 : decode cX4_drawn 113 = .ok (.aload_n 0, 1) := by decide +kernel
theorem dX4_drawn_114 : decode cX4_drawn 114 = .ok (.getfield 47, 3) := by decide +kernel
theorem dX4_drawn_117 : decode cX4_drawn 117 = .ok (.iload_n 1, 1) := by decide +kernel
theorem dX4_drawn_118 : decode cX4_drawn 118 = .ok (.iconst 2, 1) := by decide +kernel
theorem dX4_drawn_119 : decode cX4_drawn 119 = .ok (.iastore, 1) := by decide +kernel
theorem dX4_drawn_120 : decode cX4_drawn 120 = .ok (.iload_n 2, 1) := by decide +kernel
theorem dX4_drawn_121 : decode cX4_drawn 121 = .ok (.ireturn, 1) := by decide +kernel
theorem dX4_draw_0 : decode cX4_draw 0 = .ok (.aload_n 0, 1) := by decide +kernel
theorem dX4_draw_1 : decode cX4_draw 1 = .ok (.iload_n 1, 1) := by decide +kernel
theorem dX4_draw_2 : decode cX4_draw 2 = .ok (.invokevirtual 129, 3) := by decide +kernel
theorem dX4_draw_5 : decode cX4_draw 5 = .ok (.istore_n 2, 1) := by decide +kernel
theorem dX4_draw_6 : decode cX4_draw 6 = .ok (.aload_n 0, 1) := by decide +kernel
theorem dX4_draw_7 : decode cX4_draw 7 = .ok (.iload_n 2, 1) := by decide +kernel
theorem dX4_draw_8 : decode cX4_draw 8 = .ok (.ifCond .ne 7, 3) := by decide +kernel
theorem dX4_draw_11 : decode cX4_draw 11 = .ok (.iconst 1, 1) := by decide +kernel
theorem dX4_draw_12 : decode cX4_draw 12 = .ok (.goto 18, 3) := by decide +kernel
theorem dX4_draw_15 : decode cX4_draw 15 = .ok (.aload_n 0, 1) := by decide +kernel
theorem dX4_draw_16 : decode cX4_draw 16 = .ok (.getfield 47, 3) := by decide +kernel
theorem dX4_draw_19 : decode cX4_draw 19 = .ok (.iload_n 1, 1) := by decide +kernel
theorem dX4_draw_20 : decode cX4_draw 20 = .ok (.iaload, 1) := by decide +kernel
theorem dX4_draw_21 : decode cX4_draw 21 = .ok (.iconst 1, 1) := by decide +kernel
theorem dX4_draw_22 : decode cX4_draw 22 = .ok (.if_icmp .eq 7, 3) := by decide +kernel
theorem dX4_draw_25 : decode cX4_draw 25 = .ok (.iconst 2, 1) := by decide +kernel
theorem dX4_draw_26 : decode cX4_draw 26 = .ok (.goto 4, 3) := by decide +kernel
theorem dX4_draw_29 : decode cX4_draw 29 = .ok (.iconst 0, 1) := by decide +kernel
theorem dX4_draw_30 : decode cX4_draw 30 = .ok (.invokevirtual 113, 3) := by decide +kernel
theorem dX4_draw_33 : decode cX4_draw 33 = .ok (.ifCond .eq 11, 3) := by decide +kernel
theorem dX4_draw_36 : decode cX4_draw 36 = .ok (.aload_n 0, 1) := by decide +kernel
theorem dX4_draw_37 : decode cX4_draw 37 = .ok (.iload_n 1, 1) := by decide +kernel
theorem dX4_draw_38 : decode cX4_draw 38 = .ok (.invokevirtual 171, 3) := by decide +kernel
theorem dX4_draw_41 : decode cX4_draw 41 = .ok (.goto 4, 3) := by decide +kernel
theorem dX4_draw_44 : decode cX4_draw 44 = .ok (.iconst 0, 1) := by decide +kernel
theorem dX4_draw_45 : decode cX4_draw 45 = .ok (.ireturn, 1) := by decide +kernel
theorem dX4_drawn__0 : decode cX4_drawn_ 0 = .ok (.aload_n 0, 1) := by decide +kernel
theorem dX4_drawn__1 : decode cX4_drawn_ 1 = .ok (.aload_n 0, 1) := by decide +kernel
theorem dX4_drawn__2 : decode cX4_drawn_ 2 = .ok (.iload_n 1, 1) := by decide +kernel
theorem dX4_drawn__3 : decode cX4_drawn_ 3 = .ok (.invokevirtual 129, 3) := by decide +kernel
theorem dX4_drawn__6 : decode cX4_drawn_ 6 = .ok (.ifCond .eq 15, 3) := by decide +kernel
theorem dX4_drawn__9 : decode cX4_drawn_ 9 = .ok (.aload_n 0, 1) := by decide +kernel
theorem dX4_drawn__10 : decode cX4_drawn_ 10 = .ok (.iload_n 2, 1) := by decide +kernel
theorem dX4_drawn__11 : decode cX4_drawn_ 11 = .ok (.invokevirtual 135, 3) := by decide +kernel
theorem dX4_drawn__14 : decode cX4_drawn_ 14 = .ok (.ifCond .eq 7, 3) := by decide +kernel
theorem dX4_drawn__17 : decode cX4_drawn_ 17 = .ok (.iconst 0, 1) := by decide +kernel
theorem dX4_drawn__18 : decode cX4_drawn_ 18 = .ok (.goto 4, 3) := by decide +kernel
theorem dX4_drawn__21 : decode cX4_drawn_ 21 = .ok (.iconst 1, 1) := by decide +kernel
theorem dX4_drawn__22 : decode cX4_drawn_ 22 = .ok (.invokevirtual 113, 3) := by decide +kernel
theorem dX4_drawn__25 : decode cX4_drawn_ 25 = .ok (.ifCond .eq 16, 3) := by decide +kernel
theorem dX4_drawn__28 : decode cX4_drawn_ 28 = .ok (.aload_n 0, 1) := by decide +kernel
theorem dX4_drawn__29 : decode cX4_drawn_ 29 = .ok (.getfield 68, 3) := by decide +kernel
theorem dX4_drawn__32 : decode cX4_drawn_ 32 = .ok (.iload_n 1, 1) := by decide +kernel
theorem dX4_drawn__33 : decode cX4_drawn_ 33 = .ok (.iload_n 2, 1) := by decide +kernel
theorem dX4_drawn__34 : decode cX4_drawn_ 34 = .ok (.invokestatic 118, 3) := by decide +kernel
theorem dX4_drawn__37 : decode cX4_drawn_ 37 = .ok (.iaload, 1) := by decide +kernel
theorem dX4_drawn__38 : decode cX4_drawn_ 38 = .ok (.goto 4, 3) := by decide +kernel
theorem dX4_drawn__41 : decode cX4_drawn_ 41 = .ok (.iconst 0, 1) := by decide +kernel
theorem dX4_drawn__42 : decode cX4_drawn_ 42 = .ok (.ireturn, 1) := by decide +kernel
theorem dX4_rides_0 : decode cX4_rides 0 = .ok (.aload_n 0, 1) := by decide +kernel
theorem dX4_rides_1 : decode cX4_rides 1 = .ok (.getfield 68, 3) := by decide +kernel
theorem dX4_rides_4 : decode cX4_rides 4 = .ok (.iload_n 1, 1) := by decide +kernel
theorem dX4_rides_5 : decode cX4_rides 5 = .ok (.iaload, 1) := by decide +kernel
theorem dX4_rides_6 : decode cX4_rides 6 = .ok (.istore 5, 2) := by decide +kernel
theorem dX4_rides_8 : decode cX4_rides 8 = .ok (.iload_n 2, 1) := by decide +kernel
theorem dX4_rides_9 : decode cX4_rides 9 = .ok (.bipush 26, 2) := by decide +kernel
theorem dX4_rides_11 : decode cX4_rides 11 = .ok (.irem, 1) := by decide +kernel
theorem dX4_rides_12 : decode cX4_rides 12 = .ok (.iload_n 2, 1) := by decide +kernel
theorem dX4_rides_13 : decode cX4_rides 13 = .ok (.bipush 26, 2) := by decide +kernel
theorem dX4_rides_15 : decode cX4_rides 15 = .ok (.idiv, 1) := by decide +kernel
theorem dX4_rides_16 : decode cX4_rides 16 = .ok (.bipush 26, 2) := by decide +kernel
theorem dX4_rides_18 : decode cX4_rides 18 = .ok (.irem, 1) := by decide +kernel
theorem dX4_rides_19 : decode cX4_rides 19 = .ok (.iadd, 1) := by decide +kernel
theorem dX4_rides_20 : decode cX4_rides 20 = .ok (.iload_n 2, 1) := by decide +kernel
theorem dX4_rides_21 : decode cX4_rides 21 = .ok (.sipush 676, 3) := by decide +kernel
theorem dX4_rides_24 : decode cX4_rides 24 = .ok (.idiv, 1) := by decide +kernel
theorem dX4_rides_25 : decode cX4_rides 25 = .ok (.bipush 26, 2) := by decide +kernel
theorem dX4_rides_27 : decode cX4_rides 27 = .ok (.irem, 1) := by decide +kernel
theorem dX4_rides_28 : decode cX4_rides 28 = .ok (.iadd, 1) := by decide +kernel
theorem dX4_rides_29 : decode cX4_rides 29 = .ok (.iload_n 2, 1) := by decide +kernel
theorem dX4_rides_30 : decode cX4_rides 30 = .ok (.sipush 17576, 3) := by decide +kernel
theorem dX4_rides_33 : decode cX4_rides 33 = .ok (.idiv, 1) := by decide +kernel
theorem dX4_rides_34 : decode cX4_rides 34 = .ok (.iadd, 1) := by decide +kernel
theorem dX4_rides_35 : decode cX4_rides 35 = .ok (.istore 6, 2) := by decide +kernel
theorem dX4_rides_37 : decode cX4_rides 37 = .ok (.iload_n 2, 1) := by decide +kernel
theorem dX4_rides_38 : decode cX4_rides 38 = .ok (.bipush 26, 2) := by decide +kernel
theorem dX4_rides_40 : decode cX4_rides 40 = .ok (.idiv, 1) := by decide +kernel
theorem dX4_rides_41 : decode cX4_rides 41 = .ok (.bipush 26, 2) := by decide +kernel
theorem dX4_rides_43 : decode cX4_rides 43 = .ok (.irem, 1) := by decide +kernel
theorem dX4_rides_44 : decode cX4_rides 44 = .ok (.iload_n 2, 1) := by decide +kernel
theorem dX4_rides_45 : decode cX4_rides 45 = .ok (.sipush 17576, 3) := by decide +kernel
theorem dX4_rides_48 : decode cX4_rides 48 = .ok (.idiv, 1) := by decide +kernel
theorem dX4_rides_49 : decode cX4_rides 49 = .ok (.iadd, 1) := by decide +kernel
theorem dX4_rides_50 : decode cX4_rides 50 = .ok (.istore 7, 2) := by decide +kernel
theorem dX4_rides_52 : decode cX4_rides 52 = .ok (.iload 4, 2) := by decide +kernel
theorem dX4_rides_54 : decode cX4_rides 54 = .ok (.ifCond .ne 24, 3) := by decide +kernel
theorem dX4_rides_57 : decode cX4_rides 57 = .ok (.iload_n 3, 1) := by decide +kernel
theorem dX4_rides_58 : decode cX4_rides 58 = .ok (.sipush 1000, 3) := by decide +kernel
theorem dX4_rides_61 : decode cX4_rides 61 = .ok (.idiv, 1) := by decide +kernel
theorem dX4_rides_62 : decode cX4_rides 62 = .ok (.iload_n 3, 1) := by decide +kernel
theorem dX4_rides_63 : decode cX4_rides 63 = .ok (.sipush 1000, 3) := by decide +kernel
theorem dX4_rides_66 : decode cX4_rides 66 = .ok (.irem, 1) := by decide +kernel
theorem dX4_rides_67 : decode cX4_rides 67 = .ok (.iadd, 1) := by decide +kernel
theorem dX4_rides_68 : decode cX4_rides 68 = .ok (.sipush 1600, 3) := by decide +kernel
theorem dX4_rides_71 : decode cX4_rides 71 = .ok (.if_icmp .lt 7, 3) := by decide +kernel
theorem dX4_rides_74 : decode cX4_rides 74 = .ok (.iconst 1, 1) := by decide +kernel
theorem dX4_rides_75 : decode cX4_rides 75 = .ok (.goto 4, 3) := by decide +kernel
theorem dX4_rides_78 : decode cX4_rides 78 = .ok (.iconst 0, 1) := by decide +kernel
theorem dX4_rides_79 : decode cX4_rides 79 = .ok (.istore 8, 2) := by decide +kernel
theorem dX4_rides_81 : decode cX4_rides 81 = .ok (.aload_n 0, 1) := by decide +kernel
theorem dX4_rides_82 : decode cX4_rides 82 = .ok (.getfield 13, 3) := by decide +kernel
theorem dX4_rides_85 : decode cX4_rides 85 = .ok (.iload 5, 2) := by decide +kernel
theorem dX4_rides_87 : decode cX4_rides 87 = .ok (.dup2, 1) := by decide +kernel
theorem dX4_rides_88 : decode cX4_rides 88 = .ok (.iaload, 1) := by decide +kernel
theorem dX4_rides_89 : decode cX4_rides 89 = .ok (.iconst 1, 1) := by decide +kernel
theorem dX4_rides_90 : decode cX4_rides 90 = .ok (.iadd, 1) := by decide +kernel
theorem dX4_rides_91 : decode cX4_rides 91 = .ok (.iastore, 1) := by decide +kernel
theorem dX4_rides_92 : decode cX4_rides 92 = .ok (.aload_n 0, 1) := by decide +kernel
theorem dX4_rides_93 : decode cX4_rides 93 = .ok (.getfield 16, 3) := by decide +kernel
theorem dX4_rides_96 : decode cX4_rides 96 = .ok (.iload 5, 2) := by decide +kernel
theorem dX4_rides_98 : decode cX4_rides 98 = .ok (.dup2, 1) := by decide +kernel
theorem dX4_rides_99 : decode cX4_rides 99 = .ok (.iaload, 1) := by decide +kernel
theorem dX4_rides_100 : decode cX4_rides 100 = .ok (.iload 8, 2) := by decide +kernel
theorem dX4_rides_102 : decode cX4_rides 102 = .ok (.ifCond .eq 7, 3) := by decide +kernel
theorem dX4_rides_105 : decode cX4_rides 105 = .ok (.iconst 0, 1) := by decide +kernel
theorem dX4_rides_106 : decode cX4_rides 106 = .ok (.goto 4, 3) := by decide +kernel
theorem dX4_rides_109 : decode cX4_rides 109 = .ok (.iconst 1, 1) := by decide +kernel
theorem dX4_rides_110 : decode cX4_rides 110 = .ok (.iadd, 1) := by decide +kernel
theorem dX4_rides_111 : decode cX4_rides 111 = .ok (.iastore, 1) := by decide +kernel
theorem dX4_rides_112 : decode cX4_rides 112 = .ok (.aload_n 0, 1) := by decide +kernel
theorem dX4_rides_113 : decode cX4_rides 113 = .ok (.getfield 19, 3) := by decide +kernel
theorem dX4_rides_116 : decode cX4_rides 116 = .ok (.iload 5, 2) := by decide +kernel
theorem dX4_rides_118 : decode cX4_rides 118 = .ok (.dup2, 1) := by decide +kernel
theorem dX4_rides_119 : decode cX4_rides 119 = .ok (.iaload, 1) := by decide +kernel
theorem dX4_rides_120 : decode cX4_rides 120 = .ok (.iload 7, 2) := by decide +kernel
theorem dX4_rides_122 : decode cX4_rides 122 = .ok (.iadd, 1) := by decide +kernel
theorem dX4_rides_123 : decode cX4_rides 123 = .ok (.iastore, 1) := by decide +kernel
theorem dX4_rides_124 : decode cX4_rides 124 = .ok (.aload_n 0, 1) := by decide +kernel
theorem dX4_rides_125 : decode cX4_rides 125 = .ok (.getfield 71, 3) := by decide +kernel
theorem dX4_rides_128 : decode cX4_rides 128 = .ok (.iload_n 1, 1) := by decide +kernel
theorem dX4_rides_129 : decode cX4_rides 129 = .ok (.iconst 0, 1) := by decide +kernel
theorem dX4_rides_130 : decode cX4_rides 130 = .ok (.bastore, 1) := by decide +kernel
theorem dX4_rides_131 : decode cX4_rides 131 = .ok (.aload_n 0, 1) := by decide +kernel
theorem dX4_rides_132 : decode cX4_rides 132 = .ok (.getfield 81, 3) := by decide +kernel
theorem dX4_rides_135 : decode cX4_rides 135 = .ok (.iload_n 1, 1) := by decide +kernel
theorem dX4_rides_136 : decode cX4_rides 136 = .ok (.iload 8, 2) := by decide +kernel
theorem dX4_rides_138 : decode cX4_rides 138 = .ok (.bastore, 1) := by decide +kernel
theorem dX4_rides_139 : decode cX4_rides 139 = .ok (.aload_n 0, 1) := by decide +kernel
theorem dX4_rides_140 : decode cX4_rides 140 = .ok (.getfield 84, 3) := by decide +kernel
theorem dX4_rides_143 : decode cX4_rides 143 = .ok (.iload_n 1, 1) := by decide +kernel
theorem dX4_rides_144 : decode cX4_rides 144 = .ok (.iload 8, 2) := by decide +kernel
theorem dX4_rides_146 : decode cX4_rides 146 = .ok (.ifCond .eq 8, 3) := by decide +kernel
theorem dX4_rides_149 : decode cX4_rides 149 = .ok (.iload 6, 2) := by decide +kernel
theorem dX4_rides_151 : decode cX4_rides 151 = .ok (.goto 4, 3) := by decide +kernel
theorem dX4_rides_154 : decode cX4_rides 154 = .ok (.iconst 0, 1) := by decide +kernel
theorem dX4_rides_155 : decode cX4_rides 155 = .ok (.iastore, 1) := by decide +kernel
theorem dX4_rides_156 : decode cX4_rides 156 = .ok (.aload_n 0, 1) := by decide +kernel
theorem dX4_rides_157 : decode cX4_rides 157 = .ok (.getfield 78, 3) := by decide +kernel
theorem dX4_rides_160 : decode cX4_rides 160 = .ok (.iload_n 1, 1) := by decide +kernel
theorem dX4_rides_161 : decode cX4_rides 161 = .ok (.iload 8, 2) := by decide +kernel
theorem dX4_rides_163 : decode cX4_rides 163 = .ok (.ifCond .eq 23, 3) := by decide +kernel
theorem dX4_rides_166 : decode cX4_rides 166 = .ok (.iload 7, 2) := by decide +kernel
theorem dX4_rides_168 : decode cX4_rides 168 = .ok (.bipush 20, 2) := by decide +kernel
theorem dX4_rides_170 : decode cX4_rides 170 = .ok (.if_icmp .ge 16, 3) := by decide +kernel
theorem dX4_rides_173 : decode cX4_rides 173 = .ok (.aload_n 0, 1) := by decide +kernel
theorem dX4_rides_174 : decode cX4_rides 174 = .ok (.getfield 75, 3) := by decide +kernel
theorem dX4_rides_177 : decode cX4_rides 177 = .ok (.iload_n 1, 1) := by decide +kernel
theorem dX4_rides_178 : decode cX4_rides 178 = .ok (.baload, 1) := by decide +kernel
theorem dX4_rides_179 : decode cX4_rides 179 = .ok (.ifCond .ne 7, 3) := by decide +kernel
theorem dX4_rides_182 : decode cX4_rides 182 = .ok (.iconst 1, 1) := by decide +kernel
theorem dX4_rides_183 : decode cX4_rides 183 = .ok (.goto 4, 3) := by decide +kernel
theorem dX4_rides_186 : decode cX4_rides 186 = .ok (.iconst 0, 1) := by decide +kernel
theorem dX4_rides_187 : decode cX4_rides 187 = .ok (.bastore, 1) := by decide +kernel
theorem dX4_rides_188 : decode cX4_rides 188 = .ok (.aload_n 0, 1) := by decide +kernel
theorem dX4_rides_189 : decode cX4_rides 189 = .ok (.getfield 84, 3) := by decide +kernel
theorem dX4_rides_192 : decode cX4_rides 192 = .ok (.iload_n 1, 1) := by decide +kernel
theorem dX4_rides_193 : decode cX4_rides 193 = .ok (.iaload, 1) := by decide +kernel
theorem dX4_rides_194 : decode cX4_rides 194 = .ok (.ireturn, 1) := by decide +kernel
theorem dX4_ride_0 : decode cX4_ride 0 = .ok (.aload_n 0, 1) := by decide +kernel
theorem dX4_ride_1 : decode cX4_ride 1 = .ok (.iload_n 1, 1) := by decide +kernel
theorem dX4_ride_2 : decode cX4_ride 2 = .ok (.invokevirtual 129, 3) := by decide +kernel
theorem dX4_ride_5 : decode cX4_ride 5 = .ok (.ifCond .eq 15, 3) := by decide +kernel
theorem dX4_ride_8 : decode cX4_ride 8 = .ok (.aload_n 0, 1) := by decide +kernel
theorem dX4_ride_9 : decode cX4_ride 9 = .ok (.iload_n 2, 1) := by decide +kernel
theorem dX4_ride_10 : decode cX4_ride 10 = .ok (.invokevirtual 135, 3) := by decide +kernel
theorem dX4_ride_13 : decode cX4_ride 13 = .ok (.ifCond .eq 7, 3) := by decide +kernel
theorem dX4_ride_16 : decode cX4_ride 16 = .ok (.iconst 1, 1) := by decide +kernel
theorem dX4_ride_17 : decode cX4_ride 17 = .ok (.goto 4, 3) := by decide +kernel
theorem dX4_ride_20 : decode cX4_ride 20 = .ok (.iconst 0, 1) := by decide +kernel
theorem dX4_ride_21 : decode cX4_ride 21 = .ok (.istore 6, 2) := by decide +kernel
theorem dX4_ride_23 : decode cX4_ride 23 = .ok (.iload_n 3, 1) := by decide +kernel
theorem dX4_ride_24 : decode cX4_ride 24 = .ok (.iconst 0, 1) := by decide +kernel
theorem dX4_ride_25 : decode cX4_ride 25 = .ok (.ldc 174, 2) := by decide +kernel
theorem dX4_ride_27 : decode cX4_ride 27 = .ok (.invokestatic 103, 3) := by decide +kernel
theorem dX4_ride_30 : decode cX4_ride 30 = .ok (.ifCond .eq 18, 3) := by decide +kernel
theorem dX4_ride_33 : decode cX4_ride 33 = .ok (.iload 4, 2) := by decide +kernel
theorem dX4_ride_35 : decode cX4_ride 35 = .ok (.iconst 0, 1) := by decide +kernel
theorem dX4_ride_36 : decode cX4_ride 36 = .ok (.ldc 175, 2) := by decide +kernel
theorem dX4_ride_38 : decode cX4_ride 38 = .ok (.invokestatic 103, 3) := by decide +kernel
theorem dX4_ride_41 : decode cX4_ride 41 = .ok (.ifCond .eq 7, 3) := by decide +kernel
theorem dX4_ride_44 : decode cX4_ride 44 = .ok (.iconst 1, 1) := by decide +kernel
theorem dX4_ride_45 : decode cX4_ride 45 = .ok (.goto 4, 3) := by decide +kernel
theorem dX4_ride_48 : decode cX4_ride 48 = .ok (.iconst 0, 1) := by decide +kernel
theorem dX4_ride_49 : decode cX4_ride 49 = .ok (.istore 7, 2) := by decide +kernel
theorem dX4_ride_51 : decode cX4_ride 51 = .ok (.iload 6, 2) := by decide +kernel
theorem dX4_ride_53 : decode cX4_ride 53 = .ok (.ifCond .eq 11, 3) := by decide +kernel
theorem dX4_ride_56 : decode cX4_ride 56 = .ok (.iload_n 1, 1) := by decide +kernel
theorem dX4_ride_57 : decode cX4_ride 57 = .ok (.iload_n 2, 1) := by decide +kernel
theorem dX4_ride_58 : decode cX4_ride 58 = .ok (.invokestatic 118, 3) := by decide +kernel
theorem dX4_ride_61 : decode cX4_ride 61 = .ok (.goto 4, 3) := by decide +kernel
theorem dX4_ride_64 : decode cX4_ride 64 = .ok (.iconst 0, 1) := by decide +kernel
theorem dX4_ride_65 : decode cX4_ride 65 = .ok (.istore 8, 2) := by decide +kernel
theorem dX4_ride_67 : decode cX4_ride 67 = .ok (.aload_n 0, 1) := by decide +kernel
theorem dX4_ride_68 : decode cX4_ride 68 = .ok (.iload 6, 2) := by decide +kernel
theorem dX4_ride_70 : decode cX4_ride 70 = .ok (.ifCond .ne 7, 3) := by decide +kernel
theorem dX4_ride_73 : decode cX4_ride 73 = .ok (.iconst 1, 1) := by decide +kernel
theorem dX4_ride_74 : decode cX4_ride 74 = .ok (.goto 37, 3) := by decide +kernel
theorem dX4_ride_77 : decode cX4_ride 77 = .ok (.iload 7, 2) := by decide +kernel
theorem dX4_ride_79 : decode cX4_ride 79 = .ok (.ifCond .ne 7, 3) := by decide +kernel
theorem dX4_ride_82 : decode cX4_ride 82 = .ok (.iconst 2, 1) := by decide +kernel
theorem dX4_ride_83 : decode cX4_ride 83 = .ok (.goto 28, 3) := by decide +kernel
theorem dX4_ride_86 : decode cX4_ride 86 = .ok (.aload_n 0, 1) := by decide +kernel
theorem dX4_ride_87 : decode cX4_ride 87 = .ok (.getfield 47, 3) := by decide +kernel
theorem dX4_ride_90 : decode cX4_ride 90 = .ok (.iload_n 1, 1) := by decide +kernel
theorem dX4_ride_91 : decode cX4_ride 91 = .ok (.iaload, 1) := by decide +kernel
theorem dX4_ride_92 : decode cX4_ride 92 = .ok (.iconst 2, 1) := by decide +kernel
theorem dX4_ride_93 : decode cX4_ride 93 = .ok (.if_icmp .ne 13, 3) := by decide +kernel
theorem dX4_ride_96 : decode cX4_ride 96 = .ok (.aload_n 0, 1) := by decide +kernel
theorem dX4_ride_97 : decode cX4_ride 97 = .ok (.getfield 71, 3) := by decide +kernel
theorem dX4_ride_100 : decode cX4_ride 100 = .ok (.iload 8, 2) := by decide +kernel
theorem dX4_ride_102 : decode cX4_ride 102 = .ok (.baload, 1) := by decide +kernel
theorem dX4_ride_103 : decode cX4_ride 103 = .ok (.ifCond .ne 7, 3) := by decide +kernel
theorem dX4_ride_106 : decode cX4_ride 106 = .ok (.iconst 3, 1) := by decide +kernel
theorem dX4_ride_107 : decode cX4_ride 107 = .ok (.goto 4, 3) := by decide +kernel
theorem dX4_ride_110 : decode cX4_ride 110 = .ok (.iconst 0, 1) := by decide +kernel
theorem dX4_ride_111 : decode cX4_ride 111 = .ok (.invokevirtual 113, 3) := by decide +kernel
theorem dX4_ride_114 : decode cX4_ride 114 = .ok (.ifCond .eq 17, 3) := by decide +kernel
theorem dX4_ride_117 : decode cX4_ride 117 = .ok (.aload_n 0, 1) := by decide +kernel
theorem dX4_ride_118 : decode cX4_ride 118 = .ok (.iload 8, 2) := by decide +kernel
theorem dX4_ride_120 : decode cX4_ride 120 = .ok (.iload_n 3, 1) := by decide +kernel
theorem dX4_ride_121 : decode cX4_ride 121 = .ok (.iload 4, 2) := by decide +kernel
theorem dX4_ride_123 : decode cX4_ride 123 = .ok (.iload 5, 2) := by decide +kernel
theorem dX4_ride_125 : decode cX4_ride 125 = .ok (.invokevirtual 176, 3) := by decide +kernel
theorem dX4_ride_128 : decode cX4_ride 128 = .ok (.goto 4, 3) := by decide +kernel
theorem dX4_ride_131 : decode cX4_ride 131 = .ok (.iconst 0, 1) := by decide +kernel
theorem dX4_ride_132 : decode cX4_ride 132 = .ok (.ireturn, 1) := by decide +kernel
theorem dX4_isOffered_0 : decode cX4_isOffered 0 = .ok (.aload_n 0, 1) := by decide +kernel
theorem dX4_isOffered_1 : decode cX4_isOffered 1 = .ok (.aload_n 0, 1) := by decide +kernel
theorem dX4_isOffered_2 : decode cX4_isOffered 2 = .ok (.iload_n 1, 1) := by decide +kernel
theorem dX4_isOffered_3 : decode cX4_isOffered 3 = .ok (.invokevirtual 129, 3) := by decide +kernel
theorem dX4_isOffered_6 : decode cX4_isOffered 6 = .ok (.ifCond .eq 15, 3) := by decide +kernel
theorem dX4_isOffered_9 : decode cX4_isOffered 9 = .ok (.aload_n 0, 1) := by decide +kernel
theorem dX4_isOffered_10 : decode cX4_isOffered 10 = .ok (.iload_n 2, 1) := by decide +kernel
theorem dX4_isOffered_11 : decode cX4_isOffered 11 = .ok (.invokevirtual 135, 3) := by decide +kernel
theorem dX4_isOffered_14 : decode cX4_isOffered 14 = .ok (.ifCond .eq 7, 3) := by decide +kernel
theorem dX4_isOffered_17 : decode cX4_isOffered 17 = .ok (.iconst 0, 1) := by decide +kernel
theorem dX4_isOffered_18 : decode cX4_isOffered 18 = .ok (.goto 4, 3) := by decide +kernel
theorem dX4_isOffered_21 : decode cX4_isOffered 21 = .ok (.iconst 1, 1) := by decide +kernel
theorem dX4_isOffered_22 : decode cX4_isOffered 22 = .ok (.invokevirtual 113, 3) := by decide +kernel
theorem dX4_isOffered_25 : decode cX4_isOffered 25 = .ok (.ifCond .eq 20, 3) := by decide +kernel
theorem dX4_isOffered_28 : decode cX4_isOffered 28 = .ok (.aload_n 0, 1) := by decide +kernel
theorem dX4_isOffered_29 : decode cX4_isOffered 29 = .ok (.getfield 78, 3) := by decide +kernel
theorem dX4_isOffered_32 : decode cX4_isOffered 32 = .ok (.iload_n 1, 1) := by decide +kernel
theorem dX4_isOffered_33 : decode cX4_isOffered 33 = .ok (.iload_n 2, 1) := by decide +kernel
theorem dX4_isOffered_34 : decode cX4_isOffered 34 = .ok (.invokestatic 118, 3) := by decide +kernel
theorem dX4_isOffered_37 : decode cX4_isOffered 37 = .ok (.baload, 1) := by decide +kernel
theorem dX4_isOffered_38 : decode cX4_isOffered 38 = .ok (.ifCond .eq 7, 3) := by decide +kernel
theorem dX4_isOffered_41 : decode cX4_isOffered 41 = .ok (.iconst 1, 1) := by decide +kernel
theorem dX4_isOffered_42 : decode cX4_isOffered 42 = .ok (.goto 4, 3) := by decide +kernel
theorem dX4_isOffered_45 : decode cX4_isOffered 45 = .ok (.iconst 0, 1) := by decide +kernel
theorem dX4_isOffered_46 : decode cX4_isOffered 46 = .ok (.ireturn, 1) := by decide +kernel
theorem dX4_answered_0 : decode cX4_answered 0 = .ok (.iload_n 1, 1) := by decide +kernel
theorem dX4_answered_1 : decode cX4_answered 1 = .ok (.iload_n 2, 1) := by decide +kernel
theorem dX4_answered_2 : decode cX4_answered 2 = .ok (.invokestatic 118, 3) := by decide +kernel
theorem dX4_answered_5 : decode cX4_answered 5 = .ok (.istore 4, 2) := by decide +kernel
theorem dX4_answered_7 : decode cX4_answered 7 = .ok (.aload_n 0, 1) := by decide +kernel
theorem dX4_answered_8 : decode cX4_answered 8 = .ok (.getfield 78, 3) := by decide +kernel
theorem dX4_answered_11 : decode cX4_answered 11 = .ok (.iload 4, 2) := by decide +kernel
theorem dX4_answered_13 : decode cX4_answered 13 = .ok (.iconst 0, 1) := by decide +kernel
theorem dX4_answered_14 : decode cX4_answered 14 = .ok (.bastore, 1) := by decide +kernel
theorem dX4_answered_15 : decode cX4_answered 15 = .ok (.iload_n 3, 1) := by decide +kernel
theorem dX4_answered_16 : decode cX4_answered 16 = .ok (.ifCond .ne 5, 3) := by decide +kernel
theorem dX4_answered_19 : decode cX4_answered 19 = .ok (.iconst (-1), 1) := by decide +kernel
theorem dX4_answered_20 : decode cX4_answered 20 = .ok (.ireturn, 1) := by decide +kernel
theorem dX4_answered_21 : decode cX4_answered 21 = .ok (.aload_n 0, 1) := by decide +kernel
theorem dX4_answered_22 : decode cX4_answered 22 = .ok (.getfield 84, 3) := by decide +kernel
theorem dX4_answered_25 : decode cX4_answered 25 = .ok (.iload 4, 2) := by decide +kernel
theorem dX4_answered_27 : decode cX4_answered 27 = .ok (.iconst (-1), 1) := by decide +kernel
theorem dX4_answered_28 : decode cX4_answered 28 = .ok (.iastore, 1) := by decide +kernel
theorem dX4_answered_29 : decode cX4_answered 29 = .ok (.aload_n 0, 1) := by decide +kernel
theorem dX4_answered_30 : decode cX4_answered 30 = .ok (.getfield 81, 3) := by decide +kernel
theorem dX4_answered_33 : decode cX4_answered 33 = .ok (.iload 4, 2) := by decide +kernel
theorem dX4_answered_35 : decode cX4_answered 35 = .ok (.iconst 0, 1) := by decide +kernel
theorem dX4_answered_36 : decode cX4_answered 36 = .ok (.bastore, 1) := by decide +kernel
theorem dX4_answered_37 : decode cX4_answered 37 = .ok (.aload_n 0, 1) := by decide +kernel
theorem dX4_answered_38 : decode cX4_answered 38 = .ok (.getfield 75, 3) := by decide +kernel
theorem dX4_answered_41 : decode cX4_answered 41 = .ok (.iload 4, 2) := by decide +kernel
theorem dX4_answered_43 : decode cX4_answered 43 = .ok (.iconst 1, 1) := by decide +kernel
theorem dX4_answered_44 : decode cX4_answered 44 = .ok (.bastore, 1) := by decide +kernel
theorem dX4_answered_45 : decode cX4_answered 45 = .ok (.aload_n 0, 1) := by decide +kernel
theorem dX4_answered_46 : decode cX4_answered 46 = .ok (.iload_n 1, 1) := by decide +kernel
theorem dX4_answered_47 : decode cX4_answered 47 = .ok (.iload_n 2, 1) := by decide +kernel
theorem dX4_answered_48 : decode cX4_answered 48 = .ok (.invokevirtual 168, 3) := by decide +kernel
theorem dX4_answered_51 : decode cX4_answered 51 = .ok (.aload_n 0, 1) := by decide +kernel
theorem dX4_answered_52 : decode cX4_answered 52 = .ok (.getfield 68, 3) := by decide +kernel
theorem dX4_answered_55 : decode cX4_answered 55 = .ok (.iload 4, 2) := by decide +kernel
theorem dX4_answered_57 : decode cX4_answered 57 = .ok (.iaload, 1) := by decide +kernel
theorem dX4_answered_58 : decode cX4_answered 58 = .ok (.ireturn, 1) := by decide +kernel
theorem dX4_answer_0 : decode cX4_answer 0 = .ok (.aload_n 0, 1) := by decide +kernel
theorem dX4_answer_1 : decode cX4_answer 1 = .ok (.iload_n 1, 1) := by decide +kernel
theorem dX4_answer_2 : decode cX4_answer 2 = .ok (.invokevirtual 129, 3) := by decide +kernel
theorem dX4_answer_5 : decode cX4_answer 5 = .ok (.ifCond .eq 15, 3) := by decide +kernel
theorem dX4_answer_8 : decode cX4_answer 8 = .ok (.aload_n 0, 1) := by decide +kernel
theorem dX4_answer_9 : decode cX4_answer 9 = .ok (.iload_n 2, 1) := by decide +kernel
theorem dX4_answer_10 : decode cX4_answer 10 = .ok (.invokevirtual 135, 3) := by decide +kernel
theorem dX4_answer_13 : decode cX4_answer 13 = .ok (.ifCond .eq 7, 3) := by decide +kernel
theorem dX4_answer_16 : decode cX4_answer 16 = .ok (.iconst 1, 1) := by decide +kernel
theorem dX4_answer_17 : decode cX4_answer 17 = .ok (.goto 4, 3) := by decide +kernel
theorem dX4_answer_20 : decode cX4_answer 20 = .ok (.iconst 0, 1) := by decide +kernel
theorem dX4_answer_21 : decode cX4_answer 21 = .ok (.istore 4, 2) := by decide +kernel
theorem dX4_answer_23 : decode cX4_answer 23 = .ok (.aload_n 0, 1) := by decide +kernel
theorem dX4_answer_24 : decode cX4_answer 24 = .ok (.iload 4, 2) := by decide +kernel
theorem dX4_answer_26 : decode cX4_answer 26 = .ok (.ifCond .ne 7, 3) := by decide +kernel
theorem dX4_answer_29 : decode cX4_answer 29 = .ok (.iconst 1, 1) := by decide +kernel
theorem dX4_answer_30 : decode cX4_answer 30 = .ok (.goto 21, 3) := by decide +kernel
theorem dX4_answer_33 : decode cX4_answer 33 = .ok (.aload_n 0, 1) := by decide +kernel
theorem dX4_answer_34 : decode cX4_answer 34 = .ok (.getfield 78, 3) := by decide +kernel
theorem dX4_answer_37 : decode cX4_answer 37 = .ok (.iload_n 1, 1) := by decide +kernel
theorem dX4_answer_38 : decode cX4_answer 38 = .ok (.iload_n 2, 1) := by decide +kernel
theorem dX4_answer_39 : decode cX4_answer 39 = .ok (.invokestatic 118, 3) := by decide +kernel
theorem dX4_answer_42 : decode cX4_answer 42 = .ok (.baload, 1) := by decide +kernel
theorem dX4_answer_43 : decode cX4_answer 43 = .ok (.ifCond .ne 7, 3) := by decide +kernel
theorem dX4_answer_46 : decode cX4_answer 46 = .ok (.iconst 2, 1) := by decide +kernel
theorem dX4_answer_47 : decode cX4_answer 47 = .ok (.goto 4, 3) := by decide +kernel
theorem dX4_answer_50 : decode cX4_answer 50 = .ok (.iconst 0, 1) := by decide +kernel
theorem dX4_answer_51 : decode cX4_answer 51 = .ok (.invokevirtual 113, 3) := by decide +kernel
theorem dX4_answer_54 : decode cX4_answer 54 = .ok (.ifCond .eq 13, 3) := by decide +kernel
theorem dX4_answer_57 : decode cX4_answer 57 = .ok (.aload_n 0, 1) := by decide +kernel
theorem dX4_answer_58 : decode cX4_answer 58 = .ok (.iload_n 1, 1) := by decide +kernel
theorem dX4_answer_59 : decode cX4_answer 59 = .ok (.iload_n 2, 1) := by decide +kernel
theorem dX4_answer_60 : decode cX4_answer 60 = .ok (.iload_n 3, 1) := by decide +kernel
theorem dX4_answer_61 : decode cX4_answer 61 = .ok (.invokevirtual 180, 3) := by decide +kernel
theorem dX4_answer_64 : decode cX4_answer 64 = .ok (.goto 4, 3) := by decide +kernel
theorem dX4_answer_67 : decode cX4_answer 67 = .ok (.iconst 0, 1) := by decide +kernel
theorem dX4_answer_68 : decode cX4_answer 68 = .ok (.ireturn, 1) := by decide +kernel
theorem dX4_score_0 : decode cX4_score 0 = .ok (.aload_n 0, 1) := by decide +kernel
theorem dX4_score_1 : decode cX4_score 1 = .ok (.aload_n 0, 1) := by decide +kernel
theorem dX4_score_2 : decode cX4_score 2 = .ok (.iload_n 1, 1) := by decide +kernel
theorem dX4_score_3 : decode cX4_score 3 = .ok (.invokevirtual 129, 3) := by decide +kernel
theorem dX4_score_6 : decode cX4_score 6 = .ok (.ifCond .eq 15, 3) := by decide +kernel
theorem dX4_score_9 : decode cX4_score 9 = .ok (.aload_n 0, 1) := by decide +kernel
theorem dX4_score_10 : decode cX4_score 10 = .ok (.iload_n 2, 1) := by decide +kernel
theorem dX4_score_11 : decode cX4_score 11 = .ok (.invokevirtual 135, 3) := by decide +kernel
theorem dX4_score_14 : decode cX4_score 14 = .ok (.ifCond .eq 7, 3) := by decide +kernel
theorem dX4_score_17 : decode cX4_score 17 = .ok (.iconst 0, 1) := by decide +kernel
theorem dX4_score_18 : decode cX4_score 18 = .ok (.goto 4, 3) := by decide +kernel
theorem dX4_score_21 : decode cX4_score 21 = .ok (.iconst 1, 1) := by decide +kernel
theorem dX4_score_22 : decode cX4_score 22 = .ok (.invokevirtual 113, 3) := by decide +kernel
theorem dX4_score_25 : decode cX4_score 25 = .ok (.ifCond .eq 16, 3) := by decide +kernel
theorem dX4_score_28 : decode cX4_score 28 = .ok (.aload_n 0, 1) := by decide +kernel
theorem dX4_score_29 : decode cX4_score 29 = .ok (.getfield 84, 3) := by decide +kernel
theorem dX4_score_32 : decode cX4_score 32 = .ok (.iload_n 1, 1) := by decide +kernel
theorem dX4_score_33 : decode cX4_score 33 = .ok (.iload_n 2, 1) := by decide +kernel
theorem dX4_score_34 : decode cX4_score 34 = .ok (.invokestatic 118, 3) := by decide +kernel
theorem dX4_score_37 : decode cX4_score 37 = .ok (.iaload, 1) := by decide +kernel
theorem dX4_score_38 : decode cX4_score 38 = .ok (.goto 4, 3) := by decide +kernel
theorem dX4_score_41 : decode cX4_score 41 = .ok (.iconst 0, 1) := by decide +kernel
theorem dX4_score_42 : decode cX4_score 42 = .ok (.ireturn, 1) := by decide +kernel
theorem dX4_isAhead_0 : decode cX4_isAhead 0 = .ok (.aload_n 0, 1) := by decide +kernel
theorem dX4_isAhead_1 : decode cX4_isAhead 1 = .ok (.getfield 16, 3) := by decide +kernel
theorem dX4_isAhead_4 : decode cX4_isAhead 4 = .ok (.iload_n 1, 1) := by decide +kernel
theorem dX4_isAhead_5 : decode cX4_isAhead 5 = .ok (.iaload, 1) := by decide +kernel
theorem dX4_isAhead_6 : decode cX4_isAhead 6 = .ok (.aload_n 0, 1) := by decide +kernel
theorem dX4_isAhead_7 : decode cX4_isAhead 7 = .ok (.getfield 13, 3) := by decide +kernel
theorem dX4_isAhead_10 : decode cX4_isAhead 10 = .ok (.iload_n 2, 1) := by decide +kernel
theorem dX4_isAhead_11 : decode cX4_isAhead 11 = .ok (.iaload, 1) := by decide +kernel
theorem dX4_isAhead_12 : decode cX4_isAhead 12 = .ok (.imul, 1) := by decide +kernel
theorem dX4_isAhead_13 : decode cX4_isAhead 13 = .ok (.aload_n 0, 1) := by decide +kernel
theorem dX4_isAhead_14 : decode cX4_isAhead 14 = .ok (.getfield 16, 3) := by decide +kernel
theorem dX4_isAhead_17 : decode cX4_isAhead 17 = .ok (.iload_n 2, 1) := by decide +kernel
theorem dX4_isAhead_18 : decode cX4_isAhead 18 = .ok (.iaload, 1) := by decide +kernel
theorem dX4_isAhead_19 : decode cX4_isAhead 19 = .ok (.aload_n 0, 1) := by decide +kernel
theorem dX4_isAhead_20 : decode cX4_isAhead 20 = .ok (.getfield 13, 3) := by decide +kernel
theorem dX4_isAhead_23 : decode cX4_isAhead 23 = .ok (.iload_n 1, 1) := by decide +kernel
theorem dX4_isAhead_24 : decode cX4_isAhead 24 = .ok (.iaload, 1) := by decide +kernel
theorem dX4_isAhead_25 : decode cX4_isAhead 25 = .ok (.imul, 1) := by decide +kernel
theorem dX4_isAhead_26 : decode cX4_isAhead 26 = .ok (.isub, 1) := by decide +kernel
theorem dX4_isAhead_27 : decode cX4_isAhead 27 = .ok (.istore_n 3, 1) := by decide +kernel
theorem dX4_isAhead_28 : decode cX4_isAhead 28 = .ok (.aload_n 0, 1) := by decide +kernel
theorem dX4_isAhead_29 : decode cX4_isAhead 29 = .ok (.getfield 19, 3) := by decide +kernel
theorem dX4_isAhead_32 : decode cX4_isAhead 32 = .ok (.iload_n 1, 1) := by decide +kernel
theorem dX4_isAhead_33 : decode cX4_isAhead 33 = .ok (.iaload, 1) := by decide +kernel
theorem dX4_isAhead_34 : decode cX4_isAhead 34 = .ok (.aload_n 0, 1) := by decide +kernel
theorem dX4_isAhead_35 : decode cX4_isAhead 35 = .ok (.getfield 13, 3) := by decide +kernel
theorem dX4_isAhead_38 : decode cX4_isAhead 38 = .ok (.iload_n 2, 1) := by decide +kernel
theorem dX4_isAhead_39 : decode cX4_isAhead 39 = .ok (.iaload, 1) := by decide +kernel
theorem dX4_isAhead_40 : decode cX4_isAhead 40 = .ok (.imul, 1) := by decide +kernel
theorem dX4_isAhead_41 : decode cX4_isAhead 41 = .ok (.aload_n 0, 1) := by decide +kernel
theorem dX4_isAhead_42 : decode cX4_isAhead 42 = .ok (.getfield 19, 3) := by decide +kernel
theorem dX4_isAhead_45 : decode cX4_isAhead 45 = .ok (.iload_n 2, 1) := by decide +kernel
theorem dX4_isAhead_46 : decode cX4_isAhead 46 = .ok (.iaload, 1) := by decide +kernel
theorem dX4_isAhead_47 : decode cX4_isAhead 47 = .ok (.aload_n 0, 1) := by decide +kernel
theorem dX4_isAhead_48 : decode cX4_isAhead 48 = .ok (.getfield 13, 3) := by decide +kernel
theorem dX4_isAhead_51 : decode cX4_isAhead 51 = .ok (.iload_n 1, 1) := by decide +kernel
theorem dX4_isAhead_52 : decode cX4_isAhead 52 = .ok (.iaload, 1) := by decide +kernel
theorem dX4_isAhead_53 : decode cX4_isAhead 53 = .ok (.imul, 1) := by decide +kernel
theorem dX4_isAhead_54 : decode cX4_isAhead 54 = .ok (.isub, 1) := by decide +kernel
theorem dX4_isAhead_55 : decode cX4_isAhead 55 = .ok (.istore 4, 2) := by decide +kernel
theorem dX4_isAhead_57 : decode cX4_isAhead 57 = .ok (.iload_n 3, 1) := by decide +kernel
theorem dX4_isAhead_58 : decode cX4_isAhead 58 = .ok (.ifCond .eq 15, 3) := by decide +kernel
theorem dX4_isAhead_61 : decode cX4_isAhead 61 = .ok (.iload_n 3, 1) := by decide +kernel
theorem dX4_isAhead_62 : decode cX4_isAhead 62 = .ok (.ifCond .le 7, 3) := by decide +kernel
theorem dX4_isAhead_65 : decode cX4_isAhead 65 = .ok (.iconst 1, 1) := by decide +kernel
theorem dX4_isAhead_66 : decode cX4_isAhead 66 = .ok (.goto 35, 3) := by decide +kernel
theorem dX4_isAhead_69 : decode cX4_isAhead 69 = .ok (.iconst 0, 1) := by decide +kernel
theorem dX4_isAhead_70 : decode cX4_isAhead 70 = .ok (.goto 31, 3) := by decide +kernel
theorem dX4_isAhead_73 : decode cX4_isAhead 73 = .ok (.iload 4, 2) := by decide +kernel
theorem dX4_isAhead_75 : decode cX4_isAhead 75 = .ok (.ifCond .eq 16, 3) := by decide +kernel
theorem dX4_isAhead_78 : decode cX4_isAhead 78 = .ok (.iload 4, 2) := by decide +kernel
theorem dX4_isAhead_80 : decode cX4_isAhead 80 = .ok (.ifCond .le 7, 3) := by decide +kernel
theorem dX4_isAhead_83 : decode cX4_isAhead 83 = .ok (.iconst 1, 1) := by decide +kernel
theorem dX4_isAhead_84 : decode cX4_isAhead 84 = .ok (.goto 17, 3) := by decide +kernel
theorem dX4_isAhead_87 : decode cX4_isAhead 87 = .ok (.iconst 0, 1) := by decide +kernel
theorem dX4_isAhead_88 : decode cX4_isAhead 88 = .ok (.goto 13, 3) := by decide +kernel
theorem dX4_isAhead_91 : decode cX4_isAhead 91 = .ok (.iload_n 1, 1) := by decide +kernel
theorem dX4_isAhead_92 : decode cX4_isAhead 92 = .ok (.iload_n 2, 1) := by decide +kernel
theorem dX4_isAhead_93 : decode cX4_isAhead 93 = .ok (.if_icmp .ge 7, 3) := by decide +kernel
theorem dX4_isAhead_96 : decode cX4_isAhead 96 = .ok (.iconst 1, 1) := by decide +kernel
theorem dX4_isAhead_97 : decode cX4_isAhead 97 = .ok (.goto 4, 3) := by decide +kernel
theorem dX4_isAhead_100 : decode cX4_isAhead 100 = .ok (.iconst 0, 1) := by decide +kernel
theorem dX4_isAhead_101 : decode cX4_isAhead 101 = .ok (.ireturn, 1) := by decide +kernel
theorem dX4_rankOf_0 : decode cX4_rankOf 0 = .ok (.iconst 0, 1) := by decide +kernel
theorem dX4_rankOf_1 : decode cX4_rankOf 1 = .ok (.istore_n 2, 1) := by decide +kernel
theorem dX4_rankOf_2 : decode cX4_rankOf 2 = .ok (.iconst 0, 1) := by decide +kernel
theorem dX4_rankOf_3 : decode cX4_rankOf 3 = .ok (.istore_n 3, 1) := by decide +kernel
theorem dX4_rankOf_4 : decode cX4_rankOf 4 = .ok (.iload_n 3, 1) := by decide +kernel
theorem dX4_rankOf_5 : decode cX4_rankOf 5 = .ok (.aload_n 0, 1) := by decide +kernel
theorem dX4_rankOf_6 : decode cX4_rankOf 6 = .ok (.getfield 100, 3) := by decide +kernel
theorem dX4_rankOf_9 : decode cX4_rankOf 9 = .ok (.if_icmp .ge 40, 3) := by decide +kernel
theorem dX4_rankOf_12 : decode cX4_rankOf 12 = .ok (.iload_n 2, 1) := by decide +kernel
theorem dX4_rankOf_13 : decode cX4_rankOf 13 = .ok (.iload_n 3, 1) := by decide +kernel
theorem dX4_rankOf_14 : decode cX4_rankOf 14 = .ok (.iload_n 1, 1) := by decide +kernel
theorem dX4_rankOf_15 : decode cX4_rankOf 15 = .ok (.if_icmp .eq 25, 3) := by decide +kernel
theorem dX4_rankOf_18 : decode cX4_rankOf 18 = .ok (.aload_n 0, 1) := by decide +kernel
theorem dX4_rankOf_19 : decode cX4_rankOf 19 = .ok (.getfield 13, 3) := by decide +kernel
theorem dX4_rankOf_22 : decode cX4_rankOf 22 = .ok (.iload_n 3, 1) := by decide +kernel
theorem dX4_rankOf_23 : decode cX4_rankOf 23 = .ok (.iaload, 1) := by decide +kernel
theorem dX4_rankOf_24 : decode cX4_rankOf 24 = .ok (.ifCond .le 16, 3) := by decide +kernel
theorem dX4_rankOf_27 : decode cX4_rankOf 27 = .ok (.aload_n 0, 1) := by decide +kernel
theorem dX4_rankOf_28 : decode cX4_rankOf 28 = .ok (.iload_n 3, 1) := by decide +kernel
theorem dX4_rankOf_29 : decode cX4_rankOf 29 = .ok (.iload_n 1, 1) := by decide +kernel
theorem dX4_rankOf_30 : decode cX4_rankOf 30 = .ok (.invokevirtual 184, 3) := by decide +kernel
theorem dX4_rankOf_33 : decode cX4_rankOf 33 = .ok (.ifCond .eq 7, 3) := by decide +kernel
theorem dX4_rankOf_36 : decode cX4_rankOf 36 = .ok (.iconst 1, 1) := by decide +kernel
theorem dX4_rankOf_37 : decode cX4_rankOf 37 = .ok (.goto 4, 3) := by decide +kernel
theorem dX4_rankOf_40 : decode cX4_rankOf 40 = .ok (.iconst 0, 1) := by decide +kernel
theorem dX4_rankOf_41 : decode cX4_rankOf 41 = .ok (.iadd, 1) := by decide +kernel
theorem dX4_rankOf_42 : decode cX4_rankOf 42 = .ok (.istore_n 2, 1) := by decide +kernel
theorem dX4_rankOf_43 : decode cX4_rankOf 43 = .ok (.iinc 3 1, 3) := by decide +kernel
theorem dX4_rankOf_46 : decode cX4_rankOf 46 = .ok (.goto (-42), 3) := by decide +kernel
theorem dX4_rankOf_49 : decode cX4_rankOf 49 = .ok (.aload_n 0, 1) := by decide +kernel
theorem dX4_rankOf_50 : decode cX4_rankOf 50 = .ok (.getfield 13, 3) := by decide +kernel
theorem dX4_rankOf_53 : decode cX4_rankOf 53 = .ok (.iload_n 1, 1) := by decide +kernel
theorem dX4_rankOf_54 : decode cX4_rankOf 54 = .ok (.iaload, 1) := by decide +kernel
theorem dX4_rankOf_55 : decode cX4_rankOf 55 = .ok (.ifCond .ne 7, 3) := by decide +kernel
theorem dX4_rankOf_58 : decode cX4_rankOf 58 = .ok (.iconst (-1), 1) := by decide +kernel
theorem dX4_rankOf_59 : decode cX4_rankOf 59 = .ok (.goto 4, 3) := by decide +kernel
theorem dX4_rankOf_62 : decode cX4_rankOf 62 = .ok (.iload_n 2, 1) := by decide +kernel
theorem dX4_rankOf_63 : decode cX4_rankOf 63 = .ok (.ireturn, 1) := by decide +kernel
theorem dX4_told_0 : decode cX4_told 0 = .ok (.iload_n 2, 1) := by decide +kernel
theorem dX4_told_1 : decode cX4_told 1 = .ok (.tableswitch 59 0 3 #[31, 38, 45, 52], 31) := by decide +kernel
theorem dX4_told_32 : decode cX4_told 32 = .ok (.aload_n 0, 1) := by decide +kernel
theorem dX4_told_33 : decode cX4_told 33 = .ok (.getfield 7, 3) := by decide +kernel
theorem dX4_told_36 : decode cX4_told 36 = .ok (.iload_n 1, 1) := by decide +kernel
theorem dX4_told_37 : decode cX4_told 37 = .ok (.iaload, 1) := by decide +kernel
theorem dX4_told_38 : decode cX4_told 38 = .ok (.ireturn, 1) := by decide +kernel
theorem dX4_told_39 : decode cX4_told 39 = .ok (.aload_n 0, 1) := by decide +kernel
theorem dX4_told_40 : decode cX4_told 40 = .ok (.getfield 13, 3) := by decide +kernel
theorem dX4_told_43 : decode cX4_told 43 = .ok (.iload_n 1, 1) := by decide +kernel
theorem dX4_told_44 : decode cX4_told 44 = .ok (.iaload, 1) := by decide +kernel
theorem dX4_told_45 : decode cX4_told 45 = .ok (.ireturn, 1) := by decide +kernel
theorem dX4_told_46 : decode cX4_told 46 = .ok (.aload_n 0, 1) := by decide +kernel
theorem dX4_told_47 : decode cX4_told 47 = .ok (.getfield 16, 3) := by decide +kernel
theorem dX4_told_50 : decode cX4_told 50 = .ok (.iload_n 1, 1) := by decide +kernel
theorem dX4_told_51 : decode cX4_told 51 = .ok (.iaload, 1) := by decide +kernel
theorem dX4_told_52 : decode cX4_told 52 = .ok (.ireturn, 1) := by decide +kernel
theorem dX4_told_53 : decode cX4_told 53 = .ok (.aload_n 0, 1) := by decide +kernel
theorem dX4_told_54 : decode cX4_told 54 = .ok (.getfield 19, 3) := by decide +kernel
theorem dX4_told_57 : decode cX4_told 57 = .ok (.iload_n 1, 1) := by decide +kernel
theorem dX4_told_58 : decode cX4_told 58 = .ok (.iaload, 1) := by decide +kernel
theorem dX4_told_59 : decode cX4_told 59 = .ok (.ireturn, 1) := by decide +kernel
theorem dX4_told_60 : decode cX4_told 60 = .ok (.aload_n 0, 1) := by decide +kernel
theorem dX4_told_61 : decode cX4_told 61 = .ok (.iload_n 1, 1) := by decide +kernel
theorem dX4_told_62 : decode cX4_told 62 = .ok (.invokevirtual 187, 3) := by decide +kernel
theorem dX4_told_65 : decode cX4_told 65 = .ok (.ireturn, 1) := by decide +kernel
theorem dX4_beastIs_0 : decode cX4_beastIs 0 = .ok (.aload_n 0, 1) := by decide +kernel
theorem dX4_beastIs_1 : decode cX4_beastIs 1 = .ok (.iload_n 1, 1) := by decide +kernel
theorem dX4_beastIs_2 : decode cX4_beastIs 2 = .ok (.invokevirtual 190, 3) := by decide +kernel
theorem dX4_beastIs_5 : decode cX4_beastIs 5 = .ok (.istore_n 3, 1) := by decide +kernel
theorem dX4_beastIs_6 : decode cX4_beastIs 6 = .ok (.aload_n 0, 1) := by decide +kernel
theorem dX4_beastIs_7 : decode cX4_beastIs 7 = .ok (.iload_n 3, 1) := by decide +kernel
theorem dX4_beastIs_8 : decode cX4_beastIs 8 = .ok (.ifCond .ne 7, 3) := by decide +kernel
theorem dX4_beastIs_11 : decode cX4_beastIs 11 = .ok (.iconst 1, 1) := by decide +kernel
theorem dX4_beastIs_12 : decode cX4_beastIs 12 = .ok (.goto 17, 3) := by decide +kernel
theorem dX4_beastIs_15 : decode cX4_beastIs 15 = .ok (.iload_n 2, 1) := by decide +kernel
theorem dX4_beastIs_16 : decode cX4_beastIs 16 = .ok (.iconst 0, 1) := by decide +kernel
theorem dX4_beastIs_17 : decode cX4_beastIs 17 = .ok (.iconst 4, 1) := by decide +kernel
theorem dX4_beastIs_18 : decode cX4_beastIs 18 = .ok (.invokestatic 103, 3) := by decide +kernel
theorem dX4_beastIs_21 : decode cX4_beastIs 21 = .ok (.ifCond .ne 7, 3) := by decide +kernel
theorem dX4_beastIs_24 : decode cX4_beastIs 24 = .ok (.iconst 2, 1) := by decide +kernel
theorem dX4_beastIs_25 : decode cX4_beastIs 25 = .ok (.goto 4, 3) := by decide +kernel
theorem dX4_beastIs_28 : decode cX4_beastIs 28 = .ok (.iconst 0, 1) := by decide +kernel
theorem dX4_beastIs_29 : decode cX4_beastIs 29 = .ok (.invokevirtual 113, 3) := by decide +kernel
theorem dX4_beastIs_32 : decode cX4_beastIs 32 = .ok (.ifCond .eq 12, 3) := by decide +kernel
theorem dX4_beastIs_35 : decode cX4_beastIs 35 = .ok (.aload_n 0, 1) := by decide +kernel
theorem dX4_beastIs_36 : decode cX4_beastIs 36 = .ok (.iload_n 1, 1) := by decide +kernel
theorem dX4_beastIs_37 : decode cX4_beastIs 37 = .ok (.iload_n 2, 1) := by decide +kernel
theorem dX4_beastIs_38 : decode cX4_beastIs 38 = .ok (.invokevirtual 193, 3) := by decide +kernel
theorem dX4_beastIs_41 : decode cX4_beastIs 41 = .ok (.goto 4, 3) := by decide +kernel
theorem dX4_beastIs_44 : decode cX4_beastIs 44 = .ok (.iconst 0, 1) := by decide +kernel
theorem dX4_beastIs_45 : decode cX4_beastIs 45 = .ok (.ireturn, 1) := by decide +kernel
theorem dX4_canBePaid_0 : decode cX4_canBePaid 0 = .ok (.aload_n 0, 1) := by decide +kernel
theorem dX4_canBePaid_1 : decode cX4_canBePaid 1 = .ok (.getfield 47, 3) := by decide +kernel
theorem dX4_canBePaid_4 : decode cX4_canBePaid 4 = .ok (.iload_n 1, 1) := by decide +kernel
theorem dX4_canBePaid_5 : decode cX4_canBePaid 5 = .ok (.iaload, 1) := by decide +kernel
theorem dX4_canBePaid_6 : decode cX4_canBePaid 6 = .ok (.iconst 2, 1) := by decide +kernel
theorem dX4_canBePaid_7 : decode cX4_canBePaid 7 = .ok (.if_icmp .ne 7, 3) := by decide +kernel
theorem dX4_canBePaid_10 : decode cX4_canBePaid 10 = .ok (.iconst 1, 1) := by decide +kernel
theorem dX4_canBePaid_11 : decode cX4_canBePaid 11 = .ok (.goto 4, 3) := by decide +kernel
theorem dX4_canBePaid_14 : decode cX4_canBePaid 14 = .ok (.iconst 0, 1) := by decide +kernel
theorem dX4_canBePaid_15 : decode cX4_canBePaid 15 = .ok (.istore_n 2, 1) := by decide +kernel
theorem dX4_canBePaid_16 : decode cX4_canBePaid 16 = .ok (.iload_n 1, 1) := by decide +kernel
theorem dX4_canBePaid_17 : decode cX4_canBePaid 17 = .ok (.iconst 0, 1) := by decide +kernel
theorem dX4_canBePaid_18 : decode cX4_canBePaid 18 = .ok (.invokestatic 118, 3) := by decide +kernel
theorem dX4_canBePaid_21 : decode cX4_canBePaid 21 = .ok (.istore_n 3, 1) := by decide +kernel
theorem dX4_canBePaid_22 : decode cX4_canBePaid 22 = .ok (.iload_n 3, 1) := by decide +kernel
theorem dX4_canBePaid_23 : decode cX4_canBePaid 23 = .ok (.iload_n 1, 1) := by decide +kernel
theorem dX4_canBePaid_24 : decode cX4_canBePaid 24 = .ok (.iconst 1, 1) := by decide +kernel
theorem dX4_canBePaid_25 : decode cX4_canBePaid 25 = .ok (.iadd, 1) := by decide +kernel
theorem dX4_canBePaid_26 : decode cX4_canBePaid 26 = .ok (.iconst 0, 1) := by decide +kernel
theorem dX4_canBePaid_27 : decode cX4_canBePaid 27 = .ok (.invokestatic 118, 3) := by decide +kernel
theorem dX4_canBePaid_30 : decode cX4_canBePaid 30 = .ok (.if_icmp .ge 37, 3) := by decide +kernel
theorem dX4_canBePaid_33 : decode cX4_canBePaid 33 = .ok (.iload_n 2, 1) := by decide +kernel
theorem dX4_canBePaid_34 : decode cX4_canBePaid 34 = .ok (.ifCond .eq 25, 3) := by decide +kernel
theorem dX4_canBePaid_37 : decode cX4_canBePaid 37 = .ok (.aload_n 0, 1) := by decide +kernel
theorem dX4_canBePaid_38 : decode cX4_canBePaid 38 = .ok (.getfield 71, 3) := by decide +kernel
theorem dX4_canBePaid_41 : decode cX4_canBePaid 41 = .ok (.iload_n 3, 1) := by decide +kernel
theorem dX4_canBePaid_42 : decode cX4_canBePaid 42 = .ok (.baload, 1) := by decide +kernel
theorem dX4_canBePaid_43 : decode cX4_canBePaid 43 = .ok (.ifCond .ne 16, 3) := by decide +kernel
theorem dX4_canBePaid_46 : decode cX4_canBePaid 46 = .ok (.aload_n 0, 1) := by decide +kernel
theorem dX4_canBePaid_47 : decode cX4_canBePaid 47 = .ok (.getfield 78, 3) := by decide +kernel
theorem dX4_canBePaid_50 : decode cX4_canBePaid 50 = .ok (.iload_n 3, 1) := by decide +kernel
theorem dX4_canBePaid_51 : decode cX4_canBePaid 51 = .ok (.baload, 1) := by decide +kernel
theorem dX4_canBePaid_52 : decode cX4_canBePaid 52 = .ok (.ifCond .ne 7, 3) := by decide +kernel
end
section
theorem dX4_canBePaid_55 : decode cX4_canBePaid 55 = .ok (.iconst 1, 1) := by decide +kernel
theorem dX4_canBePaid_56 : decode cX4_canBePaid 56 = .ok (.goto 4, 3) := by decide +kernel
theorem dX4_canBePaid_59 : decode cX4_canBePaid 59 = .ok (.iconst 0, 1) := by decide +kernel
theorem dX4_canBePaid_60 : decode cX4_canBePaid 60 = .ok (.istore_n 2, 1) := by decide +kernel
theorem dX4_canBePaid_61 : decode cX4_canBePaid 61 = .ok (.iinc 3 1, 3) := by decide +kernel
theorem dX4_canBePaid_64 : decode cX4_canBePaid 64 = .ok (.goto (-42), 3) := by decide +kernel
theorem dX4_canBePaid_67 : decode cX4_canBePaid 67 = .ok (.iload_n 2, 1) := by decide +kernel
theorem dX4_canBePaid_68 : decode cX4_canBePaid 68 = .ok (.ireturn, 1) := by decide +kernel
theorem dX4_shares_0 : decode cX4_shares 0 = .ok (.iconst 0, 1) := by decide +kernel
theorem dX4_shares_1 : decode cX4_shares 1 = .ok (.istore_n 3, 1) := by decide +kernel
theorem dX4_shares_2 : decode cX4_shares 2 = .ok (.iload_n 1, 1) := by decide +kernel
theorem dX4_shares_3 : decode cX4_shares 3 = .ok (.istore 4, 2) := by decide +kernel
theorem dX4_shares_5 : decode cX4_shares 5 = .ok (.iload 4, 2) := by decide +kernel
theorem dX4_shares_7 : decode cX4_shares 7 = .ok (.iload_n 2, 1) := by decide +kernel
theorem dX4_shares_8 : decode cX4_shares 8 = .ok (.if_icmp .gt 31, 3) := by decide +kernel
theorem dX4_shares_11 : decode cX4_shares 11 = .ok (.iload 4, 2) := by decide +kernel
theorem dX4_shares_13 : decode cX4_shares 13 = .ok (.iconst 4, 1) := by decide +kernel
theorem dX4_shares_14 : decode cX4_shares 14 = .ok (.if_icmp .gt 25, 3) := by decide +kernel
theorem dX4_shares_17 : decode cX4_shares 17 = .ok (.iload_n 3, 1) := by decide +kernel
theorem dX4_shares_18 : decode cX4_shares 18 = .ok (.iload_n 0, 1) := by decide +kernel
theorem dX4_shares_19 : decode cX4_shares 19 = .ok (.bipush 50, 2) := by decide +kernel
theorem dX4_shares_21 : decode cX4_shares 21 = .ok (.bipush 10, 2) := by decide +kernel
theorem dX4_shares_23 : decode cX4_shares 23 = .ok (.iload 4, 2) := by decide +kernel
theorem dX4_shares_25 : decode cX4_shares 25 = .ok (.imul, 1) := by decide +kernel
theorem dX4_shares_26 : decode cX4_shares 26 = .ok (.isub, 1) := by decide +kernel
theorem dX4_shares_27 : decode cX4_shares 27 = .ok (.imul, 1) := by decide +kernel
theorem dX4_shares_28 : decode cX4_shares 28 = .ok (.bipush 100, 2) := by decide +kernel
theorem dX4_shares_30 : decode cX4_shares 30 = .ok (.idiv, 1) := by decide +kernel
theorem dX4_shares_31 : decode cX4_shares 31 = .ok (.iadd, 1) := by decide +kernel
theorem dX4_shares_32 : decode cX4_shares 32 = .ok (.istore_n 3, 1) := by decide +kernel
theorem dX4_shares_33 : decode cX4_shares 33 = .ok (.iinc 4 1, 3) := by decide +kernel
theorem dX4_shares_36 : decode cX4_shares 36 = .ok (.goto (-31), 3) := by decide +kernel
theorem dX4_shares_39 : decode cX4_shares 39 = .ok (.iload_n 3, 1) := by decide +kernel
theorem dX4_shares_40 : decode cX4_shares 40 = .ok (.ireturn, 1) := by decide +kernel
theorem dX4_pays_0 : decode cX4_pays 0 = .ok (.aload_n 0, 1) := by decide +kernel
theorem dX4_pays_1 : decode cX4_pays 1 = .ok (.iload_n 1, 1) := by decide +kernel
theorem dX4_pays_2 : decode cX4_pays 2 = .ok (.invokevirtual 126, 3) := by decide +kernel
theorem dX4_pays_5 : decode cX4_pays 5 = .ok (.istore_n 2, 1) := by decide +kernel
theorem dX4_pays_6 : decode cX4_pays 6 = .ok (.iconst 0, 1) := by decide +kernel
theorem dX4_pays_7 : decode cX4_pays 7 = .ok (.istore_n 3, 1) := by decide +kernel
theorem dX4_pays_8 : decode cX4_pays 8 = .ok (.iload_n 1, 1) := by decide +kernel
theorem dX4_pays_9 : decode cX4_pays 9 = .ok (.iconst 0, 1) := by decide +kernel
theorem dX4_pays_10 : decode cX4_pays 10 = .ok (.invokestatic 118, 3) := by decide +kernel
theorem dX4_pays_13 : decode cX4_pays 13 = .ok (.istore 4, 2) := by decide +kernel
theorem dX4_pays_15 : decode cX4_pays 15 = .ok (.iload 4, 2) := by decide +kernel
theorem dX4_pays_17 : decode cX4_pays 17 = .ok (.iload_n 1, 1) := by decide +kernel
theorem dX4_pays_18 : decode cX4_pays 18 = .ok (.iconst 1, 1) := by decide +kernel
theorem dX4_pays_19 : decode cX4_pays 19 = .ok (.iadd, 1) := by decide +kernel
theorem dX4_pays_20 : decode cX4_pays 20 = .ok (.iconst 0, 1) := by decide +kernel
theorem dX4_pays_21 : decode cX4_pays 21 = .ok (.invokestatic 118, 3) := by decide +kernel
theorem dX4_pays_24 : decode cX4_pays 24 = .ok (.if_icmp .ge 27, 3) := by decide +kernel
theorem dX4_pays_27 : decode cX4_pays 27 = .ok (.iload_n 3, 1) := by decide +kernel
theorem dX4_pays_28 : decode cX4_pays 28 = .ok (.aload_n 0, 1) := by decide +kernel
theorem dX4_pays_29 : decode cX4_pays 29 = .ok (.getfield 81, 3) := by decide +kernel
theorem dX4_pays_32 : decode cX4_pays 32 = .ok (.iload 4, 2) := by decide +kernel
theorem dX4_pays_34 : decode cX4_pays 34 = .ok (.baload, 1) := by decide +kernel
theorem dX4_pays_35 : decode cX4_pays 35 = .ok (.ifCond .eq 7, 3) := by decide +kernel
theorem dX4_pays_38 : decode cX4_pays 38 = .ok (.iconst 1, 1) := by decide +kernel
theorem dX4_pays_39 : decode cX4_pays 39 = .ok (.goto 4, 3) := by decide +kernel
theorem dX4_pays_42 : decode cX4_pays 42 = .ok (.iconst 0, 1) := by decide +kernel
theorem dX4_pays_43 : decode cX4_pays 43 = .ok (.iadd, 1) := by decide +kernel
theorem dX4_pays_44 : decode cX4_pays 44 = .ok (.istore_n 3, 1) := by decide +kernel
theorem dX4_pays_45 : decode cX4_pays 45 = .ok (.iinc 4 1, 3) := by decide +kernel
theorem dX4_pays_48 : decode cX4_pays 48 = .ok (.goto (-33), 3) := by decide +kernel
theorem dX4_pays_51 : decode cX4_pays 51 = .ok (.iload_n 2, 1) := by decide +kernel
theorem dX4_pays_52 : decode cX4_pays 52 = .ok (.istore 4, 2) := by decide +kernel
theorem dX4_pays_54 : decode cX4_pays 54 = .ok (.iload_n 1, 1) := by decide +kernel
theorem dX4_pays_55 : decode cX4_pays 55 = .ok (.iconst 0, 1) := by decide +kernel
theorem dX4_pays_56 : decode cX4_pays 56 = .ok (.invokestatic 118, 3) := by decide +kernel
theorem dX4_pays_59 : decode cX4_pays 59 = .ok (.istore 5, 2) := by decide +kernel
theorem dX4_pays_61 : decode cX4_pays 61 = .ok (.iload 5, 2) := by decide +kernel
theorem dX4_pays_63 : decode cX4_pays 63 = .ok (.iload_n 1, 1) := by decide +kernel
theorem dX4_pays_64 : decode cX4_pays 64 = .ok (.iconst 1, 1) := by decide +kernel
theorem dX4_pays_65 : decode cX4_pays 65 = .ok (.iadd, 1) := by decide +kernel
theorem dX4_pays_66 : decode cX4_pays 66 = .ok (.iconst 0, 1) := by decide +kernel
theorem dX4_pays_67 : decode cX4_pays 67 = .ok (.invokestatic 118, 3) := by decide +kernel
theorem dX4_pays_70 : decode cX4_pays 70 = .ok (.if_icmp .ge 174, 3) := by decide +kernel
theorem dX4_pays_73 : decode cX4_pays 73 = .ok (.iconst 0, 1) := by decide +kernel
theorem dX4_pays_74 : decode cX4_pays 74 = .ok (.istore 6, 2) := by decide +kernel
theorem dX4_pays_76 : decode cX4_pays 76 = .ok (.iconst 0, 1) := by decide +kernel
theorem dX4_pays_77 : decode cX4_pays 77 = .ok (.istore 7, 2) := by decide +kernel
theorem dX4_pays_79 : decode cX4_pays 79 = .ok (.iload_n 1, 1) := by decide +kernel
theorem dX4_pays_80 : decode cX4_pays 80 = .ok (.iconst 0, 1) := by decide +kernel
theorem dX4_pays_81 : decode cX4_pays 81 = .ok (.invokestatic 118, 3) := by decide +kernel
theorem dX4_pays_84 : decode cX4_pays 84 = .ok (.istore 8, 2) := by decide +kernel
theorem dX4_pays_86 : decode cX4_pays 86 = .ok (.iload 8, 2) := by decide +kernel
theorem dX4_pays_88 : decode cX4_pays 88 = .ok (.iload_n 1, 1) := by decide +kernel
theorem dX4_pays_89 : decode cX4_pays 89 = .ok (.iconst 1, 1) := by decide +kernel
theorem dX4_pays_90 : decode cX4_pays 90 = .ok (.iadd, 1) := by decide +kernel
theorem dX4_pays_91 : decode cX4_pays 91 = .ok (.iconst 0, 1) := by decide +kernel
theorem dX4_pays_92 : decode cX4_pays 92 = .ok (.invokestatic 118, 3) := by decide +kernel
theorem dX4_pays_95 : decode cX4_pays 95 = .ok (.if_icmp .ge 83, 3) := by decide +kernel
theorem dX4_pays_98 : decode cX4_pays 98 = .ok (.iload 6, 2) := by decide +kernel
theorem dX4_pays_100 : decode cX4_pays 100 = .ok (.aload_n 0, 1) := by decide +kernel
theorem dX4_pays_101 : decode cX4_pays 101 = .ok (.getfield 81, 3) := by decide +kernel
theorem dX4_pays_104 : decode cX4_pays 104 = .ok (.iload 8, 2) := by decide +kernel
theorem dX4_pays_106 : decode cX4_pays 106 = .ok (.baload, 1) := by decide +kernel
theorem dX4_pays_107 : decode cX4_pays 107 = .ok (.ifCond .eq 24, 3) := by decide +kernel
theorem dX4_pays_110 : decode cX4_pays 110 = .ok (.aload_n 0, 1) := by decide +kernel
theorem dX4_pays_111 : decode cX4_pays 111 = .ok (.getfield 84, 3) := by decide +kernel
theorem dX4_pays_114 : decode cX4_pays 114 = .ok (.iload 8, 2) := by decide +kernel
theorem dX4_pays_116 : decode cX4_pays 116 = .ok (.iaload, 1) := by decide +kernel
theorem dX4_pays_117 : decode cX4_pays 117 = .ok (.aload_n 0, 1) := by decide +kernel
theorem dX4_pays_118 : decode cX4_pays 118 = .ok (.getfield 84, 3) := by decide +kernel
theorem dX4_pays_121 : decode cX4_pays 121 = .ok (.iload 5, 2) := by decide +kernel
theorem dX4_pays_123 : decode cX4_pays 123 = .ok (.iaload, 1) := by decide +kernel
theorem dX4_pays_124 : decode cX4_pays 124 = .ok (.if_icmp .le 7, 3) := by decide +kernel
theorem dX4_pays_127 : decode cX4_pays 127 = .ok (.iconst 1, 1) := by decide +kernel
theorem dX4_pays_128 : decode cX4_pays 128 = .ok (.goto 4, 3) := by decide +kernel
theorem dX4_pays_131 : decode cX4_pays 131 = .ok (.iconst 0, 1) := by decide +kernel
theorem dX4_pays_132 : decode cX4_pays 132 = .ok (.iadd, 1) := by decide +kernel
theorem dX4_pays_133 : decode cX4_pays 133 = .ok (.istore 6, 2) := by decide +kernel
theorem dX4_pays_135 : decode cX4_pays 135 = .ok (.iload 7, 2) := by decide +kernel
theorem dX4_pays_137 : decode cX4_pays 137 = .ok (.aload_n 0, 1) := by decide +kernel
theorem dX4_pays_138 : decode cX4_pays 138 = .ok (.getfield 81, 3) := by decide +kernel
theorem dX4_pays_141 : decode cX4_pays 141 = .ok (.iload 8, 2) := by decide +kernel
theorem dX4_pays_143 : decode cX4_pays 143 = .ok (.baload, 1) := by decide +kernel
theorem dX4_pays_144 : decode cX4_pays 144 = .ok (.ifCond .eq 24, 3) := by decide +kernel
theorem dX4_pays_147 : decode cX4_pays 147 = .ok (.aload_n 0, 1) := by decide +kernel
theorem dX4_pays_148 : decode cX4_pays 148 = .ok (.getfield 84, 3) := by decide +kernel
theorem dX4_pays_151 : decode cX4_pays 151 = .ok (.iload 8, 2) := by decide +kernel
theorem dX4_pays_153 : decode cX4_pays 153 = .ok (.iaload, 1) := by decide +kernel
theorem dX4_pays_154 : decode cX4_pays 154 = .ok (.aload_n 0, 1) := by decide +kernel
theorem dX4_pays_155 : decode cX4_pays 155 = .ok (.getfield 84, 3) := by decide +kernel
theorem dX4_pays_158 : decode cX4_pays 158 = .ok (.iload 5, 2) := by decide +kernel
theorem dX4_pays_160 : decode cX4_pays 160 = .ok (.iaload, 1) := by decide +kernel
theorem dX4_pays_161 : decode cX4_pays 161 = .ok (.if_icmp .ne 7, 3) := by decide +kernel
theorem dX4_pays_164 : decode cX4_pays 164 = .ok (.iconst 1, 1) := by decide +kernel
theorem dX4_pays_165 : decode cX4_pays 165 = .ok (.goto 4, 3) := by decide +kernel
theorem dX4_pays_168 : decode cX4_pays 168 = .ok (.iconst 0, 1) := by decide +kernel
theorem dX4_pays_169 : decode cX4_pays 169 = .ok (.iadd, 1) := by decide +kernel
theorem dX4_pays_170 : decode cX4_pays 170 = .ok (.istore 7, 2) := by decide +kernel
theorem dX4_pays_172 : decode cX4_pays 172 = .ok (.iinc 8 1, 3) := by decide +kernel
theorem dX4_pays_175 : decode cX4_pays 175 = .ok (.goto (-89), 3) := by decide +kernel
theorem dX4_pays_178 : decode cX4_pays 178 = .ok (.aload_n 0, 1) := by decide +kernel
theorem dX4_pays_179 : decode cX4_pays 179 = .ok (.getfield 87, 3) := by decide +kernel
theorem dX4_pays_182 : decode cX4_pays 182 = .ok (.iload 5, 2) := by decide +kernel
theorem dX4_pays_184 : decode cX4_pays 184 = .ok (.aload_n 0, 1) := by decide +kernel
theorem dX4_pays_185 : decode cX4_pays 185 = .ok (.getfield 81, 3) := by decide +kernel
theorem dX4_pays_188 : decode cX4_pays 188 = .ok (.iload 5, 2) := by decide +kernel
theorem dX4_pays_190 : decode cX4_pays 190 = .ok (.baload, 1) := by decide +kernel
theorem dX4_pays_191 : decode cX4_pays 191 = .ok (.ifCond .eq 33, 3) := by decide +kernel
theorem dX4_pays_194 : decode cX4_pays 194 = .ok (.iload_n 2, 1) := by decide +kernel
theorem dX4_pays_195 : decode cX4_pays 195 = .ok (.iload 6, 2) := by decide +kernel
theorem dX4_pays_197 : decode cX4_pays 197 = .ok (.iconst 1, 1) := by decide +kernel
theorem dX4_pays_198 : decode cX4_pays 198 = .ok (.iadd, 1) := by decide +kernel
theorem dX4_pays_199 : decode cX4_pays 199 = .ok (.iload 6, 2) := by decide +kernel
theorem dX4_pays_201 : decode cX4_pays 201 = .ok (.iload 7, 2) := by decide +kernel
theorem dX4_pays_203 : decode cX4_pays 203 = .ok (.iadd, 1) := by decide +kernel
theorem dX4_pays_204 : decode cX4_pays 204 = .ok (.invokestatic 196, 3) := by decide +kernel
theorem dX4_pays_207 : decode cX4_pays 207 = .ok (.iload 7, 2) := by decide +kernel
theorem dX4_pays_209 : decode cX4_pays 209 = .ok (.idiv, 1) := by decide +kernel
theorem dX4_pays_210 : decode cX4_pays 210 = .ok (.iload_n 2, 1) := by decide +kernel
theorem dX4_pays_211 : decode cX4_pays 211 = .ok (.iload_n 3, 1) := by decide +kernel
theorem dX4_pays_212 : decode cX4_pays 212 = .ok (.iconst 1, 1) := by decide +kernel
theorem dX4_pays_213 : decode cX4_pays 213 = .ok (.iadd, 1) := by decide +kernel
theorem dX4_pays_214 : decode cX4_pays 214 = .ok (.iconst 4, 1) := by decide +kernel
theorem dX4_pays_215 : decode cX4_pays 215 = .ok (.invokestatic 196, 3) := by decide +kernel
theorem dX4_pays_218 : decode cX4_pays 218 = .ok (.iload_n 3, 1) := by decide +kernel
theorem dX4_pays_219 : decode cX4_pays 219 = .ok (.idiv, 1) := by decide +kernel
theorem dX4_pays_220 : decode cX4_pays 220 = .ok (.iadd, 1) := by decide +kernel
theorem dX4_pays_221 : decode cX4_pays 221 = .ok (.goto 4, 3) := by decide +kernel
theorem dX4_pays_224 : decode cX4_pays 224 = .ok (.iconst 0, 1) := by decide +kernel
theorem dX4_pays_225 : decode cX4_pays 225 = .ok (.iastore, 1) := by decide +kernel
theorem dX4_pays_226 : decode cX4_pays 226 = .ok (.iload 4, 2) := by decide +kernel
theorem dX4_pays_228 : decode cX4_pays 228 = .ok (.aload_n 0, 1) := by decide +kernel
theorem dX4_pays_229 : decode cX4_pays 229 = .ok (.getfield 87, 3) := by decide +kernel
theorem dX4_pays_232 : decode cX4_pays 232 = .ok (.iload 5, 2) := by decide +kernel
theorem dX4_pays_234 : decode cX4_pays 234 = .ok (.iaload, 1) := by decide +kernel
theorem dX4_pays_235 : decode cX4_pays 235 = .ok (.isub, 1) := by decide +kernel
theorem dX4_pays_236 : decode cX4_pays 236 = .ok (.istore 4, 2) := by decide +kernel
theorem dX4_pays_238 : decode cX4_pays 238 = .ok (.iinc 5 1, 3) := by decide +kernel
theorem dX4_pays_241 : decode cX4_pays 241 = .ok (.goto (-180), 3) := by decide +kernel
theorem dX4_pays_244 : decode cX4_pays 244 = .ok (.aload_n 0, 1) := by decide +kernel
theorem dX4_pays_245 : decode cX4_pays 245 = .ok (.getfield 50, 3) := by decide +kernel
theorem dX4_pays_248 : decode cX4_pays 248 = .ok (.iload_n 1, 1) := by decide +kernel
theorem dX4_pays_249 : decode cX4_pays 249 = .ok (.iload 4, 2) := by decide +kernel
theorem dX4_pays_251 : decode cX4_pays 251 = .ok (.iastore, 1) := by decide +kernel
theorem dX4_pays_252 : decode cX4_pays 252 = .ok (.aload_n 0, 1) := by decide +kernel
theorem dX4_pays_253 : decode cX4_pays 253 = .ok (.getfield 47, 3) := by decide +kernel
theorem dX4_pays_256 : decode cX4_pays 256 = .ok (.iload_n 1, 1) := by decide +kernel
theorem dX4_pays_257 : decode cX4_pays 257 = .ok (.iconst 3, 1) := by decide +kernel
theorem dX4_pays_258 : decode cX4_pays 258 = .ok (.iastore, 1) := by decide +kernel
theorem dX4_pays_259 : decode cX4_pays 259 = .ok (.iload_n 3, 1) := by decide +kernel
theorem dX4_pays_260 : decode cX4_pays 260 = .ok (.ireturn, 1) := by decide +kernel
theorem dX4_pay_0 : decode cX4_pay 0 = .ok (.aload_n 0, 1) := by decide +kernel
theorem dX4_pay_1 : decode cX4_pay 1 = .ok (.iload_n 1, 1) := by decide +kernel
theorem dX4_pay_2 : decode cX4_pay 2 = .ok (.invokevirtual 129, 3) := by decide +kernel
theorem dX4_pay_5 : decode cX4_pay 5 = .ok (.istore_n 2, 1) := by decide +kernel
theorem dX4_pay_6 : decode cX4_pay 6 = .ok (.aload_n 0, 1) := by decide +kernel
theorem dX4_pay_7 : decode cX4_pay 7 = .ok (.iload_n 2, 1) := by decide +kernel
theorem dX4_pay_8 : decode cX4_pay 8 = .ok (.ifCond .ne 7, 3) := by decide +kernel
theorem dX4_pay_11 : decode cX4_pay 11 = .ok (.iconst 1, 1) := by decide +kernel
theorem dX4_pay_12 : decode cX4_pay 12 = .ok (.goto 16, 3) := by decide +kernel
theorem dX4_pay_15 : decode cX4_pay 15 = .ok (.aload_n 0, 1) := by decide +kernel
theorem dX4_pay_16 : decode cX4_pay 16 = .ok (.iload_n 1, 1) := by decide +kernel
theorem dX4_pay_17 : decode cX4_pay 17 = .ok (.invokevirtual 200, 3) := by decide +kernel
theorem dX4_pay_20 : decode cX4_pay 20 = .ok (.ifCond .ne 7, 3) := by decide +kernel
theorem dX4_pay_23 : decode cX4_pay 23 = .ok (.iconst 2, 1) := by decide +kernel
theorem dX4_pay_24 : decode cX4_pay 24 = .ok (.goto 4, 3) := by decide +kernel
theorem dX4_pay_27 : decode cX4_pay 27 = .ok (.iconst 0, 1) := by decide +kernel
theorem dX4_pay_28 : decode cX4_pay 28 = .ok (.invokevirtual 113, 3) := by decide +kernel
theorem dX4_pay_31 : decode cX4_pay 31 = .ok (.ifCond .eq 11, 3) := by decide +kernel
theorem dX4_pay_34 : decode cX4_pay 34 = .ok (.aload_n 0, 1) := by decide +kernel
theorem dX4_pay_35 : decode cX4_pay 35 = .ok (.iload_n 1, 1) := by decide +kernel
theorem dX4_pay_36 : decode cX4_pay 36 = .ok (.invokevirtual 203, 3) := by decide +kernel
theorem dX4_pay_39 : decode cX4_pay 39 = .ok (.goto 4, 3) := by decide +kernel
theorem dX4_pay_42 : decode cX4_pay 42 = .ok (.iconst 0, 1) := by decide +kernel
theorem dX4_pay_43 : decode cX4_pay 43 = .ok (.ireturn, 1) := by decide +kernel
theorem dX4_got_0 : decode cX4_got 0 = .ok (.aload_n 0, 1) := by decide +kernel
theorem dX4_got_1 : decode cX4_got 1 = .ok (.aload_n 0, 1) := by decide +kernel
theorem dX4_got_2 : decode cX4_got 2 = .ok (.iload_n 1, 1) := by decide +kernel
theorem dX4_got_3 : decode cX4_got 3 = .ok (.invokevirtual 129, 3) := by decide +kernel
theorem dX4_got_6 : decode cX4_got 6 = .ok (.ifCond .eq 15, 3) := by decide +kernel
theorem dX4_got_9 : decode cX4_got 9 = .ok (.aload_n 0, 1) := by decide +kernel
theorem dX4_got_10 : decode cX4_got 10 = .ok (.iload_n 2, 1) := by decide +kernel
theorem dX4_got_11 : decode cX4_got 11 = .ok (.invokevirtual 135, 3) := by decide +kernel
theorem dX4_got_14 : decode cX4_got 14 = .ok (.ifCond .eq 7, 3) := by decide +kernel
theorem dX4_got_17 : decode cX4_got 17 = .ok (.iconst 0, 1) := by decide +kernel
theorem dX4_got_18 : decode cX4_got 18 = .ok (.goto 4, 3) := by decide +kernel
theorem dX4_got_21 : decode cX4_got 21 = .ok (.iconst 1, 1) := by decide +kernel
theorem dX4_got_22 : decode cX4_got 22 = .ok (.invokevirtual 113, 3) := by decide +kernel
theorem dX4_got_25 : decode cX4_got 25 = .ok (.ifCond .eq 16, 3) := by decide +kernel
theorem dX4_got_28 : decode cX4_got 28 = .ok (.aload_n 0, 1) := by decide +kernel
theorem dX4_got_29 : decode cX4_got 29 = .ok (.getfield 87, 3) := by decide +kernel
theorem dX4_got_32 : decode cX4_got 32 = .ok (.iload_n 1, 1) := by decide +kernel
theorem dX4_got_33 : decode cX4_got 33 = .ok (.iload_n 2, 1) := by decide +kernel
theorem dX4_got_34 : decode cX4_got 34 = .ok (.invokestatic 118, 3) := by decide +kernel
theorem dX4_got_37 : decode cX4_got 37 = .ok (.iaload, 1) := by decide +kernel
theorem dX4_got_38 : decode cX4_got 38 = .ok (.goto 4, 3) := by decide +kernel
theorem dX4_got_41 : decode cX4_got 41 = .ok (.iconst 0, 1) := by decide +kernel
theorem dX4_got_42 : decode cX4_got 42 = .ok (.ireturn, 1) := by decide +kernel
theorem dX4_allOf_0 : decode cX4_allOf 0 = .ok (.iconst 0, 1) := by decide +kernel
theorem dX4_allOf_1 : decode cX4_allOf 1 = .ok (.istore_n 2, 1) := by decide +kernel
theorem dX4_allOf_2 : decode cX4_allOf 2 = .ok (.iconst 0, 1) := by decide +kernel
theorem dX4_allOf_3 : decode cX4_allOf 3 = .ok (.istore_n 3, 1) := by decide +kernel
theorem dX4_allOf_4 : decode cX4_allOf 4 = .ok (.iload_n 3, 1) := by decide +kernel
theorem dX4_allOf_5 : decode cX4_allOf 5 = .ok (.aload_n 0, 1) := by decide +kernel
theorem dX4_allOf_6 : decode cX4_allOf 6 = .ok (.getfield 110, 3) := by decide +kernel
theorem dX4_allOf_9 : decode cX4_allOf 9 = .ok (.if_icmp .ge 22, 3) := by decide +kernel
theorem dX4_allOf_12 : decode cX4_allOf 12 = .ok (.iload_n 2, 1) := by decide +kernel
theorem dX4_allOf_13 : decode cX4_allOf 13 = .ok (.aload_n 0, 1) := by decide +kernel
theorem dX4_allOf_14 : decode cX4_allOf 14 = .ok (.getfield 87, 3) := by decide +kernel
theorem dX4_allOf_17 : decode cX4_allOf 17 = .ok (.iload_n 3, 1) := by decide +kernel
theorem dX4_allOf_18 : decode cX4_allOf 18 = .ok (.iload_n 1, 1) := by decide +kernel
theorem dX4_allOf_19 : decode cX4_allOf 19 = .ok (.invokestatic 118, 3) := by decide +kernel
theorem dX4_allOf_22 : decode cX4_allOf 22 = .ok (.iaload, 1) := by decide +kernel
theorem dX4_allOf_23 : decode cX4_allOf 23 = .ok (.iadd, 1) := by decide +kernel
theorem dX4_allOf_24 : decode cX4_allOf 24 = .ok (.istore_n 2, 1) := by decide +kernel
theorem dX4_allOf_25 : decode cX4_allOf 25 = .ok (.iinc 3 1, 3) := by decide +kernel
theorem dX4_allOf_28 : decode cX4_allOf 28 = .ok (.goto (-24), 3) := by decide +kernel
theorem dX4_allOf_31 : decode cX4_allOf 31 = .ok (.iload_n 2, 1) := by decide +kernel
theorem dX4_allOf_32 : decode cX4_allOf 32 = .ok (.ireturn, 1) := by decide +kernel
theorem dX4_counted_0 : decode cX4_counted 0 = .ok (.iconst 0, 1) := by decide +kernel
theorem dX4_counted_1 : decode cX4_counted 1 = .ok (.istore_n 2, 1) := by decide +kernel
theorem dX4_counted_2 : decode cX4_counted 2 = .ok (.iconst 0, 1) := by decide +kernel
theorem dX4_counted_3 : decode cX4_counted 3 = .ok (.istore_n 3, 1) := by decide +kernel
theorem dX4_counted_4 : decode cX4_counted 4 = .ok (.iload_n 3, 1) := by decide +kernel
theorem dX4_counted_5 : decode cX4_counted 5 = .ok (.aload_n 0, 1) := by decide +kernel
theorem dX4_counted_6 : decode cX4_counted 6 = .ok (.getfield 110, 3) := by decide +kernel
theorem dX4_counted_9 : decode cX4_counted 9 = .ok (.if_icmp .ge 100, 3) := by decide +kernel
theorem dX4_counted_12 : decode cX4_counted 12 = .ok (.aload_n 0, 1) := by decide +kernel
theorem dX4_counted_13 : decode cX4_counted 13 = .ok (.getfield 87, 3) := by decide +kernel
theorem dX4_counted_16 : decode cX4_counted 16 = .ok (.iload_n 3, 1) := by decide +kernel
theorem dX4_counted_17 : decode cX4_counted 17 = .ok (.iload_n 1, 1) := by decide +kernel
theorem dX4_counted_18 : decode cX4_counted 18 = .ok (.invokestatic 118, 3) := by decide +kernel
theorem dX4_counted_21 : decode cX4_counted 21 = .ok (.iaload, 1) := by decide +kernel
theorem dX4_counted_22 : decode cX4_counted 22 = .ok (.istore 4, 2) := by decide +kernel
theorem dX4_counted_24 : decode cX4_counted 24 = .ok (.iconst 0, 1) := by decide +kernel
theorem dX4_counted_25 : decode cX4_counted 25 = .ok (.istore 5, 2) := by decide +kernel
theorem dX4_counted_27 : decode cX4_counted 27 = .ok (.iconst 0, 1) := by decide +kernel
theorem dX4_counted_28 : decode cX4_counted 28 = .ok (.istore 6, 2) := by decide +kernel
theorem dX4_counted_30 : decode cX4_counted 30 = .ok (.iload 6, 2) := by decide +kernel
theorem dX4_counted_32 : decode cX4_counted 32 = .ok (.aload_n 0, 1) := by decide +kernel
theorem dX4_counted_33 : decode cX4_counted 33 = .ok (.getfield 110, 3) := by decide +kernel
theorem dX4_counted_36 : decode cX4_counted 36 = .ok (.if_icmp .ge 52, 3) := by decide +kernel
theorem dX4_counted_39 : decode cX4_counted 39 = .ok (.aload_n 0, 1) := by decide +kernel
theorem dX4_counted_40 : decode cX4_counted 40 = .ok (.getfield 87, 3) := by decide +kernel
theorem dX4_counted_43 : decode cX4_counted 43 = .ok (.iload 6, 2) := by decide +kernel
theorem dX4_counted_45 : decode cX4_counted 45 = .ok (.iload_n 1, 1) := by decide +kernel
theorem dX4_counted_46 : decode cX4_counted 46 = .ok (.invokestatic 118, 3) := by decide +kernel
theorem dX4_counted_49 : decode cX4_counted 49 = .ok (.iaload, 1) := by decide +kernel
theorem dX4_counted_50 : decode cX4_counted 50 = .ok (.istore 7, 2) := by decide +kernel
theorem dX4_counted_52 : decode cX4_counted 52 = .ok (.iload 5, 2) := by decide +kernel
theorem dX4_counted_54 : decode cX4_counted 54 = .ok (.iload 7, 2) := by decide +kernel
theorem dX4_counted_56 : decode cX4_counted 56 = .ok (.iload 4, 2) := by decide +kernel
theorem dX4_counted_58 : decode cX4_counted 58 = .ok (.if_icmp .gt 16, 3) := by decide +kernel
theorem dX4_counted_61 : decode cX4_counted 61 = .ok (.iload 7, 2) := by decide +kernel
theorem dX4_counted_63 : decode cX4_counted 63 = .ok (.iload 4, 2) := by decide +kernel
theorem dX4_counted_65 : decode cX4_counted 65 = .ok (.if_icmp .ne 13, 3) := by decide +kernel
theorem dX4_counted_68 : decode cX4_counted 68 = .ok (.iload 6, 2) := by decide +kernel
theorem dX4_counted_70 : decode cX4_counted 70 = .ok (.iload_n 3, 1) := by decide +kernel
theorem dX4_counted_71 : decode cX4_counted 71 = .ok (.if_icmp .ge 7, 3) := by decide +kernel
theorem dX4_counted_74 : decode cX4_counted 74 = .ok (.iconst 1, 1) := by decide +kernel
theorem dX4_counted_75 : decode cX4_counted 75 = .ok (.goto 4, 3) := by decide +kernel
theorem dX4_counted_78 : decode cX4_counted 78 = .ok (.iconst 0, 1) := by decide +kernel
theorem dX4_counted_79 : decode cX4_counted 79 = .ok (.iadd, 1) := by decide +kernel
theorem dX4_counted_80 : decode cX4_counted 80 = .ok (.istore 5, 2) := by decide +kernel
theorem dX4_counted_82 : decode cX4_counted 82 = .ok (.iinc 6 1, 3) := by decide +kernel
theorem dX4_counted_85 : decode cX4_counted 85 = .ok (.goto (-55), 3) := by decide +kernel
theorem dX4_counted_88 : decode cX4_counted 88 = .ok (.iload_n 2, 1) := by decide +kernel
theorem dX4_counted_89 : decode cX4_counted 89 = .ok (.iload 5, 2) := by decide +kernel
theorem dX4_counted_91 : decode cX4_counted 91 = .ok (.iconst 3, 1) := by decide +kernel
theorem dX4_counted_92 : decode cX4_counted 92 = .ok (.if_icmp .ge 8, 3) := by decide +kernel
theorem dX4_counted_95 : decode cX4_counted 95 = .ok (.iload 4, 2) := by decide +kernel
theorem dX4_counted_97 : decode cX4_counted 97 = .ok (.goto 4, 3) := by decide +kernel
theorem dX4_counted_100 : decode cX4_counted 100 = .ok (.iconst 0, 1) := by decide +kernel
theorem dX4_counted_101 : decode cX4_counted 101 = .ok (.iadd, 1) := by decide +kernel
theorem dX4_counted_102 : decode cX4_counted 102 = .ok (.istore_n 2, 1) := by decide +kernel
theorem dX4_counted_103 : decode cX4_counted 103 = .ok (.iinc 3 1, 3) := by decide +kernel
theorem dX4_counted_106 : decode cX4_counted 106 = .ok (.goto (-102), 3) := by decide +kernel
theorem dX4_counted_109 : decode cX4_counted 109 = .ok (.iload_n 2, 1) := by decide +kernel
theorem dX4_counted_110 : decode cX4_counted 110 = .ok (.ireturn, 1) := by decide +kernel
theorem dX4_counts_0 : decode cX4_counts 0 = .ok (.aload_n 0, 1) := by decide +kernel
theorem dX4_counts_1 : decode cX4_counts 1 = .ok (.aload_n 0, 1) := by decide +kernel
theorem dX4_counts_2 : decode cX4_counts 2 = .ok (.iload_n 1, 1) := by decide +kernel
theorem dX4_counts_3 : decode cX4_counts 3 = .ok (.invokevirtual 135, 3) := by decide +kernel
theorem dX4_counts_6 : decode cX4_counts 6 = .ok (.ifCond .eq 7, 3) := by decide +kernel
theorem dX4_counts_9 : decode cX4_counts 9 = .ok (.iconst 0, 1) := by decide +kernel
theorem dX4_counts_10 : decode cX4_counts 10 = .ok (.goto 4, 3) := by decide +kernel
theorem dX4_counts_13 : decode cX4_counts 13 = .ok (.iconst 1, 1) := by decide +kernel
theorem dX4_counts_14 : decode cX4_counts 14 = .ok (.invokevirtual 113, 3) := by decide +kernel
theorem dX4_counts_17 : decode cX4_counts 17 = .ok (.ifCond .eq 11, 3) := by decide +kernel
theorem dX4_counts_20 : decode cX4_counts 20 = .ok (.aload_n 0, 1) := by decide +kernel
theorem dX4_counts_21 : decode cX4_counts 21 = .ok (.iload_n 1, 1) := by decide +kernel
theorem dX4_counts_22 : decode cX4_counts 22 = .ok (.invokevirtual 206, 3) := by decide +kernel
theorem dX4_counts_25 : decode cX4_counts 25 = .ok (.goto 4, 3) := by decide +kernel
theorem dX4_counts_28 : decode cX4_counts 28 = .ok (.iconst 0, 1) := by decide +kernel
theorem dX4_counts_29 : decode cX4_counts 29 = .ok (.ireturn, 1) := by decide +kernel
theorem dX4_isBetter_0 : decode cX4_isBetter 0 = .ok (.aload_n 0, 1) := by decide +kernel
theorem dX4_isBetter_1 : decode cX4_isBetter 1 = .ok (.iload_n 1, 1) := by decide +kernel
theorem dX4_isBetter_2 : decode cX4_isBetter 2 = .ok (.invokevirtual 206, 3) := by decide +kernel
theorem dX4_isBetter_5 : decode cX4_isBetter 5 = .ok (.aload_n 0, 1) := by decide +kernel
theorem dX4_isBetter_6 : decode cX4_isBetter 6 = .ok (.iload_n 2, 1) := by decide +kernel
theorem dX4_isBetter_7 : decode cX4_isBetter 7 = .ok (.invokevirtual 206, 3) := by decide +kernel
theorem dX4_isBetter_10 : decode cX4_isBetter 10 = .ok (.isub, 1) := by decide +kernel
theorem dX4_isBetter_11 : decode cX4_isBetter 11 = .ok (.istore_n 3, 1) := by decide +kernel
theorem dX4_isBetter_12 : decode cX4_isBetter 12 = .ok (.aload_n 0, 1) := by decide +kernel
theorem dX4_isBetter_13 : decode cX4_isBetter 13 = .ok (.iload_n 1, 1) := by decide +kernel
theorem dX4_isBetter_14 : decode cX4_isBetter 14 = .ok (.invokevirtual 209, 3) := by decide +kernel
theorem dX4_isBetter_17 : decode cX4_isBetter 17 = .ok (.aload_n 0, 1) := by decide +kernel
theorem dX4_isBetter_18 : decode cX4_isBetter 18 = .ok (.iload_n 2, 1) := by decide +kernel
theorem dX4_isBetter_19 : decode cX4_isBetter 19 = .ok (.invokevirtual 209, 3) := by decide +kernel
theorem dX4_isBetter_22 : decode cX4_isBetter 22 = .ok (.isub, 1) := by decide +kernel
theorem dX4_isBetter_23 : decode cX4_isBetter 23 = .ok (.istore 4, 2) := by decide +kernel
theorem dX4_isBetter_25 : decode cX4_isBetter 25 = .ok (.iload_n 3, 1) := by decide +kernel
theorem dX4_isBetter_26 : decode cX4_isBetter 26 = .ok (.ifCond .eq 15, 3) := by decide +kernel
theorem dX4_isBetter_29 : decode cX4_isBetter 29 = .ok (.iload_n 3, 1) := by decide +kernel
theorem dX4_isBetter_30 : decode cX4_isBetter 30 = .ok (.ifCond .le 7, 3) := by decide +kernel
theorem dX4_isBetter_33 : decode cX4_isBetter 33 = .ok (.iconst 1, 1) := by decide +kernel
theorem dX4_isBetter_34 : decode cX4_isBetter 34 = .ok (.goto 35, 3) := by decide +kernel
theorem dX4_isBetter_37 : decode cX4_isBetter 37 = .ok (.iconst 0, 1) := by decide +kernel
theorem dX4_isBetter_38 : decode cX4_isBetter 38 = .ok (.goto 31, 3) := by decide +kernel
theorem dX4_isBetter_41 : decode cX4_isBetter 41 = .ok (.iload 4, 2) := by decide +kernel
theorem dX4_isBetter_43 : decode cX4_isBetter 43 = .ok (.ifCond .eq 16, 3) := by decide +kernel
theorem dX4_isBetter_46 : decode cX4_isBetter 46 = .ok (.iload 4, 2) := by decide +kernel
theorem dX4_isBetter_48 : decode cX4_isBetter 48 = .ok (.ifCond .le 7, 3) := by decide +kernel
theorem dX4_isBetter_51 : decode cX4_isBetter 51 = .ok (.iconst 1, 1) := by decide +kernel
theorem dX4_isBetter_52 : decode cX4_isBetter 52 = .ok (.goto 17, 3) := by decide +kernel
theorem dX4_isBetter_55 : decode cX4_isBetter 55 = .ok (.iconst 0, 1) := by decide +kernel
theorem dX4_isBetter_56 : decode cX4_isBetter 56 = .ok (.goto 13, 3) := by decide +kernel
theorem dX4_isBetter_59 : decode cX4_isBetter 59 = .ok (.iload_n 1, 1) := by decide +kernel
theorem dX4_isBetter_60 : decode cX4_isBetter 60 = .ok (.iload_n 2, 1) := by decide +kernel
theorem dX4_isBetter_61 : decode cX4_isBetter 61 = .ok (.if_icmp .ge 7, 3) := by decide +kernel
theorem dX4_isBetter_64 : decode cX4_isBetter 64 = .ok (.iconst 1, 1) := by decide +kernel
theorem dX4_isBetter_65 : decode cX4_isBetter 65 = .ok (.goto 4, 3) := by decide +kernel
theorem dX4_isBetter_68 : decode cX4_isBetter 68 = .ok (.iconst 0, 1) := by decide +kernel
theorem dX4_isBetter_69 : decode cX4_isBetter 69 = .ok (.ireturn, 1) := by decide +kernel
theorem dX4_riderOf_0 : decode cX4_riderOf 0 = .ok (.iconst (-1), 1) := by decide +kernel
theorem dX4_riderOf_1 : decode cX4_riderOf 1 = .ok (.istore_n 2, 1) := by decide +kernel
theorem dX4_riderOf_2 : decode cX4_riderOf 2 = .ok (.iconst 0, 1) := by decide +kernel
theorem dX4_riderOf_3 : decode cX4_riderOf 3 = .ok (.istore_n 3, 1) := by decide +kernel
theorem dX4_riderOf_4 : decode cX4_riderOf 4 = .ok (.iload_n 3, 1) := by decide +kernel
theorem dX4_riderOf_5 : decode cX4_riderOf 5 = .ok (.aload_n 0, 1) := by decide +kernel
theorem dX4_riderOf_6 : decode cX4_riderOf 6 = .ok (.getfield 107, 3) := by decide +kernel
theorem dX4_riderOf_9 : decode cX4_riderOf 9 = .ok (.if_icmp .ge 68, 3) := by decide +kernel
theorem dX4_riderOf_12 : decode cX4_riderOf 12 = .ok (.iconst 0, 1) := by decide +kernel
theorem dX4_riderOf_13 : decode cX4_riderOf 13 = .ok (.istore 4, 2) := by decide +kernel
theorem dX4_riderOf_15 : decode cX4_riderOf 15 = .ok (.iconst 0, 1) := by decide +kernel
theorem dX4_riderOf_16 : decode cX4_riderOf 16 = .ok (.istore 5, 2) := by decide +kernel
theorem dX4_riderOf_18 : decode cX4_riderOf 18 = .ok (.iload 5, 2) := by decide +kernel
theorem dX4_riderOf_20 : decode cX4_riderOf 20 = .ok (.aload_n 0, 1) := by decide +kernel
theorem dX4_riderOf_21 : decode cX4_riderOf 21 = .ok (.getfield 107, 3) := by decide +kernel
theorem dX4_riderOf_24 : decode cX4_riderOf 24 = .ok (.if_icmp .ge 35, 3) := by decide +kernel
theorem dX4_riderOf_27 : decode cX4_riderOf 27 = .ok (.iload 4, 2) := by decide +kernel
theorem dX4_riderOf_29 : decode cX4_riderOf 29 = .ok (.iload 5, 2) := by decide +kernel
theorem dX4_riderOf_31 : decode cX4_riderOf 31 = .ok (.iload_n 3, 1) := by decide +kernel
theorem dX4_riderOf_32 : decode cX4_riderOf 32 = .ok (.if_icmp .eq 17, 3) := by decide +kernel
theorem dX4_riderOf_35 : decode cX4_riderOf 35 = .ok (.aload_n 0, 1) := by decide +kernel
theorem dX4_riderOf_36 : decode cX4_riderOf 36 = .ok (.iload 5, 2) := by decide +kernel
theorem dX4_riderOf_38 : decode cX4_riderOf 38 = .ok (.iload_n 3, 1) := by decide +kernel
theorem dX4_riderOf_39 : decode cX4_riderOf 39 = .ok (.invokevirtual 212, 3) := by decide +kernel
theorem dX4_riderOf_42 : decode cX4_riderOf 42 = .ok (.ifCond .eq 7, 3) := by decide +kernel
theorem dX4_riderOf_45 : decode cX4_riderOf 45 = .ok (.iconst 1, 1) := by decide +kernel
theorem dX4_riderOf_46 : decode cX4_riderOf 46 = .ok (.goto 4, 3) := by decide +kernel
theorem dX4_riderOf_49 : decode cX4_riderOf 49 = .ok (.iconst 0, 1) := by decide +kernel
theorem dX4_riderOf_50 : decode cX4_riderOf 50 = .ok (.iadd, 1) := by decide +kernel
theorem dX4_riderOf_51 : decode cX4_riderOf 51 = .ok (.istore 4, 2) := by decide +kernel
theorem dX4_riderOf_53 : decode cX4_riderOf 53 = .ok (.iinc 5 1, 3) := by decide +kernel
theorem dX4_riderOf_56 : decode cX4_riderOf 56 = .ok (.goto (-38), 3) := by decide +kernel
theorem dX4_riderOf_59 : decode cX4_riderOf 59 = .ok (.iload 4, 2) := by decide +kernel
theorem dX4_riderOf_61 : decode cX4_riderOf 61 = .ok (.iload_n 1, 1) := by decide +kernel
theorem dX4_riderOf_62 : decode cX4_riderOf 62 = .ok (.if_icmp .ne 7, 3) := by decide +kernel
theorem dX4_riderOf_65 : decode cX4_riderOf 65 = .ok (.iload_n 3, 1) := by decide +kernel
theorem dX4_riderOf_66 : decode cX4_riderOf 66 = .ok (.goto 4, 3) := by decide +kernel
theorem dX4_riderOf_69 : decode cX4_riderOf 69 = .ok (.iload_n 2, 1) := by decide +kernel
theorem dX4_riderOf_70 : decode cX4_riderOf 70 = .ok (.istore_n 2, 1) := by decide +kernel
theorem dX4_riderOf_71 : decode cX4_riderOf 71 = .ok (.iinc 3 1, 3) := by decide +kernel
theorem dX4_riderOf_74 : decode cX4_riderOf 74 = .ok (.goto (-70), 3) := by decide +kernel
theorem dX4_riderOf_77 : decode cX4_riderOf 77 = .ok (.iload_n 2, 1) := by decide +kernel
theorem dX4_riderOf_78 : decode cX4_riderOf 78 = .ok (.ireturn, 1) := by decide +kernel
theorem dX4_ranked_0 : decode cX4_ranked 0 = .ok (.aload_n 0, 1) := by decide +kernel
theorem dX4_ranked_1 : decode cX4_ranked 1 = .ok (.iload_n 1, 1) := by decide +kernel
theorem dX4_ranked_2 : decode cX4_ranked 2 = .ok (.iconst 0, 1) := by decide +kernel
theorem dX4_ranked_3 : decode cX4_ranked 3 = .ok (.bipush 11, 2) := by decide +kernel
theorem dX4_ranked_5 : decode cX4_ranked 5 = .ok (.invokestatic 103, 3) := by decide +kernel
theorem dX4_ranked_8 : decode cX4_ranked 8 = .ok (.ifCond .eq 7, 3) := by decide +kernel
theorem dX4_ranked_11 : decode cX4_ranked 11 = .ok (.iconst 0, 1) := by decide +kernel
theorem dX4_ranked_12 : decode cX4_ranked 12 = .ok (.goto 4, 3) := by decide +kernel
theorem dX4_ranked_15 : decode cX4_ranked 15 = .ok (.iconst 1, 1) := by decide +kernel
theorem dX4_ranked_16 : decode cX4_ranked 16 = .ok (.invokevirtual 113, 3) := by decide +kernel
theorem dX4_ranked_19 : decode cX4_ranked 19 = .ok (.ifCond .eq 11, 3) := by decide +kernel
theorem dX4_ranked_22 : decode cX4_ranked 22 = .ok (.aload_n 0, 1) := by decide +kernel
theorem dX4_ranked_23 : decode cX4_ranked 23 = .ok (.iload_n 1, 1) := by decide +kernel
theorem dX4_ranked_24 : decode cX4_ranked 24 = .ok (.invokevirtual 215, 3) := by decide +kernel
theorem dX4_ranked_27 : decode cX4_ranked 27 = .ok (.goto 4, 3) := by decide +kernel
theorem dX4_ranked_30 : decode cX4_ranked 30 = .ok (.iconst 0, 1) := by decide +kernel
theorem dX4_ranked_31 : decode cX4_ranked 31 = .ok (.ireturn, 1) := by decide +kernel
theorem dX4_isBalanced_0 : decode cX4_isBalanced 0 = .ok (.aload_n 0, 1) := by decide +kernel
theorem dX4_isBalanced_1 : decode cX4_isBalanced 1 = .ok (.getfield 50, 3) := by decide +kernel
theorem dX4_isBalanced_4 : decode cX4_isBalanced 4 = .ok (.iload_n 1, 1) := by decide +kernel
theorem dX4_isBalanced_5 : decode cX4_isBalanced 5 = .ok (.iaload, 1) := by decide +kernel
theorem dX4_isBalanced_6 : decode cX4_isBalanced 6 = .ok (.istore_n 2, 1) := by decide +kernel
theorem dX4_isBalanced_7 : decode cX4_isBalanced 7 = .ok (.iload_n 1, 1) := by decide +kernel
theorem dX4_isBalanced_8 : decode cX4_isBalanced 8 = .ok (.iconst 0, 1) := by decide +kernel
theorem dX4_isBalanced_9 : decode cX4_isBalanced 9 = .ok (.invokestatic 118, 3) := by decide +kernel
theorem dX4_isBalanced_12 : decode cX4_isBalanced 12 = .ok (.istore_n 3, 1) := by decide +kernel
theorem dX4_isBalanced_13 : decode cX4_isBalanced 13 = .ok (.iload_n 3, 1) := by decide +kernel
theorem dX4_isBalanced_14 : decode cX4_isBalanced 14 = .ok (.iload_n 1, 1) := by decide +kernel
theorem dX4_isBalanced_15 : decode cX4_isBalanced 15 = .ok (.iconst 1, 1) := by decide +kernel
theorem dX4_isBalanced_16 : decode cX4_isBalanced 16 = .ok (.iadd, 1) := by decide +kernel
theorem dX4_isBalanced_17 : decode cX4_isBalanced 17 = .ok (.iconst 0, 1) := by decide +kernel
theorem dX4_isBalanced_18 : decode cX4_isBalanced 18 = .ok (.invokestatic 118, 3) := by decide +kernel
theorem dX4_isBalanced_21 : decode cX4_isBalanced 21 = .ok (.if_icmp .ge 18, 3) := by decide +kernel
theorem dX4_isBalanced_24 : decode cX4_isBalanced 24 = .ok (.iload_n 2, 1) := by decide +kernel
theorem dX4_isBalanced_25 : decode cX4_isBalanced 25 = .ok (.aload_n 0, 1) := by decide +kernel
theorem dX4_isBalanced_26 : decode cX4_isBalanced 26 = .ok (.getfield 87, 3) := by decide +kernel
theorem dX4_isBalanced_29 : decode cX4_isBalanced 29 = .ok (.iload_n 3, 1) := by decide +kernel
theorem dX4_isBalanced_30 : decode cX4_isBalanced 30 = .ok (.iaload, 1) := by decide +kernel
theorem dX4_isBalanced_31 : decode cX4_isBalanced 31 = .ok (.iadd, 1) := by decide +kernel
theorem dX4_isBalanced_32 : decode cX4_isBalanced 32 = .ok (.istore_n 2, 1) := by decide +kernel
theorem dX4_isBalanced_33 : decode cX4_isBalanced 33 = .ok (.iinc 3 1, 3) := by decide +kernel
theorem dX4_isBalanced_36 : decode cX4_isBalanced 36 = .ok (.goto (-23), 3) := by decide +kernel
theorem dX4_isBalanced_39 : decode cX4_isBalanced 39 = .ok (.aload_n 0, 1) := by decide +kernel
theorem dX4_isBalanced_40 : decode cX4_isBalanced 40 = .ok (.getfield 47, 3) := by decide +kernel
theorem dX4_isBalanced_43 : decode cX4_isBalanced 43 = .ok (.iload_n 1, 1) := by decide +kernel
theorem dX4_isBalanced_44 : decode cX4_isBalanced 44 = .ok (.iaload, 1) := by decide +kernel
theorem dX4_isBalanced_45 : decode cX4_isBalanced 45 = .ok (.iconst 3, 1) := by decide +kernel
theorem dX4_isBalanced_46 : decode cX4_isBalanced 46 = .ok (.if_icmp .ne 12, 3) := by decide +kernel
theorem dX4_isBalanced_49 : decode cX4_isBalanced 49 = .ok (.iload_n 2, 1) := by decide +kernel
theorem dX4_isBalanced_50 : decode cX4_isBalanced 50 = .ok (.aload_n 0, 1) := by decide +kernel
theorem dX4_isBalanced_51 : decode cX4_isBalanced 51 = .ok (.iload_n 1, 1) := by decide +kernel
theorem dX4_isBalanced_52 : decode cX4_isBalanced 52 = .ok (.invokevirtual 126, 3) := by decide +kernel
theorem dX4_isBalanced_55 : decode cX4_isBalanced 55 = .ok (.if_icmp .ne 7, 3) := by decide +kernel
theorem dX4_isBalanced_58 : decode cX4_isBalanced 58 = .ok (.iconst 1, 1) := by decide +kernel
theorem dX4_isBalanced_59 : decode cX4_isBalanced 59 = .ok (.goto 4, 3) := by decide +kernel
theorem dX4_isBalanced_62 : decode cX4_isBalanced 62 = .ok (.iconst 0, 1) := by decide +kernel
theorem dX4_isBalanced_63 : decode cX4_isBalanced 63 = .ok (.ireturn, 1) := by decide +kernel
theorem dX4_balances_0 : decode cX4_balances 0 = .ok (.aload_n 0, 1) := by decide +kernel
theorem dX4_balances_1 : decode cX4_balances 1 = .ok (.iconst 0, 1) := by decide +kernel
theorem dX4_balances_2 : decode cX4_balances 2 = .ok (.putfield 97, 3) := by decide +kernel
theorem dX4_balances_5 : decode cX4_balances 5 = .ok (.iconst 1, 1) := by decide +kernel
theorem dX4_balances_6 : decode cX4_balances 6 = .ok (.istore_n 1, 1) := by decide +kernel
theorem dX4_balances_7 : decode cX4_balances 7 = .ok (.iconst 0, 1) := by decide +kernel
theorem dX4_balances_8 : decode cX4_balances 8 = .ok (.istore_n 2, 1) := by decide +kernel
theorem dX4_balances_9 : decode cX4_balances 9 = .ok (.iload_n 2, 1) := by decide +kernel
theorem dX4_balances_10 : decode cX4_balances 10 = .ok (.aload_n 0, 1) := by decide +kernel
theorem dX4_balances_11 : decode cX4_balances 11 = .ok (.getfield 110, 3) := by decide +kernel
theorem dX4_balances_14 : decode cX4_balances 14 = .ok (.if_icmp .ge 27, 3) := by decide +kernel
theorem dX4_balances_17 : decode cX4_balances 17 = .ok (.iload_n 1, 1) := by decide +kernel
theorem dX4_balances_18 : decode cX4_balances 18 = .ok (.ifCond .eq 15, 3) := by decide +kernel
theorem dX4_balances_21 : decode cX4_balances 21 = .ok (.aload_n 0, 1) := by decide +kernel
theorem dX4_balances_22 : decode cX4_balances 22 = .ok (.iload_n 2, 1) := by decide +kernel
theorem dX4_balances_23 : decode cX4_balances 23 = .ok (.invokevirtual 218, 3) := by decide +kernel
theorem dX4_balances_26 : decode cX4_balances 26 = .ok (.ifCond .eq 7, 3) := by decide +kernel
theorem dX4_balances_29 : decode cX4_balances 29 = .ok (.iconst 1, 1) := by decide +kernel
theorem dX4_balances_30 : decode cX4_balances 30 = .ok (.goto 4, 3) := by decide +kernel
theorem dX4_balances_33 : decode cX4_balances 33 = .ok (.iconst 0, 1) := by decide +kernel
theorem dX4_balances_34 : decode cX4_balances 34 = .ok (.istore_n 1, 1) := by decide +kernel
theorem dX4_balances_35 : decode cX4_balances 35 = .ok (.iinc 2 1, 3) := by decide +kernel
theorem dX4_balances_38 : decode cX4_balances 38 = .ok (.goto (-29), 3) := by decide +kernel
theorem dX4_balances_41 : decode cX4_balances 41 = .ok (.iconst 0, 1) := by decide +kernel
theorem dX4_balances_42 : decode cX4_balances 42 = .ok (.istore_n 2, 1) := by decide +kernel
theorem dX4_balances_43 : decode cX4_balances 43 = .ok (.iload_n 2, 1) := by decide +kernel
theorem dX4_balances_44 : decode cX4_balances 44 = .ok (.aload_n 0, 1) := by decide +kernel
theorem dX4_balances_45 : decode cX4_balances 45 = .ok (.getfield 100, 3) := by decide +kernel
theorem dX4_balances_48 : decode cX4_balances 48 = .ok (.if_icmp .ge 43, 3) := by decide +kernel
theorem dX4_balances_51 : decode cX4_balances 51 = .ok (.iload_n 1, 1) := by decide +kernel
theorem dX4_balances_52 : decode cX4_balances 52 = .ok (.ifCond .eq 31, 3) := by decide +kernel
theorem dX4_balances_55 : decode cX4_balances 55 = .ok (.aload_n 0, 1) := by decide +kernel
theorem dX4_balances_56 : decode cX4_balances 56 = .ok (.getfield 22, 3) := by decide +kernel
theorem dX4_balances_59 : decode cX4_balances 59 = .ok (.iload_n 2, 1) := by decide +kernel
theorem dX4_balances_60 : decode cX4_balances 60 = .ok (.laload, 1) := by decide +kernel
theorem dX4_balances_61 : decode cX4_balances 61 = .ok (.aload_n 0, 1) := by decide +kernel
theorem dX4_balances_62 : decode cX4_balances 62 = .ok (.getfield 22, 3) := by decide +kernel
theorem dX4_balances_65 : decode cX4_balances 65 = .ok (.iload_n 2, 1) := by decide +kernel
theorem dX4_balances_66 : decode cX4_balances 66 = .ok (.laload, 1) := by decide +kernel
theorem dX4_balances_67 : decode cX4_balances 67 = .ok (.iconst 1, 1) := by decide +kernel
theorem dX4_balances_68 : decode cX4_balances 68 = .ok (.lshr, 1) := by decide +kernel
theorem dX4_balances_69 : decode cX4_balances 69 = .ok (.land, 1) := by decide +kernel
theorem dX4_balances_70 : decode cX4_balances 70 = .ok (.ldc2_w 221, 3) := by decide +kernel
theorem dX4_balances_73 : decode cX4_balances 73 = .ok (.land, 1) := by decide +kernel
theorem dX4_balances_74 : decode cX4_balances 74 = .ok (.lconst 0, 1) := by decide +kernel
theorem dX4_balances_75 : decode cX4_balances 75 = .ok (.lcmp, 1) := by decide +kernel
theorem dX4_balances_76 : decode cX4_balances 76 = .ok (.ifCond .ne 7, 3) := by decide +kernel
theorem dX4_balances_79 : decode cX4_balances 79 = .ok (.iconst 1, 1) := by decide +kernel
theorem dX4_balances_80 : decode cX4_balances 80 = .ok (.goto 4, 3) := by decide +kernel
theorem dX4_balances_83 : decode cX4_balances 83 = .ok (.iconst 0, 1) := by decide +kernel
theorem dX4_balances_84 : decode cX4_balances 84 = .ok (.istore_n 1, 1) := by decide +kernel
theorem dX4_balances_85 : decode cX4_balances 85 = .ok (.iinc 2 1, 3) := by decide +kernel
theorem dX4_balances_88 : decode cX4_balances 88 = .ok (.goto (-45), 3) := by decide +kernel
theorem dX4_balances_91 : decode cX4_balances 91 = .ok (.iload_n 1, 1) := by decide +kernel
theorem dX4_balances_92 : decode cX4_balances 92 = .ok (.ireturn, 1) := by decide +kernel
end
section
/-! My layer over the kit: a heap as a map from addresses to entries, methods' contracts over such maps. -/
def TB : List Cond := lw_tbl.filter goodWord
theorem tb_of {w : Cond} (h : w ∈ lw_tbl) (g : goodWord w = true) : w ∈ TB := List.mem_filter.mpr ⟨h, g⟩
theorem tb_t (i : Nat) {w : Cond} (h : tables_1[i]? = some w) (g : goodWord w = true) : w ∈ TB := tb_of (List.mem_append_right _ (List.mem_of_getElem? h)) g
theorem tb_s (i : Nat) {w : Cond} (h : (k2_sels lw_privs)[i]? = some w) (g : goodWord w = true) : w ∈ TB := tb_of (List.mem_append_left _ (List.mem_of_getElem? h)) g
theorem tb_gw {w : Cond} (h : w ∈ TB) : goodWord w = true := (List.mem_filter.mp h).2
theorem tb_gi {cx cy : Cond} {pre : List Cond} (hp : ∀ w ∈ pre, w ∈ TB) (h : cy ∈ TB) : GoodIn (cx :: TB) (pre ++ cy :: TB) := by
  intro w hw
  have h1 : w ∈ TB := by
    rcases List.mem_append.mp hw with h2 | h2
    · exact hp w h2
    · rcases List.mem_cons.mp h2 with rfl | h2
      · exact h
      · exact h2
  exact ⟨List.mem_cons_of_mem _ h1, good_of_word (tb_gw h1)⟩
abbrev MM : Type := Nat → Option va_E
def mup (M : MM) (q : Nat) (e : va_E) : MM := fun a => if a = q then some e else M a
theorem mup_s {M : MM} {q : Nat} {e : va_E} : mup M q e q = some e := if_pos rfl
theorem mup_n {M : MM} {q a : Nat} {e : va_E} (h : a ≠ q) : mup M q e a = M a := if_neg h
abbrev GP : Type := va_G × (Nat → ClassId) × Nat × (Nat → Nat)
abbrev gD (g : GP) : va_G := g.1
abbrev gC (g : GP) : Nat → ClassId := g.2.1
abbrev gB (g : GP) : Nat := g.2.2.1
abbrev gA (g : GP) : Nat → Nat := g.2.2.2
def gO (g : GP) : Nat → Prop := fun q => gB g ≤ q
def tysL (cA : Nat → ClassId) : List (ClassId × FieldType) := [(cA 0, .int), (cA 1, .long), (cA 2, .boolean), (cA 3, .object "java/lang/Object"), (cA 4, .object "RankStock$Entry")]
def hm (g : GP) (M : MM) (H : Heap) : Prop := ∀ q e, M q = some e → gB g ≤ q ∧ va_at (gD g) vwCl (q, e) H
theorem hm.lt {g : GP} {M : MM} {H : Heap} (h : hm g M H) {q : Nat} {e : va_E} (hq : M q = some e) : q < H.size := (h q e hq).2.lt
theorem hm.ge {g : GP} {M : MM} {H : Heap} (h : hm g M H) {q : Nat} {e : va_E} (hq : M q = some e) : gB g ≤ q := (h q e hq).1
theorem hm.at {g : GP} {M : MM} {H : Heap} (h : hm g M H) {q : Nat} {e : va_E} (hq : M q = some e) : va_at (gD g) vwCl (q, e) H := (h q e hq).2
theorem hm.kept {g : GP} {M : MM} {H H1 : Heap} (h : hm g M H) (hk : ∀ q, gB g ≤ q → q < H.size → H1[q]? = H[q]?) : hm g M H1 := fun q e hq => ⟨h.ge hq, (h.at hq).kept (hk q (h.ge hq) (h.lt hq))⟩
theorem hm.one {g : GP} {M : MM} {H : Heap} (h : hm g M H) {q : Nat} {e : va_E} (hq : M q = some e) : va_P (gD g) vwCl [(q, e)] H := by
  intro k x hx
  cases k with
  | zero => cases hx; exact h.at hq
  | succ k => simp at hx
theorem hm.set {g : GP} {M : MM} {H H1 : Heap} (h : hm g M H) {q : Nat} {e e' : va_E} (hq : M q = some e) (h1 : va_at (gD g) vwCl (q, e') H1) (ho : ∀ a, a ≠ q → H1[a]? = H[a]?) : hm g (mup M q e') H1 := by
  intro a x hx
  by_cases ha : a = q
  · subst ha
    rw [mup_s] at hx
    cases hx
    exact ⟨h.ge hq, h1⟩
  · rw [mup_n ha] at hx
    exact ⟨h.ge hx, (h.at hx).kept (ho a ha)⟩
theorem hm.new {g : GP} {M : MM} {H H1 : Heap} (h : hm g M H) {q : Nat} {e' : va_E} (hz : H.size = q) (hg : gB g ≤ q) (h1 : va_at (gD g) vwCl (q, e') H1) (ho : ∀ a, a < H.size → H1[a]? = H[a]?) : hm g (mup M q e') H1 := by
  intro a x hx
  by_cases ha : a = q
  · subst ha
    rw [mup_s] at hx
    cases hx
    exact ⟨hg, h1⟩
  · rw [mup_n ha] at hx
    exact ⟨h.ge hx, (h.at hx).kept (ho a (h.lt hx))⟩
theorem hm.fresh {g : GP} {M : MM} {H : Heap} (h : hm g M H) {q : Nat} (hz : H.size = q) : M q = none := by
  cases hq : M q with
  | none => rfl
  | some e => have := h.lt hq; omega
-- what of the state never changes
def SRl : List (Nat × String) := [(32, "no such kind"), (43, "no more beasts"), (55, "no more riders"), (61, "kind, mile or first day"), (63, "performances or places"), (66, "money added or fee"), (68, "no more rodeos"), (254, "no such rodeo"), (94, "no such question"), (256, "no such rider"), (103, "no such set of performances"), (109, "the wish is not in the set"), (111, "not open, or entered by that rider"), (122, "not open"), (155, "no such hidden number"), (157, "not closed"), (167, "marks or watches"), (173, "no beast to be ridden"), (188, "no re-ride is offered"), (202, "no such beast"), (225, "cannot be paid"), (243, "no such rank")]
def sIA : String := "java/lang/IllegalArgumentException"
def sIS : String := "java/lang/IllegalStateException"
def sIO : String := "java/lang/IndexOutOfBoundsException"
def CCl : List (String × String) := [(sIA, sIA), (sIS, sIS), (sIO, sIO), (RX0, "java/lang/Object"), (RX1, "java/lang/Object"), (RX2, "java/lang/Object")]
def DCl : List MethodName := [⟨"java/lang/RuntimeException", "<init>", "()V"⟩, ⟨"java/lang/RuntimeException", "<init>", "(Ljava/lang/String;)V"⟩, ⟨"java/lang/Exception", "<init>", "()V"⟩, ⟨"java/lang/Exception", "<init>", "(Ljava/lang/String;)V"⟩, ⟨"java/lang/Throwable", "<init>", "()V"⟩, ⟨"java/lang/Throwable", "<init>", "(Ljava/lang/String;)V"⟩, ⟨"java/lang/Object", "getClass", "()Ljava/lang/Class;"⟩]
def NCl : List (String × String) := [(sIA, sIS), (sIA, sIO), (sIS, sIA), (sIS, sIO), (sIO, sIA), (sIO, sIS)]
def hundV (j : Nat) : Value := .int (if j = 0 then 40 else if j = 1 then 30 else if j = 2 then 20 else 10)
def GS (g : GP) (U : State) (H : Heap) : Prop :=
  va_Z "java/util/ArrayList" "DEFAULTCAPACITY_EMPTY_ELEMENTDATA" "[Ljava/lang/Object;" (.ref (gA g 0)) (gO g) U H ∧ va_T (.object "java/lang/Object") (gA g 0) 0 (fun _ => .null) (gO g) U H ∧
  va_Z "RankStock" "HUNDREDTHS" "[I" (.ref (gA g 1)) (gO g) U H ∧ va_T .int (gA g 1) 4 hundV (gO g) U H ∧
  vx_Zq Bundle.tN "UNASSIGNED_STACK" Bundle.steD (gO g) U H ∧ vx_Zq Bundle.tN "SUPPRESSED_SENTINEL" Bundle.listD (gO g) U H
def GT (g : GP) (U : State) : Prop :=
  va_K (gD g) vwCl (tysL (gC g)) U ∧ (∀ q ∈ SRl, ∃ a, vk_R RX3 q.1 q.2 a U) ∧ (∀ q ∈ CCl, va_Nw (.castable q.1 q.2) U) ∧ (∀ x ∈ DCl, va_Nw (.declares x) U) ∧ (∀ q ∈ NCl, va_Nc q.1 q.2 U) ∧
  va_Nw (.fieldLinkNest RX2 90 RX3 "HUNDREDTHS" "[I" RX3) U ∧ va_Nw (.methodLinkNest RX2 98 yX3_split RX3) U ∧ va_AO "java/lang/Object" U ∧ va_AO RX1 U ∧ va_Mi "[Ljava/lang/Object;" (gA g 2) U
def GG (g : GP) (U : State) : Prop := gB g ≤ U.heap.size ∧ GS g U U.heap ∧ GT g U
theorem GS.moved {g : GP} {u U : State} {H : Heap} (hvm : u.vm.Alike U.vm) (h : GS g u H) : GS g U H := ⟨h.1.moved hvm, h.2.1.moved hvm, h.2.2.1.moved hvm, h.2.2.2.1.moved hvm, h.2.2.2.2.1.moved hvm, h.2.2.2.2.2.moved hvm⟩
theorem GS.kept {g : GP} {U : State} {H H1 : Heap} (h : GS g U H) (hq : ∀ a : Nat, a < H.size → ¬ gO g a → H1[a]? = H[a]?) : GS g U H1 := ⟨h.1.kept hq, h.2.1.kept hq, h.2.2.1.kept hq, h.2.2.2.1.kept hq, h.2.2.2.2.1.kept hq, h.2.2.2.2.2.kept hq⟩
theorem GT.warm {g : GP} {s U : State} (hW : s.WarmedH U.vm) (h : GT g s) : GT g U := by
  obtain ⟨h1, h2, h3, h4, h5, h6, h7, h8, h9, h10⟩ := h
  exact ⟨h1.moved hW.alike, fun q hq => (h2 q hq).imp fun _ z => vk_R.warm hW z, fun q hq => va_Nw.warmC hW (h3 q hq), fun x hx => va_Nw.warmD hW (h4 x hx), fun q hq => va_Nc.moved hW.alike (h5 q hq), va_Nw.warmF hW h6, va_Nw.warmM hW h7, h8.moved hW.alike, h9.moved hW.alike, va_Mi.moved hW.alike h10⟩
theorem GG.step {g : GP} {s U : State} {H : Heap} {locs : List Loc} (h : GG g s) (hS : va_S (gO g) s.heap H locs) (hH : U.heap = H) (hW : s.WarmedH U.vm) : GG g U := by
  refine ⟨by rw [hH]; exact Nat.le_trans h.1 hS.1, ?_, h.2.2.warm hW⟩
  rw [hH]
  exact (h.2.1.kept hS.2.1).moved hW.alike
theorem GG.calling {g : GP} {U : State} {f : JFrame} {mk : MethodId} {a : Array Value} (h : GG g U) : GG g (U.calling f mk a) :=
  ⟨h.1, (h.2.1 : GS g U U.heap).moved (Vm.Alike.refl U.vm), h.2.2.warm (State.WarmedH.refl U)⟩
end
section
/-! the judgement XW and its rows -/
abbrev KX : Type := Program × Launch × Env × Room × State × MethodId × Array Value × List Frame × Method × Code
abbrev kp (K : KX) : Program := K.1
abbrev kl (K : KX) : Launch := K.2.1
abbrev ke (K : KX) : Env := K.2.2.1
abbrev kR (K : KX) : Room := K.2.2.2.1
abbrev ks (K : KX) : State := K.2.2.2.2.1
abbrev km (K : KX) : MethodId := K.2.2.2.2.2.1
abbrev ka (K : KX) : Array Value := K.2.2.2.2.2.2.1
abbrev kb (K : KX) : List Frame := K.2.2.2.2.2.2.2.1
abbrev kme (K : KX) : Method := K.2.2.2.2.2.2.2.2.1
abbrev kc (K : KX) : Code := K.2.2.2.2.2.2.2.2.2
def XW (K : KX) (g : GP) (nL : Nat) (Q : State → Prop) (M : MM) (a b pc : Nat) (L : List (Nat × Value)) (st : List Value) : Prop :=
  ∀ H locs ls, hm g M H → va_S (gO g) (ks K).heap H locs → lv_has ls nL L → W (kp K) (kl K) (ke K) (kR K) (ks K) (km K) (ka K) (kb K) (kme K) (kc K) H locs a b Q (F0 (km K) pc ls st)
/-- q thrown, of the class E, over the instruction at pc -/
def XT (K : KX) (g : GP) (nL : Nat) (Q : State → Prop) (M : MM) (a b pc : Nat) (L : List (Nat × Value)) (E : String) : Prop :=
  ∀ H locs ls rest q ce, hm g M H → va_S (gO g) (ks K).heap H locs → lv_has ls nL L → H[q]? = some ce → ce.vm = .none → (ks K).vm.findClass E = some ce.cls → vx_W (kp K) (kl K) (ke K) (kR K) (ks K) (km K) (ka K) (kb K) (kme K) (kc K) H locs a b Q (F0 (km K) pc ls rest) q
def Fx (K : KX) (g : GP) (cc : ByteArray) (own : String) (nL : Nat) (ret : Option FieldType) (hh : List (Nat × Nat × Nat × Nat)) (fr lo mc ms : Nat) : Prop :=
  (kp K).tables.exec = Jvm.exec ∧ (kc K).code = cc ∧ (kc K).maxLocals = nL ∧ (ks K).vm.findClass own = some (km K).cls ∧ (∀ w ∈ TB, w.before (ka K) (ks K) = true) ∧ GG g (ks K) ∧ (kme K).sig.returnType = ret ∧ (kme K).locks = false ∧ (kc K).exceptionTable.toList = tableOf hh ∧ (kl K).stackTraces = false ∧ (kR K).frames = fr ∧ (kR K).locals = lo ∧ (kR K).cells = mc ∧ (kR K).slots = ms
def xPc (g : GP) (av : List Value) (M : MM) : Array Value → State → Prop := va_Pc av (fun U => GG g U ∧ hm g M U.heap)
def xQc (g : GP) (post : Option Value → MM → Prop) : Array Value → State → Outcome → State → Prop := fun _ st oc t => (∃ v M', oc = .returned v ∧ post v M' ∧ hm g M' t.heap) ∧ va_F (gO g) st t
def xXC (g : GP) (px : String → MM → Prop) : String → State → State → Prop := fun E st t => (∃ M', px E M' ∧ hm g M' t.heap) ∧ va_F (gO g) st t
abbrev MQx (K : KX) (g : GP) (post : Option Value → MM → Prop) (px : String → MM → Prop) (mc ms : Nat) : State → Prop := vx_MQ (kb K) (xQc g post) (xXC g px) (ka K) (ks K) mc ms (gO g)
def CT (l : Launch) (g : GP) (y : MethodName) (cc : ByteArray) (nL : Nat) (ret : Option FieldType) (fr lo mc ms : Nat) (av : List Value) (M : MM) (post : Option Value → MM → Prop) (px : String → MM → Prop) : Prop :=
  vx_Met l y (Cond.code y cc nL ret :: TB) { frames := fr, cells := mc, slots := ms, locals := lo } (xPc g av M) (xQc g post) (xXC g px) mc ms (gO g)
def pI (P : Int32 → MM → Prop) : Option Value → MM → Prop := fun v M => ∃ r, v = some (.int r) ∧ P r M
def pR (P : Nat → MM → Prop) : Option Value → MM → Prop := fun v M => ∃ r, v = some (.ref r) ∧ P r M
def pQ (P : Option Nat → MM → Prop) : Option Value → MM → Prop := fun v M => ∃ r, v = some (va_rf r) ∧ P r M
def pV (P : MM → Prop) : Option Value → MM → Prop := fun v M => v = none ∧ P M
def nX : String → MM → Prop := fun _ _ => False
theorem xPc_blind {g : GP} {av : List Value} {M : MM} : FrameBlind (xPc g av M) := fun _ _ _ _ h => ⟨h.1, h.2.1.calling, h.2.2⟩
theorem ct_of {l : Launch} {g : GP} {y : MethodName} {cc : ByteArray} {nL : Nat} {ret : Option FieldType} {fr lo mc ms : Nat} {av : List Value} {M : MM} {post : Option Value → MM → Prop} {px : String → MM → Prop} (L : List (Nat × Value)) (hy : plainName y.cls = true) (hl : l.stackTraces = false) (hn : (lg_sl av).length ≤ nL) (hL : lv_args 0 av = L)
    (h : ∀ K : KX, kl K = l → Fx K g cc y.cls nL ret [] fr lo mc ms → XW K g nL (MQx K g post px mc ms) M 0 0 0 L []) : CT l g y cc nL ret fr lo mc ms av M post px := by
  refine vx_ofW (cc := cc) (maxL := nL) (ret := ret) hy rfl ?_
  intro p e s m args below meth c s₁ B hml ht hv
  obtain ⟨rfl, hG, hM⟩ := hv
  have hts := atoms_spec (ws := Cond.code y cc nL ret :: TB) B.pre
  have hl0 := lv_entry av (n := nL) hn
  rw [hL] at hl0
  rw [lg_entry_eq]
  have ht2 : c.exceptionTable.toList = tableOf [] := by
    cases hc : c.exceptionTable.toList with
    | nil => rfl
    | cons x xs => exact (ht x (by rw [hc]; exact List.mem_cons_self)).elim
  exact h (p, l, e, (headSpec (Cond.code y cc nL ret :: TB) { frames := fr, cells := mc, slots := ms, locals := lo }).room, s, m, _, below, meth, c) rfl ⟨B.exec, B.bytes, hml, findClass_of_methodNamed B.named, fun w hw => hts w (List.mem_cons_of_mem _ hw), hG, B.returns, B.notSynchronized, ht2, hl, rfl, rfl, rfl, rfl⟩ s.heap [] _ hM va_S.rf hl0
section XR
variable {K : KX} {g : GP} {cc : ByteArray} {own : String} {nL : Nat} {ret : Option FieldType} {hh : List (Nat × Nat × Nat × Nat)} {fr lo mc ms : Nat} {Q : State → Prop} {M : MM} {a b pc : Nat} {L : List (Nat × Value)} {st : List Value}
theorem Fx.ex (F : Fx K g cc own nL ret hh fr lo mc ms) : (kp K).tables.exec = Jvm.exec := F.1
theorem Fx.by_ (F : Fx K g cc own nL ret hh fr lo mc ms) : (kc K).code = cc := F.2.1
theorem Fx.lx (F : Fx K g cc own nL ret hh fr lo mc ms) : (kc K).maxLocals = nL := F.2.2.1
theorem Fx.ow (F : Fx K g cc own nL ret hh fr lo mc ms) : (ks K).vm.findClass own = some (km K).cls := F.2.2.2.1
theorem Fx.tb (F : Fx K g cc own nL ret hh fr lo mc ms) : ∀ w ∈ TB, w.before (ka K) (ks K) = true := F.2.2.2.2.1
theorem Fx.gg (F : Fx K g cc own nL ret hh fr lo mc ms) : GG g (ks K) := F.2.2.2.2.2.1
theorem Fx.re (F : Fx K g cc own nL ret hh fr lo mc ms) : (kme K).sig.returnType = ret := F.2.2.2.2.2.2.1
theorem Fx.lk (F : Fx K g cc own nL ret hh fr lo mc ms) : (kme K).locks = false := F.2.2.2.2.2.2.2.1
theorem Fx.ta (F : Fx K g cc own nL ret hh fr lo mc ms) : (kc K).exceptionTable.toList = tableOf hh := F.2.2.2.2.2.2.2.2.1
theorem Fx.nt (F : Fx K g cc own nL ret hh fr lo mc ms) : (kl K).stackTraces = false := F.2.2.2.2.2.2.2.2.2.1
theorem Fx.rf (F : Fx K g cc own nL ret hh fr lo mc ms) : (kR K).frames = fr := F.2.2.2.2.2.2.2.2.2.2.1
theorem Fx.rl (F : Fx K g cc own nL ret hh fr lo mc ms) : (kR K).locals = lo := F.2.2.2.2.2.2.2.2.2.2.2.1
theorem Fx.rc (F : Fx K g cc own nL ret hh fr lo mc ms) : (kR K).cells = mc := F.2.2.2.2.2.2.2.2.2.2.2.2.1
theorem Fx.rs (F : Fx K g cc own nL ret hh fr lo mc ms) : (kR K).slots = ms := F.2.2.2.2.2.2.2.2.2.2.2.2.2
theorem Fx.vk (F : Fx K g cc own nL ret hh fr lo mc ms) : va_K (gD g) vwCl (tysL (gC g)) (ks K) := F.gg.2.2.1
-- pure rows
theorem x_iload_n (F : Fx K g cc own nL ret hh fr lo mc ms) (j : Nat) {k : Fin 4} {x : Int32} (d : decode cc pc = .ok (.iload_n k, 1)) (h : L[j]? = some (k.val, .int x)) (kk : XW K g nL Q M a b (pc + 1) L (.int x :: st)) : XW K g nL Q M a b pc L st :=
  fun H lc ls hM hS hl => lv_iload_n F.ex F.by_ d rfl (lv_at hl j h) (kk H lc ls hM hS hl)
theorem x_iload (F : Fx K g cc own nL ret hh fr lo mc ms) (j : Nat) {k : Nat} {x : Int32} (d : decode cc pc = .ok (.iload k, 2)) (h : L[j]? = some (k, .int x)) (kk : XW K g nL Q M a b (pc + 2) L (.int x :: st)) : XW K g nL Q M a b pc L st :=
  fun H lc ls hM hS hl => lv_iload F.ex F.by_ d (lv_at hl j h) (kk H lc ls hM hS hl)
theorem x_lload_n (F : Fx K g cc own nL ret hh fr lo mc ms) (j : Nat) {k : Fin 4} {x : Int64} (d : decode cc pc = .ok (.lload_n k, 1)) (h : L[j]? = some (k.val, .long x)) (kk : XW K g nL Q M a b (pc + 1) L (.long x :: st)) : XW K g nL Q M a b pc L st :=
  fun H lc ls hM hS hl => lv_lload_n F.ex F.by_ d rfl (lv_at hl j h) (kk H lc ls hM hS hl)
theorem x_lload (F : Fx K g cc own nL ret hh fr lo mc ms) (j : Nat) {k : Nat} {x : Int64} (d : decode cc pc = .ok (.lload k, 2)) (h : L[j]? = some (k, .long x)) (kk : XW K g nL Q M a b (pc + 2) L (.long x :: st)) : XW K g nL Q M a b pc L st :=
  fun H lc ls hM hS hl => lv_lload F.ex F.by_ d (lv_at hl j h) (kk H lc ls hM hS hl)
theorem x_aload_n (F : Fx K g cc own nL ret hh fr lo mc ms) (j : Nat) {k : Fin 4} {x : Nat} (d : decode cc pc = .ok (.aload_n k, 1)) (h : L[j]? = some (k.val, .ref x)) (kk : XW K g nL Q M a b (pc + 1) L (.ref x :: st)) : XW K g nL Q M a b pc L st :=
  fun H lc ls hM hS hl => lv_aload_n F.ex F.by_ d rfl (lv_at hl j h) (kk H lc ls hM hS hl)
theorem x_aload (F : Fx K g cc own nL ret hh fr lo mc ms) (j : Nat) {k : Nat} {x : Nat} (d : decode cc pc = .ok (.aload k, 2)) (h : L[j]? = some (k, .ref x)) (kk : XW K g nL Q M a b (pc + 2) L (.ref x :: st)) : XW K g nL Q M a b pc L st :=
  fun H lc ls hM hS hl => lv_aload F.ex F.by_ d (lv_at hl j h) (kk H lc ls hM hS hl)
theorem x_istore_n (F : Fx K g cc own nL ret hh fr lo mc ms) (L' : List (Nat × Value)) {k : Fin 4} {x : Int32} (d : decode cc pc = .ok (.istore_n k, 1)) (hn : k.val < nL) (h : (k.val, Value.int x) :: L.filter (fun q => !(q.1 == k.val) && !(q.1 + 1 == k.val && q.2.category == 2)) = L') (kk : XW K g nL Q M a b (pc + 1) L' st) : XW K g nL Q M a b pc L (.int x :: st) :=
  fun H lc ls hM hS hl => lv_istore_n F.ex F.by_ d rfl hl hn h (fun ls' hl' => kk H lc ls' hM hS hl')
theorem x_istore (F : Fx K g cc own nL ret hh fr lo mc ms) (L' : List (Nat × Value)) {k : Nat} {x : Int32} (d : decode cc pc = .ok (.istore k, 2)) (hn : k < nL) (h : (k, Value.int x) :: L.filter (fun q => !(q.1 == k) && !(q.1 + 1 == k && q.2.category == 2)) = L') (kk : XW K g nL Q M a b (pc + 2) L' st) : XW K g nL Q M a b pc L (.int x :: st) :=
  fun H lc ls hM hS hl => lv_istore F.ex F.by_ d hl hn h (fun ls' hl' => kk H lc ls' hM hS hl')
theorem x_lstore_n (F : Fx K g cc own nL ret hh fr lo mc ms) (L' : List (Nat × Value)) {k : Fin 4} {x : Int64} (d : decode cc pc = .ok (.lstore_n k, 1)) (hn : k.val + 1 < nL) (h : (k.val, Value.long x) :: L.filter (fun q => !(q.1 == k.val) && (!(q.1 == k.val + 1) && !(q.1 + 1 == k.val && q.2.category == 2))) = L') (kk : XW K g nL Q M a b (pc + 1) L' st) : XW K g nL Q M a b pc L (.long x :: st) :=
  fun H lc ls hM hS hl => lv_lstore_n F.ex F.by_ d rfl hl hn h (fun ls' hl' => kk H lc ls' hM hS hl')
theorem x_lstore (F : Fx K g cc own nL ret hh fr lo mc ms) (L' : List (Nat × Value)) {k : Nat} {x : Int64} (d : decode cc pc = .ok (.lstore k, 2)) (hn : k + 1 < nL) (h : (k, Value.long x) :: L.filter (fun q => !(q.1 == k) && (!(q.1 == k + 1) && !(q.1 + 1 == k && q.2.category == 2))) = L') (kk : XW K g nL Q M a b (pc + 2) L' st) : XW K g nL Q M a b pc L (.long x :: st) :=
  fun H lc ls hM hS hl => lv_lstore F.ex F.by_ d hl hn h (fun ls' hl' => kk H lc ls' hM hS hl')
theorem x_astore_n (F : Fx K g cc own nL ret hh fr lo mc ms) (L' : List (Nat × Value)) {k : Fin 4} {x : Nat} (d : decode cc pc = .ok (.astore_n k, 1)) (hn : k.val < nL) (h : (k.val, Value.ref x) :: L.filter (fun q => !(q.1 == k.val) && !(q.1 + 1 == k.val && q.2.category == 2)) = L') (kk : XW K g nL Q M a b (pc + 1) L' st) : XW K g nL Q M a b pc L (.ref x :: st) :=
  fun H lc ls hM hS hl => lv_astore_n F.ex F.by_ d rfl hl hn h (fun ls' hl' => kk H lc ls' hM hS hl')
theorem x_astore (F : Fx K g cc own nL ret hh fr lo mc ms) (L' : List (Nat × Value)) {k : Nat} {x : Nat} (d : decode cc pc = .ok (.astore k, 2)) (hn : k < nL) (h : (k, Value.ref x) :: L.filter (fun q => !(q.1 == k) && !(q.1 + 1 == k && q.2.category == 2)) = L') (kk : XW K g nL Q M a b (pc + 2) L' st) : XW K g nL Q M a b pc L (.ref x :: st) :=
  fun H lc ls hM hS hl => lv_astore F.ex F.by_ d hl hn h (fun ls' hl' => kk H lc ls' hM hS hl')
theorem x_aload_nN (F : Fx K g cc own nL ret hh fr lo mc ms) (j : Nat) {k : Fin 4} (d : decode cc pc = .ok (.aload_n k, 1)) (h : L[j]? = some (k.val, .null)) (kk : XW K g nL Q M a b (pc + 1) L (.null :: st)) : XW K g nL Q M a b pc L st :=
  fun H lc ls hM hS hl => lv_aload_nN F.ex F.by_ d rfl (lv_at hl j h) (kk H lc ls hM hS hl)
theorem x_aloadN (F : Fx K g cc own nL ret hh fr lo mc ms) (j : Nat) {k : Nat} (d : decode cc pc = .ok (.aload k, 2)) (h : L[j]? = some (k, .null)) (kk : XW K g nL Q M a b (pc + 2) L (.null :: st)) : XW K g nL Q M a b pc L st :=
  fun H lc ls hM hS hl => lv_aloadN F.ex F.by_ d (lv_at hl j h) (kk H lc ls hM hS hl)
theorem x_astore_nN (F : Fx K g cc own nL ret hh fr lo mc ms) (L' : List (Nat × Value)) {k : Fin 4} (d : decode cc pc = .ok (.astore_n k, 1)) (hn : k.val < nL) (h : (k.val, Value.null) :: L.filter (fun q => !(q.1 == k.val) && !(q.1 + 1 == k.val && q.2.category == 2)) = L') (kk : XW K g nL Q M a b (pc + 1) L' st) : XW K g nL Q M a b pc L (.null :: st) :=
  fun H lc ls hM hS hl => lv_astore_nN F.ex F.by_ d rfl hl hn h (fun ls' hl' => kk H lc ls' hM hS hl')
theorem x_astoreN (F : Fx K g cc own nL ret hh fr lo mc ms) (L' : List (Nat × Value)) {k : Nat} (d : decode cc pc = .ok (.astore k, 2)) (hn : k < nL) (h : (k, Value.null) :: L.filter (fun q => !(q.1 == k) && !(q.1 + 1 == k && q.2.category == 2)) = L') (kk : XW K g nL Q M a b (pc + 2) L' st) : XW K g nL Q M a b pc L (.null :: st) :=
  fun H lc ls hM hS hl => lv_astoreN F.ex F.by_ d hl hn h (fun ls' hl' => kk H lc ls' hM hS hl')
theorem x_iinc (F : Fx K g cc own nL ret hh fr lo mc ms) (j : Nat) (L' : List (Nat × Value)) {k : Nat} {n : Int} {x v : Int32} (d : decode cc pc = .ok (.iinc k n, 3)) (hk : L[j]? = some (k, .int x)) (hv : x + Int32.ofInt n = v) (hn : k < nL) (h : (k, Value.int v) :: L.filter (fun q => !(q.1 == k) && !(q.1 + 1 == k && q.2.category == 2)) = L') (kk : XW K g nL Q M a b (pc + 3) L' st) : XW K g nL Q M a b pc L st :=
  fun H lc ls hM hS hl => lv_iinc F.ex F.by_ d hl hk hv hn h (fun ls' hl' => kk H lc ls' hM hS hl')
theorem x_iconst (F : Fx K g cc own nL ret hh fr lo mc ms) {n : Int} (v : Int32) (d : decode cc pc = .ok (.iconst n, 1)) (hv : Int32.ofInt n = v) (kk : XW K g nL Q M a b (pc + 1) L (.int v :: st)) : XW K g nL Q M a b pc L st :=
  fun H lc ls hM hS hl => lv_iconst F.ex F.by_ d hv (kk H lc ls hM hS hl)
theorem x_bipush (F : Fx K g cc own nL ret hh fr lo mc ms) {n : Int} (v : Int32) (d : decode cc pc = .ok (.bipush n, 2)) (hv : (Int8.ofInt n).toInt32 = v) (kk : XW K g nL Q M a b (pc + 2) L (.int v :: st)) : XW K g nL Q M a b pc L st :=
  fun H lc ls hM hS hl => lv_bipush F.ex F.by_ d hv (kk H lc ls hM hS hl)
theorem x_sipush (F : Fx K g cc own nL ret hh fr lo mc ms) {n : Int} (v : Int32) (d : decode cc pc = .ok (.sipush n, 3)) (hv : (Int16.ofInt n).toInt32 = v) (kk : XW K g nL Q M a b (pc + 3) L (.int v :: st)) : XW K g nL Q M a b pc L st :=
  fun H lc ls hM hS hl => lv_sipush F.ex F.by_ d hv (kk H lc ls hM hS hl)
theorem x_lconst (F : Fx K g cc own nL ret hh fr lo mc ms) {n : Fin 2} (v : Int64) (d : decode cc pc = .ok (.lconst n, 1)) (hv : Int64.ofNat (n : Nat) = v) (kk : XW K g nL Q M a b (pc + 1) L (.long v :: st)) : XW K g nL Q M a b pc L st :=
  fun H lc ls hM hS hl => lv_lconst F.ex F.by_ d hv (kk H lc ls hM hS hl)
theorem x_ldc (F : Fx K g cc own nL ret hh fr lo mc ms) {n : Nat} (v : Int32) (w : Cond.constant own n v ∈ TB) (d : decode cc pc = .ok (.ldc n, 2)) (kk : XW K g nL Q M a b (pc + 2) L (.int v :: st)) : XW K g nL Q M a b pc L st :=
  fun H lc ls hM hS hl => lv_ldc F.ex F.by_ F.ow (F.tb _ w) d (kk H lc ls hM hS hl)
theorem x_ldcw (F : Fx K g cc own nL ret hh fr lo mc ms) {n : Nat} (v : Int32) (w : Cond.constant own n v ∈ TB) (d : decode cc pc = .ok (.ldc_w n, 3)) (kk : XW K g nL Q M a b (pc + 3) L (.int v :: st)) : XW K g nL Q M a b pc L st :=
  fun H lc ls hM hS hl => lv_ldcw F.ex F.by_ F.ow (F.tb _ w) d (kk H lc ls hM hS hl)
theorem x_ldc2 (F : Fx K g cc own nL ret hh fr lo mc ms) {n : Nat} (v : Int64) (w : Cond.constantLong own n v ∈ TB) (d : decode cc pc = .ok (.ldc2_w n, 3)) (kk : XW K g nL Q M a b (pc + 3) L (.long v :: st)) : XW K g nL Q M a b pc L st :=
  fun H lc ls hM hS hl => lv_ldc2 F.ex F.by_ F.ow (F.tb _ w) d (kk H lc ls hM hS hl)
theorem x_null (F : Fx K g cc own nL ret hh fr lo mc ms) (d : decode cc pc = .ok (.aconst_null, 1)) (kk : XW K g nL Q M a b (pc + 1) L (.null :: st)) : XW K g nL Q M a b pc L st :=
  fun H lc ls hM hS hl => lv_null F.ex F.by_ d (kk H lc ls hM hS hl)
theorem x_goto (F : Fx K g cc own nL ret hh fr lo mc ms) (tgt : Nat) {off : Int} (d : decode cc pc = .ok (.goto off, 3)) (ht : (pc : Int) + off = (tgt : Int)) (kk : XW K g nL Q M a b tgt L st) : XW K g nL Q M a b pc L st :=
  fun H lc ls hM hS hl => lv_goto F.ex F.by_ d ht (kk H lc ls hM hS hl)
theorem x_dup (F : Fx K g cc own nL ret hh fr lo mc ms) {v : Value} (d : decode cc pc = .ok (.dup, 1)) (hc : v.category = 1) (kk : XW K g nL Q M a b (pc + 1) L (v :: v :: st)) : XW K g nL Q M a b pc L (v :: st) :=
  fun H lc ls hM hS hl => lv_dup F.ex F.by_ d hc (kk H lc ls hM hS hl)
theorem x_pop (F : Fx K g cc own nL ret hh fr lo mc ms) {v : Value} (d : decode cc pc = .ok (.pop, 1)) (hc : v.category = 1) (kk : XW K g nL Q M a b (pc + 1) L st) : XW K g nL Q M a b pc L (v :: st) :=
  fun H lc ls hM hS hl => lv_pop F.ex F.by_ d hc (kk H lc ls hM hS hl)
theorem x_dup_x1 (F : Fx K g cc own nL ret hh fr lo mc ms) {v w : Value} (d : decode cc pc = .ok (.dup_x1, 1)) (hc : v.category = 1) (hw : w.category = 1) (kk : XW K g nL Q M a b (pc + 1) L (v :: w :: v :: st)) : XW K g nL Q M a b pc L (v :: w :: st) :=
  fun H lc ls hM hS hl => lv_dup_x1 F.ex F.by_ d hc hw (kk H lc ls hM hS hl)
theorem x_dup2 (F : Fx K g cc own nL ret hh fr lo mc ms) {v w : Value} (d : decode cc pc = .ok (.dup2, 1)) (hc : v.category = 1) (hw : w.category = 1) (kk : XW K g nL Q M a b (pc + 1) L (v :: w :: v :: w :: st)) : XW K g nL Q M a b pc L (v :: w :: st) :=
  fun H lc ls hM hS hl => lv_dup2_11 F.ex F.by_ d hc hw (kk H lc ls hM hS hl)
end XR
end
section
/-! arithmetic and branches over XW -/
section XA
variable {K : KX} {g : GP} {cc : ByteArray} {own : String} {nL : Nat} {ret : Option FieldType} {hh : List (Nat × Nat × Nat × Nat)} {fr lo mc ms : Nat} {Q : State → Prop} {M : MM} {a b pc : Nat} {L : List (Nat × Value)} {st : List Value}
theorem x_iadd (F : Fx K g cc own nL ret hh fr lo mc ms) {x y : Int32} (d : decode cc pc = .ok (.iadd, 1)) (kk : XW K g nL Q M a b (pc + 1) L (.int (x + y) :: st)) : XW K g nL Q M a b pc L (.int y :: .int x :: st) :=
  fun H lc ls hM hS hl => lv_iadd F.ex F.by_ d (kk H lc ls hM hS hl)
theorem x_isub (F : Fx K g cc own nL ret hh fr lo mc ms) {x y : Int32} (d : decode cc pc = .ok (.isub, 1)) (kk : XW K g nL Q M a b (pc + 1) L (.int (x - y) :: st)) : XW K g nL Q M a b pc L (.int y :: .int x :: st) :=
  fun H lc ls hM hS hl => lv_isub F.ex F.by_ d (kk H lc ls hM hS hl)
theorem x_imul (F : Fx K g cc own nL ret hh fr lo mc ms) {x y : Int32} (d : decode cc pc = .ok (.imul, 1)) (kk : XW K g nL Q M a b (pc + 1) L (.int (x * y) :: st)) : XW K g nL Q M a b pc L (.int y :: .int x :: st) :=
  fun H lc ls hM hS hl => lv_imul F.ex F.by_ d (kk H lc ls hM hS hl)
theorem x_iand (F : Fx K g cc own nL ret hh fr lo mc ms) {x y : Int32} (d : decode cc pc = .ok (.iand, 1)) (kk : XW K g nL Q M a b (pc + 1) L (.int (x &&& y) :: st)) : XW K g nL Q M a b pc L (.int y :: .int x :: st) :=
  fun H lc ls hM hS hl => lv_iand F.ex F.by_ d (kk H lc ls hM hS hl)
theorem x_ior (F : Fx K g cc own nL ret hh fr lo mc ms) {x y : Int32} (d : decode cc pc = .ok (.ior, 1)) (kk : XW K g nL Q M a b (pc + 1) L (.int (x ||| y) :: st)) : XW K g nL Q M a b pc L (.int y :: .int x :: st) :=
  fun H lc ls hM hS hl => lv_ior F.ex F.by_ d (kk H lc ls hM hS hl)
theorem x_ladd (F : Fx K g cc own nL ret hh fr lo mc ms) {x y : Int64} (d : decode cc pc = .ok (.ladd, 1)) (kk : XW K g nL Q M a b (pc + 1) L (.long (x + y) :: st)) : XW K g nL Q M a b pc L (.long y :: .long x :: st) :=
  fun H lc ls hM hS hl => lv_ladd F.ex F.by_ d (kk H lc ls hM hS hl)
theorem x_lsub (F : Fx K g cc own nL ret hh fr lo mc ms) {x y : Int64} (d : decode cc pc = .ok (.lsub, 1)) (kk : XW K g nL Q M a b (pc + 1) L (.long (x - y) :: st)) : XW K g nL Q M a b pc L (.long y :: .long x :: st) :=
  fun H lc ls hM hS hl => lv_lsub F.ex F.by_ d (kk H lc ls hM hS hl)
theorem x_land (F : Fx K g cc own nL ret hh fr lo mc ms) {x y : Int64} (d : decode cc pc = .ok (.land, 1)) (kk : XW K g nL Q M a b (pc + 1) L (.long (x &&& y) :: st)) : XW K g nL Q M a b pc L (.long y :: .long x :: st) :=
  fun H lc ls hM hS hl => lv_land F.ex F.by_ d (kk H lc ls hM hS hl)
theorem x_lor (F : Fx K g cc own nL ret hh fr lo mc ms) {x y : Int64} (d : decode cc pc = .ok (.lor, 1)) (kk : XW K g nL Q M a b (pc + 1) L (.long (x ||| y) :: st)) : XW K g nL Q M a b pc L (.long y :: .long x :: st) :=
  fun H lc ls hM hS hl => lv_lor F.ex F.by_ d (kk H lc ls hM hS hl)
theorem x_ishl (F : Fx K g cc own nL ret hh fr lo mc ms) {x y : Int32} (d : decode cc pc = .ok (.ishl, 1)) (kk : XW K g nL Q M a b (pc + 1) L (.int (x <<< (y &&& 31)) :: st)) : XW K g nL Q M a b pc L (.int y :: .int x :: st) :=
  fun H lc ls hM hS hl => lv_ishl F.ex F.by_ d (kk H lc ls hM hS hl)
theorem x_ishr (F : Fx K g cc own nL ret hh fr lo mc ms) {x y : Int32} (d : decode cc pc = .ok (.ishr, 1)) (kk : XW K g nL Q M a b (pc + 1) L (.int (x >>> (y &&& 31)) :: st)) : XW K g nL Q M a b pc L (.int y :: .int x :: st) :=
  fun H lc ls hM hS hl => lv_ishr F.ex F.by_ d (kk H lc ls hM hS hl)
theorem x_idiv (F : Fx K g cc own nL ret hh fr lo mc ms) {x y : Int32} (d : decode cc pc = .ok (.idiv, 1)) (hne : ¬ y = 0) (kk : XW K g nL Q M a b (pc + 1) L (.int (x / y) :: st)) : XW K g nL Q M a b pc L (.int y :: .int x :: st) :=
  fun H lc ls hM hS hl => lv_idiv F.ex F.by_ d hne (kk H lc ls hM hS hl)
theorem x_irem (F : Fx K g cc own nL ret hh fr lo mc ms) {x y : Int32} (d : decode cc pc = .ok (.irem, 1)) (hne : ¬ y = 0) (kk : XW K g nL Q M a b (pc + 1) L (.int (x - x / y * y) :: st)) : XW K g nL Q M a b pc L (.int y :: .int x :: st) :=
  fun H lc ls hM hS hl => lv_irem F.ex F.by_ d hne (kk H lc ls hM hS hl)
theorem x_ineg (F : Fx K g cc own nL ret hh fr lo mc ms) {x : Int32} (d : decode cc pc = .ok (.ineg, 1)) (kk : XW K g nL Q M a b (pc + 1) L (.int (-x) :: st)) : XW K g nL Q M a b pc L (.int x :: st) :=
  fun H lc ls hM hS hl => lv_ineg F.ex F.by_ d (kk H lc ls hM hS hl)
theorem x_i2l (F : Fx K g cc own nL ret hh fr lo mc ms) {x : Int32} (d : decode cc pc = .ok (.i2l, 1)) (kk : XW K g nL Q M a b (pc + 1) L (.long x.toInt64 :: st)) : XW K g nL Q M a b pc L (.int x :: st) :=
  fun H lc ls hM hS hl => lv_i2l F.ex F.by_ d rfl (kk H lc ls hM hS hl)
theorem x_l2i (F : Fx K g cc own nL ret hh fr lo mc ms) {x : Int64} (d : decode cc pc = .ok (.l2i, 1)) (kk : XW K g nL Q M a b (pc + 1) L (.int x.toInt32 :: st)) : XW K g nL Q M a b pc L (.long x :: st) :=
  fun H lc ls hM hS hl => lv_l2i F.ex F.by_ d rfl (kk H lc ls hM hS hl)
theorem x_iushr (F : Fx K g cc own nL ret hh fr lo mc ms) {x y : Int32} (d : decode cc pc = .ok (.iushr, 1)) (kk : XW K g nL Q M a b (pc + 1) L (.int (x.toUInt32 >>> (y.toUInt32 &&& Int32.toUInt32 31)).toInt32 :: st)) : XW K g nL Q M a b pc L (.int y :: .int x :: st) :=
  fun H lc ls hM hS hl => lv_iushr F.ex F.by_ d rfl (kk H lc ls hM hS hl)
theorem x_lshl (F : Fx K g cc own nL ret hh fr lo mc ms) {x : Int64} {y : Int32} (d : decode cc pc = .ok (.lshl, 1)) (kk : XW K g nL Q M a b (pc + 1) L (.long (x <<< (y.toInt64 &&& 63)) :: st)) : XW K g nL Q M a b pc L (.int y :: .long x :: st) :=
  fun H lc ls hM hS hl => lv_lshl F.ex F.by_ d rfl (kk H lc ls hM hS hl)
theorem x_lshr (F : Fx K g cc own nL ret hh fr lo mc ms) {x : Int64} {y : Int32} (d : decode cc pc = .ok (.lshr, 1)) (kk : XW K g nL Q M a b (pc + 1) L (.long (x >>> (y.toInt64 &&& 63)) :: st)) : XW K g nL Q M a b pc L (.int y :: .long x :: st) :=
  fun H lc ls hM hS hl => lv_lshr F.ex F.by_ d rfl (kk H lc ls hM hS hl)
theorem x_lushr (F : Fx K g cc own nL ret hh fr lo mc ms) {x : Int64} {y : Int32} (d : decode cc pc = .ok (.lushr, 1)) (kk : XW K g nL Q M a b (pc + 1) L (.long ((x.toUInt64 >>> (y.toInt64.toUInt64 &&& Int64.toUInt64 63)).toInt64) :: st)) : XW K g nL Q M a b pc L (.int y :: .long x :: st) :=
  fun H lc ls hM hS hl => lv_lushr F.ex F.by_ d rfl (kk H lc ls hM hS hl)
theorem x_lcmp (F : Fx K g cc own nL ret hh fr lo mc ms) {x y : Int64} (d : decode cc pc = .ok (.lcmp, 1)) (kk : XW K g nL Q M a b (pc + 1) L (.int (lg_cmp x y) :: st)) : XW K g nL Q M a b pc L (.long y :: .long x :: st) :=
  fun H lc ls hM hS hl => W.lcmp F.ex F.by_ d (kk H lc ls hM hS hl)
theorem x_if_eq (F : Fx K g cc own nL ret hh fr lo mc ms) (tgt : Nat) {x : Int32} {off : Int} (d : decode cc pc = .ok (.ifCond .eq off, 3)) (ht : (pc : Int) + off = (tgt : Int)) (kt : x = 0 → XW K g nL Q M a b tgt L (st)) (kf : ¬ x = 0 → XW K g nL Q M a b (pc + 3) L (st)) : XW K g nL Q M a b pc L (.int x :: st) :=
  fun H lc ls hM hS hl => lv_if_eq F.ex F.by_ d ht (fun h => kt h H lc ls hM hS hl) (fun h => kf h H lc ls hM hS hl)
theorem x_icmp_eq (F : Fx K g cc own nL ret hh fr lo mc ms) (tgt : Nat) {x y : Int32} {off : Int} (d : decode cc pc = .ok (.if_icmp .eq off, 3)) (ht : (pc : Int) + off = (tgt : Int)) (kt : x = y → XW K g nL Q M a b tgt L (st)) (kf : ¬ x = y → XW K g nL Q M a b (pc + 3) L (st)) : XW K g nL Q M a b pc L (.int y :: .int x :: st) :=
  fun H lc ls hM hS hl => lv_icmp_eq F.ex F.by_ d ht (fun h => kt h H lc ls hM hS hl) (fun h => kf h H lc ls hM hS hl)
theorem x_if_ne (F : Fx K g cc own nL ret hh fr lo mc ms) (tgt : Nat) {x : Int32} {off : Int} (d : decode cc pc = .ok (.ifCond .ne off, 3)) (ht : (pc : Int) + off = (tgt : Int)) (kt : ¬ x = 0 → XW K g nL Q M a b tgt L (st)) (kf : x = 0 → XW K g nL Q M a b (pc + 3) L (st)) : XW K g nL Q M a b pc L (.int x :: st) :=
  fun H lc ls hM hS hl => lv_if_ne F.ex F.by_ d ht (fun h => kt h H lc ls hM hS hl) (fun h => kf h H lc ls hM hS hl)
theorem x_icmp_ne (F : Fx K g cc own nL ret hh fr lo mc ms) (tgt : Nat) {x y : Int32} {off : Int} (d : decode cc pc = .ok (.if_icmp .ne off, 3)) (ht : (pc : Int) + off = (tgt : Int)) (kt : ¬ x = y → XW K g nL Q M a b tgt L (st)) (kf : x = y → XW K g nL Q M a b (pc + 3) L (st)) : XW K g nL Q M a b pc L (.int y :: .int x :: st) :=
  fun H lc ls hM hS hl => lv_icmp_ne F.ex F.by_ d ht (fun h => kt h H lc ls hM hS hl) (fun h => kf h H lc ls hM hS hl)
theorem x_if_lt (F : Fx K g cc own nL ret hh fr lo mc ms) (tgt : Nat) {x : Int32} {off : Int} (d : decode cc pc = .ok (.ifCond .lt off, 3)) (ht : (pc : Int) + off = (tgt : Int)) (kt : x < 0 → XW K g nL Q M a b tgt L (st)) (kf : ¬ x < 0 → XW K g nL Q M a b (pc + 3) L (st)) : XW K g nL Q M a b pc L (.int x :: st) :=
  fun H lc ls hM hS hl => lv_if_lt F.ex F.by_ d ht (fun h => kt h H lc ls hM hS hl) (fun h => kf h H lc ls hM hS hl)
theorem x_icmp_lt (F : Fx K g cc own nL ret hh fr lo mc ms) (tgt : Nat) {x y : Int32} {off : Int} (d : decode cc pc = .ok (.if_icmp .lt off, 3)) (ht : (pc : Int) + off = (tgt : Int)) (kt : x < y → XW K g nL Q M a b tgt L (st)) (kf : ¬ x < y → XW K g nL Q M a b (pc + 3) L (st)) : XW K g nL Q M a b pc L (.int y :: .int x :: st) :=
  fun H lc ls hM hS hl => lv_icmp_lt F.ex F.by_ d ht (fun h => kt h H lc ls hM hS hl) (fun h => kf h H lc ls hM hS hl)
theorem x_if_ge (F : Fx K g cc own nL ret hh fr lo mc ms) (tgt : Nat) {x : Int32} {off : Int} (d : decode cc pc = .ok (.ifCond .ge off, 3)) (ht : (pc : Int) + off = (tgt : Int)) (kt : 0 ≤ x → XW K g nL Q M a b tgt L (st)) (kf : ¬ 0 ≤ x → XW K g nL Q M a b (pc + 3) L (st)) : XW K g nL Q M a b pc L (.int x :: st) :=
  fun H lc ls hM hS hl => lv_if_ge F.ex F.by_ d ht (fun h => kt h H lc ls hM hS hl) (fun h => kf h H lc ls hM hS hl)
theorem x_icmp_ge (F : Fx K g cc own nL ret hh fr lo mc ms) (tgt : Nat) {x y : Int32} {off : Int} (d : decode cc pc = .ok (.if_icmp .ge off, 3)) (ht : (pc : Int) + off = (tgt : Int)) (kt : y ≤ x → XW K g nL Q M a b tgt L (st)) (kf : ¬ y ≤ x → XW K g nL Q M a b (pc + 3) L (st)) : XW K g nL Q M a b pc L (.int y :: .int x :: st) :=
  fun H lc ls hM hS hl => lv_icmp_ge F.ex F.by_ d ht (fun h => kt h H lc ls hM hS hl) (fun h => kf h H lc ls hM hS hl)
theorem x_if_gt (F : Fx K g cc own nL ret hh fr lo mc ms) (tgt : Nat) {x : Int32} {off : Int} (d : decode cc pc = .ok (.ifCond .gt off, 3)) (ht : (pc : Int) + off = (tgt : Int)) (kt : 0 < x → XW K g nL Q M a b tgt L (st)) (kf : ¬ 0 < x → XW K g nL Q M a b (pc + 3) L (st)) : XW K g nL Q M a b pc L (.int x :: st) :=
  fun H lc ls hM hS hl => lv_if_gt F.ex F.by_ d ht (fun h => kt h H lc ls hM hS hl) (fun h => kf h H lc ls hM hS hl)
theorem x_icmp_gt (F : Fx K g cc own nL ret hh fr lo mc ms) (tgt : Nat) {x y : Int32} {off : Int} (d : decode cc pc = .ok (.if_icmp .gt off, 3)) (ht : (pc : Int) + off = (tgt : Int)) (kt : y < x → XW K g nL Q M a b tgt L (st)) (kf : ¬ y < x → XW K g nL Q M a b (pc + 3) L (st)) : XW K g nL Q M a b pc L (.int y :: .int x :: st) :=
  fun H lc ls hM hS hl => lv_icmp_gt F.ex F.by_ d ht (fun h => kt h H lc ls hM hS hl) (fun h => kf h H lc ls hM hS hl)
theorem x_if_le (F : Fx K g cc own nL ret hh fr lo mc ms) (tgt : Nat) {x : Int32} {off : Int} (d : decode cc pc = .ok (.ifCond .le off, 3)) (ht : (pc : Int) + off = (tgt : Int)) (kt : x ≤ 0 → XW K g nL Q M a b tgt L (st)) (kf : ¬ x ≤ 0 → XW K g nL Q M a b (pc + 3) L (st)) : XW K g nL Q M a b pc L (.int x :: st) :=
  fun H lc ls hM hS hl => lv_if_le F.ex F.by_ d ht (fun h => kt h H lc ls hM hS hl) (fun h => kf h H lc ls hM hS hl)
theorem x_icmp_le (F : Fx K g cc own nL ret hh fr lo mc ms) (tgt : Nat) {x y : Int32} {off : Int} (d : decode cc pc = .ok (.if_icmp .le off, 3)) (ht : (pc : Int) + off = (tgt : Int)) (kt : x ≤ y → XW K g nL Q M a b tgt L (st)) (kf : ¬ x ≤ y → XW K g nL Q M a b (pc + 3) L (st)) : XW K g nL Q M a b pc L (.int y :: .int x :: st) :=
  fun H lc ls hM hS hl => lv_icmp_le F.ex F.by_ d ht (fun h => kt h H lc ls hM hS hl) (fun h => kf h H lc ls hM hS hl)
theorem x_acmp_eq (F : Fx K g cc own nL ret hh fr lo mc ms) (tgt : Nat) {rx ry : Option Nat} {off : Int} (d : decode cc pc = .ok (.if_acmp .eq off, 3)) (ht : (pc : Int) + off = (tgt : Int)) (kt : rx = ry → XW K g nL Q M a b tgt L (st)) (kf : ¬ rx = ry → XW K g nL Q M a b (pc + 3) L (st)) : XW K g nL Q M a b pc L (va_rf ry :: va_rf rx :: st) :=
  fun H lc ls hM hS hl => lv_acmp_eq F.ex F.by_ d ht (fun h => kt h H lc ls hM hS hl) (fun h => kf h H lc ls hM hS hl)
theorem x_acmp_ne (F : Fx K g cc own nL ret hh fr lo mc ms) (tgt : Nat) {rx ry : Option Nat} {off : Int} (d : decode cc pc = .ok (.if_acmp .ne off, 3)) (ht : (pc : Int) + off = (tgt : Int)) (kt : ¬ rx = ry → XW K g nL Q M a b tgt L (st)) (kf : rx = ry → XW K g nL Q M a b (pc + 3) L (st)) : XW K g nL Q M a b pc L (va_rf ry :: va_rf rx :: st) :=
  fun H lc ls hM hS hl => lv_acmp_ne F.ex F.by_ d ht (fun h => kt h H lc ls hM hS hl) (fun h => kf h H lc ls hM hS hl)
theorem x_ifnull (F : Fx K g cc own nL ret hh fr lo mc ms) {x : Nat} {off : Int} (d : decode cc pc = .ok (.ifnull off, 3)) (kk : XW K g nL Q M a b (pc + 3) L (st)) : XW K g nL Q M a b pc L (.ref x :: st) :=
  fun H lc ls hM hS hl => lv_ifnull F.ex F.by_ d (kk H lc ls hM hS hl)
theorem x_ifnullN (F : Fx K g cc own nL ret hh fr lo mc ms) (tgt : Nat) {off : Int} (d : decode cc pc = .ok (.ifnull off, 3)) (ht : (pc : Int) + off = (tgt : Int)) (kk : XW K g nL Q M a b tgt L (st)) : XW K g nL Q M a b pc L (.null :: st) :=
  fun H lc ls hM hS hl => lv_ifnullN F.ex F.by_ d ht (kk H lc ls hM hS hl)
theorem x_ifnonnull (F : Fx K g cc own nL ret hh fr lo mc ms) (tgt : Nat) {x : Nat} {off : Int} (d : decode cc pc = .ok (.ifnonnull off, 3)) (ht : (pc : Int) + off = (tgt : Int)) (kk : XW K g nL Q M a b tgt L (st)) : XW K g nL Q M a b pc L (.ref x :: st) :=
  fun H lc ls hM hS hl => lv_ifnonnull F.ex F.by_ d ht (kk H lc ls hM hS hl)
theorem x_ifnonnullN (F : Fx K g cc own nL ret hh fr lo mc ms) {off : Int} (d : decode cc pc = .ok (.ifnonnull off, 3)) (kk : XW K g nL Q M a b (pc + 3) L (st)) : XW K g nL Q M a b pc L (.null :: st) :=
  fun H lc ls hM hS hl => lv_ifnonnullN F.ex F.by_ d (kk H lc ls hM hS hl)
theorem x_tableIn (F : Fx K g cc own nL ret hh fr lo mc ms) (tgt : Nat) {dflt lw hi : Int} {offs : Array Int} {len : Nat} {x : Int32} {off : Int} (d : decode cc pc = .ok (.tableswitch dflt lw hi offs, len)) (h1 : ¬ x.toInt < lw) (h2 : ¬ hi < x.toInt) (ho : offs[(x.toInt - lw).toNat]? = some off) (ht : (pc : Int) + off = (tgt : Int)) (kk : XW K g nL Q M a b tgt L (st)) : XW K g nL Q M a b pc L (.int x :: st) :=
  fun H lc ls hM hS hl => lv_tableIn F.ex F.by_ d h1 h2 ho ht (kk H lc ls hM hS hl)
theorem x_tableOut (F : Fx K g cc own nL ret hh fr lo mc ms) (tgt : Nat) {dflt lw hi : Int} {offs : Array Int} {len : Nat} {x : Int32} (d : decode cc pc = .ok (.tableswitch dflt lw hi offs, len)) (h : x.toInt < lw ∨ hi < x.toInt) (ht : (pc : Int) + dflt = (tgt : Int)) (kk : XW K g nL Q M a b tgt L (st)) : XW K g nL Q M a b pc L (.int x :: st) :=
  fun H lc ls hM hS hl => lv_tableOut F.ex F.by_ d h ht (kk H lc ls hM hS hl)
end XA
end
section
/-! the heap, calls, throws, ends -/
section XH
variable {K : KX} {g : GP} {cc : ByteArray} {own : String} {nL : Nat} {ret : Option FieldType} {hh : List (Nat × Nat × Nat × Nat)} {fr lo mc ms : Nat} {Q : State → Prop} {M : MM} {a b pc : Nat} {L : List (Nat × Value)} {st : List Value}
theorem xs_put {s : State} {H H1 : Heap} {locs : List Loc} {q k : Nat} (hS : va_S (gO g) s.heap H locs) (z : H1.size = H.size) (oq : ∀ x, x ≠ q → H1[x]? = H[x]?) (hq : gB g ≤ q) : va_S (gO g) s.heap H1 (locs ++ [⟨q, k⟩]) := hS.put z oq hq
theorem x_get (F : Fx K g cc own nL ret hh fr lo mc ms) {ref C : String} {T : u_T} {N ci idx q : Nat} {fs : List Value} {v : Value} (k : Nat) (hM0 : M q = some (.inr (ci, fs))) (hc : vwCl[ci]? = some (C, T, N)) (hin : ∀ w ∈ u_ws C T N, w ∈ TB) (hk : k < N) (w : Cond.fieldLink own idx ref (T k).2.1 (T k).2.2.1 ∈ TB) (hsame : ∀ x, (ks K).fieldFound? (T k).1 (T k).2.1 (T k).2.2.1 = some x → (ks K).fieldFound? ref (T k).2.1 (T k).2.2.1 = some x) (d : decode cc pc = .ok (.getfield idx, 3)) (hv : fs[k]? = some v)
    (kk : XW K g nL Q M a b (pc + 3) L (v :: st)) : XW K g nL Q M a b pc L (.ref q :: st) :=
  fun H lc ls hM hS hl => va_get F.ex F.by_ F.tb hin F.ow F.vk (hM.one hM0) 0 rfl hc k hk (F.tb _ w) hsame hv d (kk H lc ls hM hS hl)
theorem x_putK {K : KX} {C : String} {T : u_T} {N ci q : Nat} {fs : List Value} {H : Heap} {s : State} (hK : va_K (gD g) vwCl (tysL (gC g)) s) (hM : hm g M H) (hM0 : M q = some (.inr (ci, fs))) (hc : vwCl[ci]? = some (C, T, N)) : ∃ cell : Cell, H[q]? = some cell ∧ cell.cls = (gD g).1 ci ∧ cell.vm = .none ∧ ∀ k, k < N → cell.slots[(gD g).2 ci k]? = some (vp_V fs k) := by
  obtain ⟨r, h1, cell, q1, q2, q3, q4⟩ := hM.at hM0
  have hr : r = (C, T, N) := Option.some.inj (h1.symm.trans hc)
  subst hr
  exact ⟨cell, q1, q2, q3, q4⟩
theorem x_put (F : Fx K g cc own nL ret hh fr lo mc ms) {ref C : String} {T : u_T} {N ci idx q : Nat} {fs : List Value} {v : Value} {ty : FieldType} (k : Nat) (hM0 : M q = some (.inr (ci, fs))) (hc : vwCl[ci]? = some (C, T, N)) (hin : ∀ w ∈ u_ws C T N, w ∈ TB) (ty0 : Nat → FieldType) (hty : ∀ k, k < N → parseFieldDescriptor (T k).2.2.1 = some (ty0 k)) (hnm : ∀ a, a < N → ∀ b, b < N → a ≠ b → (T a).2.1 ≠ (T b).2.1) (hk : k < N) (w : Cond.fieldLink own idx ref (T k).2.1 (T k).2.2.1 ∈ TB) (hsame : ∀ x, (ks K).fieldFound? (T k).1 (T k).2.1 (T k).2.2.1 = some x → (ks K).fieldFound? ref (T k).2.1 (T k).2.2.1 = some x) (hfin : (T k).2.2.2 = false) (hd : parseFieldDescriptor (T k).2.2.1 = some ty) (d : decode cc pc = .ok (.putfield idx, 3)) (hn : narrow ty v = v) (hfit : fits ty v = true) (hlen : k < fs.length)
    (kk : XW K g nL Q (mup M q (.inr (ci, fs.set k v))) a b (pc + 3) L st) : XW K g nL Q M a b pc L (v :: .ref q :: st) := by
  intro H lc ls hM hS hl
  have hap := va_apart (own := own) F.tb hin ty0 hty hnm F.vk hc
  obtain ⟨cell, q1, q2, q3, q4⟩ := x_putK (K := K) F.vk hM hM0 hc
  obtain ⟨hS2, hfc, kC, hkC, hkind⟩ := F.vk.1 ci _ hc
  obtain ⟨cf, kf, fi, f, hi, hsl⟩ := hS2 k hk
  have hlay := F.tb _ (hin _ (u_in_lay hk))
  unfold u_lay at hlay
  rw [if_neg (by rw [hfin]; decide)] at hlay
  have hst := (u_facts hfc hkC (u_lays F.tb hin hk) hi).1
  have h6 := u_store hfc hkC hkind hlay hi hd hn hfit
  refine W.putK F.ex F.by_ (f := f) ⟨F.ow, F.tb _ w, ⟨_, _, _, hsame _ hi⟩, hst⟩ (by rw [q2]; exact h6) q1 (by rw [q3]) (by rw [hsl]; exact k2_hasslot (q4 k hk)) rfl rfl d fun H' e1 e2 e3 => ?_
  rw [hsl] at e1 ⊢
  exact kk H' _ ls (hM.set hM0 ⟨_, hc, t_OB.to (V := updV (vp_V fs) k v) ⟨_, e1, q2, q3, t_set q4 hap hk v⟩ (fun j _ => vp_updV_set hlen v j)⟩ e3) (hS.put e2 e3 (hM.ge hM0)) hl
theorem x_putF (F : Fx K g cc own nL ret hh fr lo mc ms) {ref C : String} {T : u_T} {N ci idx q : Nat} {fs : List Value} {v : Value} {ty : FieldType} (k : Nat) (hin2 : (kme K).name = "<init>") (hM0 : M q = some (.inr (ci, fs))) (hc : vwCl[ci]? = some (C, T, N)) (hin : ∀ w ∈ u_ws C T N, w ∈ TB) (ty0 : Nat → FieldType) (hty : ∀ k, k < N → parseFieldDescriptor (T k).2.2.1 = some (ty0 k)) (hnm : ∀ a, a < N → ∀ b, b < N → a ≠ b → (T a).2.1 ≠ (T b).2.1) (hk : k < N) (w : Cond.fieldLink own idx ref (T k).2.1 (T k).2.2.1 ∈ TB) (hsame : ∀ x, (ks K).fieldFound? (T k).1 (T k).2.1 (T k).2.2.1 = some x → (ks K).fieldFound? ref (T k).2.1 (T k).2.2.1 = some x) (hfin : (T k).2.2.2 = true) (hdecl : (T k).1 = own) (hd : parseFieldDescriptor (T k).2.2.1 = some ty) (d : decode cc pc = .ok (.putfield idx, 3)) (hn : narrow ty v = v) (hfit : fits ty v = true) (hlen : k < fs.length)
    (kk : XW K g nL Q (mup M q (.inr (ci, fs.set k v))) a b (pc + 3) L st) : XW K g nL Q M a b pc L (v :: .ref q :: st) := by
  intro H lc ls hM hS hl
  have hap := va_apart (own := own) F.tb hin ty0 hty hnm F.vk hc
  obtain ⟨cell, q1, q2, q3, q4⟩ := x_putK (K := K) F.vk hM hM0 hc
  obtain ⟨hS2, hfc, kC, hkC, hkind⟩ := F.vk.1 ci _ hc
  obtain ⟨cf, kf, fi, f, hi, hsl⟩ := hS2 k hk
  have hlay := F.tb _ (hin _ (u_in_lay hk))
  unfold u_lay at hlay
  rw [if_pos hfin] at hlay
  have hst := (u_facts hfc hkC (u_lays F.tb hin hk) hi).1
  have hcf : (km K).cls = cf := by
    obtain ⟨_, _, c', _, _, _, -, -, hf', -, -, -, hown2, -⟩ := Cond.laysFinal_spec hlay
    have e1 : c' = cf := by have := hi.symm.trans hf'; simp at this; exact this.1.symm
    rw [hdecl] at hown2
    rw [← e1]; exact Option.some.inj (F.ow.symm.trans hown2)
  have h6 := u_fits hfc hkC hkind (Or.inr hlay) hi hd hn hfit
  refine W.putFinK F.ex F.by_ F.ow (F.tb _ w) (hsame _ hi) hst hcf hin2 (by rw [q2]; exact h6) q1 (by rw [q3]) (by rw [hsl]; exact k2_hasslot (q4 k hk)) rfl rfl d fun H' e1 e2 e3 => ?_
  rw [hsl] at e1 ⊢
  exact kk H' _ ls (hM.set hM0 ⟨_, hc, t_OB.to (V := updV (vp_V fs) k v) ⟨_, e1, q2, q3, t_set q4 hap hk v⟩ (fun j _ => vp_updV_set hlen v j)⟩ e3) (hS.put e2 e3 (hM.ge hM0)) hl
theorem x_iald (F : Fx K g cc own nL ret hh fr lo mc ms) {q n : Nat} {f : Nat → Int32} {i : Int32} (hM0 : M q = some (.inl (gC g 0, n, .inl f))) (hin : vp_in i n) (d : decode cc pc = .ok (.iaload, 1)) (kk : XW K g nL Q M a b (pc + 1) L (.int (f i.toNatClampNeg) :: st)) : XW K g nL Q M a b pc L (.int i :: .ref q :: st) :=
  fun H lc ls hM hS hl => va_iald F.ex F.by_ F.vk (hM.one hM0) 0 0 rfl rfl hin d (kk H lc ls hM hS hl)
theorem x_lald (F : Fx K g cc own nL ret hh fr lo mc ms) {q n : Nat} {f : Nat → Int64} {i : Int32} (hM0 : M q = some (.inl (gC g 1, n, .inr (.inl f)))) (hin : vp_in i n) (d : decode cc pc = .ok (.laload, 1)) (kk : XW K g nL Q M a b (pc + 1) L (.long (f i.toNatClampNeg) :: st)) : XW K g nL Q M a b pc L (.int i :: .ref q :: st) :=
  fun H lc ls hM hS hl => va_lald F.ex F.by_ F.vk (hM.one hM0) 0 1 rfl rfl hin d (kk H lc ls hM hS hl)
theorem x_zald (F : Fx K g cc own nL ret hh fr lo mc ms) {q n : Nat} {f : Nat → Int32} {i : Int32} (hM0 : M q = some (.inl (gC g 2, n, .inl f))) (hin : vp_in i n) (d : decode cc pc = .ok (.baload, 1)) (kk : XW K g nL Q M a b (pc + 1) L (.int (f i.toNatClampNeg) :: st)) : XW K g nL Q M a b pc L (.int i :: .ref q :: st) :=
  fun H lc ls hM hS hl => va_zald F.ex F.by_ F.vk (hM.one hM0) 0 2 rfl rfl hin d (kk H lc ls hM hS hl)
theorem x_qald (F : Fx K g cc own nL ret hh fr lo mc ms) {q n : Nat} (t0 : Nat) {C : String} {cA : ClassId} {f : Nat → Option Nat} {i : Int32} (hM0 : M q = some (.inl (cA, n, .inr (.inr (.inr (.inr f)))))) (ht : (tysL (gC g))[t0]? = some (cA, .object C)) (hin : vp_in i n) (d : decode cc pc = .ok (.aaload, 1)) (kk : XW K g nL Q M a b (pc + 1) L (va_rf (f i.toNatClampNeg) :: st)) : XW K g nL Q M a b pc L (.int i :: .ref q :: st) :=
  fun H lc ls hM hS hl => va_aldq F.ex F.by_ F.vk (hM.one hM0) 0 t0 rfl ht hin d (kk H lc ls hM hS hl)
theorem x_alen (F : Fx K g cc own nL ret hh fr lo mc ms) {q : Nat} (t0 : Nat) {ty : FieldType} {cA : ClassId} {x : vp_A} {v : Int32} (hM0 : M q = some (.inl (cA, x))) (ht : (tysL (gC g))[t0]? = some (cA, ty)) (hv : Int32.ofNat x.1 = v) (d : decode cc pc = .ok (.arraylength, 1)) (kk : XW K g nL Q M a b (pc + 1) L (.int v :: st)) : XW K g nL Q M a b pc L (.ref q :: st) :=
  fun H lc ls hM hS hl => va_alen F.ex F.by_ F.vk (hM.one hM0) 0 t0 rfl ht hv d (kk H lc ls hM hS hl)
theorem x_iast (F : Fx K g cc own nL ret hh fr lo mc ms) {q n : Nat} {f : Nat → Int32} {i x : Int32} (hM0 : M q = some (.inl (gC g 0, n, .inl f))) (hin : vp_in i n) (d : decode cc pc = .ok (.iastore, 1)) (kk : XW K g nL Q (mup M q (.inl (gC g 0, n, .inl (upd f i.toNatClampNeg x)))) a b (pc + 1) L st) : XW K g nL Q M a b pc L (.int x :: .int i :: .ref q :: st) := by
  intro H lc ls hM hS hl
  refine W.iast F.ex F.by_ (hM.at hM0) ((F.vk.2 0 _ rfl).1 n (fun j => .int (f j))) (fun q => by cases q) (by show ¬ (i < 0 ∨ (arrV _ _ _).slots.size ≤ _); rw [arrV_size]; exact hin) rfl rfl d fun H1 e z oq => ?_
  refine kk H1 _ ls (hM.set hM0 ?_ oq) (hS.put z oq (hM.ge hM0)) hl
  show H1[q]? = some (vp_cell _ _)
  rw [e]
  rw [vp_cell_i, vp_cell_i, arrV_store]
  congr 2
  funext r
  by_cases hq : r = i.toNatClampNeg
  · subst hq
    simp [updV, upd]
  · simp [updV, upd, hq]
end XH
end
section
/-! more of the heap: stores of longs, booleans, references; new cells; statics; casts -/
def wl (M : MM) (n : Nat) : va_W := (List.range n).filterMap (fun q => (M q).map (fun e => (q, e)))
theorem wl_mem {M : MM} {n : Nat} {x : Nat × va_E} : x ∈ wl M n ↔ x.1 < n ∧ M x.1 = some x.2 := by
  unfold wl
  rw [List.mem_filterMap]
  constructor
  · rintro ⟨q, h1, h2⟩
    cases hq : M q with
    | none => rw [hq] at h2; cases h2
    | some e =>
      rw [hq] at h2
      cases h2
      exact ⟨List.mem_range.mp h1, hq⟩
  · rintro ⟨h1, h2⟩
    exact ⟨x.1, List.mem_range.mpr h1, by rw [h2]; rfl⟩
theorem wl_get {M : MM} {n q : Nat} {e : va_E} (hq : M q = some e) (hn : q < n) : ∃ k : Nat, (wl M n)[k]? = some (q, e) := List.getElem?_of_mem (wl_mem.mpr ⟨hn, hq⟩)
theorem wl_P {g : GP} {M : MM} {H : Heap} (h : hm g M H) (n : Nat) : va_P (gD g) vwCl (wl M n) H := fun _ _ hx => h.at (wl_mem.mp (List.mem_of_getElem? hx)).2
theorem wl_pw (M : MM) (n : Nat) : (wl M n).Pairwise (fun x y => x.1 < y.1) := by
  unfold wl
  refine List.Pairwise.filterMap _ ?_ List.pairwise_lt_range
  intro a a' hlt b hb b' hb'
  cases ha : M a with
  | none => simp [ha] at hb
  | some e =>
    cases ha' : M a' with
    | none => simp [ha'] at hb'
    | some e' =>
      simp [ha] at hb
      simp [ha'] at hb'
      subst hb
      subst hb'
      exact hlt
theorem wl_D {g : GP} {M : MM} {H : Heap} (h : hm g M H) (n : Nat) : va_D (gO g) (wl M n) := by
  refine ⟨fun i j x y hi hj hxy => ?_, fun k x hx => h.ge (wl_mem.mp (List.mem_of_getElem? hx)).2⟩
  obtain ⟨li, ei⟩ := List.getElem?_eq_some_iff.mp hi
  obtain ⟨lj, ej⟩ := List.getElem?_eq_some_iff.mp hj
  have hp := List.pairwise_iff_getElem.mp (wl_pw M n)
  rcases Nat.lt_trichotomy i j with c | c | c
  · have := hp i j li lj c
    rw [ei, ej] at this
    omega
  · exact c
  · have := hp j i lj li c
    rw [ei, ej] at this
    omega
theorem wl_set {g : GP} {M : MM} {H H1 : Heap} {k q : Nat} {e e' : va_E} (h : hm g M H) (hk : (wl M H.size)[k]? = some (q, e)) (h1 : va_P (gD g) vwCl ((wl M H.size).set k (q, e')) H1) : hm g (mup M q e') H1 := by
  have hq : M q = some e := (wl_mem.mp (List.mem_of_getElem? hk)).2
  intro a x hx
  by_cases ha : a = q
  · subst ha
    rw [mup_s] at hx
    cases hx
    exact ⟨h.ge hq, h1 k (a, e') (List.getElem?_set_self (List.getElem?_eq_some_iff.mp hk).1)⟩
  · rw [mup_n ha] at hx
    obtain ⟨j, hj⟩ := wl_get hx (h.lt hx)
    have hjk : k ≠ j := by
      intro z
      subst z
      rw [hk] at hj
      cases hj
      exact ha rfl
    exact ⟨h.ge hx, h1 j (a, x) (by rw [List.getElem?_set_ne hjk]; exact hj)⟩
theorem wl_push {g : GP} {M : MM} {H H1 : Heap} {q : Nat} {e' : va_E} (h : hm g M H) (hD : va_D (gO g) (wl M H.size ++ [(q, e')])) (h1 : va_P (gD g) vwCl (wl M H.size ++ [(q, e')]) H1) : M q = none ∧ gB g ≤ q ∧ hm g (mup M q e') H1 := by
  have hl : (wl M H.size ++ [(q, e')])[(wl M H.size).length]? = some (q, e') := by
    rw [List.getElem?_append_right (Nat.le_refl _), Nat.sub_self]; rfl
  have hgq : gB g ≤ q := hD.2 _ _ hl
  refine ⟨?_, hgq, ?_⟩
  · cases hq : M q with
    | none => rfl
    | some e =>
      obtain ⟨j, hj⟩ := wl_get hq (h.lt hq)
      have lj := (List.getElem?_eq_some_iff.mp hj).1
      have := hD.1 j _ (q, e) (q, e') (by rw [List.getElem?_append_left lj]; exact hj) hl rfl
      omega
  · intro a x hx
    by_cases ha : a = q
    · subst ha
      rw [mup_s] at hx
      cases hx
      exact ⟨hgq, h1 _ (a, e') hl⟩
    · rw [mup_n ha] at hx
      obtain ⟨j, hj⟩ := wl_get hx (h.lt hx)
      exact ⟨h.ge hx, h1 j (a, x) (by rw [List.getElem?_append_left (List.getElem?_eq_some_iff.mp hj).1]; exact hj)⟩
section XH2
variable {K : KX} {g : GP} {cc : ByteArray} {own : String} {nL : Nat} {ret : Option FieldType} {hh : List (Nat × Nat × Nat × Nat)} {fr lo mc ms : Nat} {Q : State → Prop} {M : MM} {a b pc : Nat} {L : List (Nat × Value)} {st : List Value}
theorem gO_A {s : State} (h : GG g s) : ∀ q : Nat, s.heap.size ≤ q → gO g q := fun _ h2 => Nat.le_trans h.1 h2
theorem x_zast (F : Fx K g cc own nL ret hh fr lo mc ms) {q n : Nat} {f : Nat → Int32} {i x : Int32} (hM0 : M q = some (.inl (gC g 2, n, .inl f))) (hin : vp_in i n) (d : decode cc pc = .ok (.bastore, 1)) (kk : XW K g nL Q (mup M q (.inl (gC g 2, n, .inl (upd f i.toNatClampNeg (vp_nar .boolean x))))) a b (pc + 1) L st) : XW K g nL Q M a b pc L (.int x :: .int i :: .ref q :: st) := by
  intro H lc ls hM hS hl
  obtain ⟨k, hk⟩ := wl_get hM0 (hM.lt hM0)
  exact va_zast F.ex F.by_ F.vk (wl_P hM _) (wl_D hM _) hS k 2 hk rfl hin d fun H1 lc1 hP hD hS1 => kk H1 lc1 ls (wl_set hM hk hP) hS1 hl
theorem x_last (F : Fx K g cc own nL ret hh fr lo mc ms) {q n : Nat} {f : Nat → Int64} {i : Int32} {x : Int64} (hM0 : M q = some (.inl (gC g 1, n, .inr (.inl f)))) (hin : vp_in i n) (d : decode cc pc = .ok (.lastore, 1)) (kk : XW K g nL Q (mup M q (.inl (gC g 1, n, .inr (.inl (vp_updL f i.toNatClampNeg x))))) a b (pc + 1) L st) : XW K g nL Q M a b pc L (.long x :: .int i :: .ref q :: st) := by
  intro H lc ls hM hS hl
  obtain ⟨k, hk⟩ := wl_get hM0 (hM.lt hM0)
  exact va_last F.ex F.by_ F.vk (wl_P hM _) (wl_D hM _) hS k 1 hk rfl hin d fun H1 lc1 hP hD hS1 => kk H1 lc1 ls (wl_set hM hk hP) hS1 hl
/-- an object into an array of Object -/
theorem x_qastO (F : Fx K g cc own nL ret hh fr lo mc ms) {q n v ci : Nat} {r : vw_C} {vs : List Value} {f : Nat → Option Nat} {i : Int32} (hM0 : M q = some (.inl (gC g 3, n, .inr (.inr (.inr (.inr f)))))) (hV : M v = some (.inr (ci, vs))) (hc : vwCl[ci]? = some r) (hca : (r.1, "java/lang/Object") ∈ CCl) (hin : vp_in i n) (d : decode cc pc = .ok (.aastore, 1))
    (kk : XW K g nL Q (mup M q (.inl (gC g 3, n, .inr (.inr (.inr (.inr (va_up f i.toNatClampNeg (some v)))))))) a b (pc + 1) L st) : XW K g nL Q M a b pc L (.ref v :: .int i :: .ref q :: st) := by
  intro H lc ls hM hS hl
  obtain ⟨k, hk⟩ := wl_get hM0 (hM.lt hM0)
  obtain ⟨k2, hk2⟩ := wl_get hV (hM.lt hV)
  exact va_astqO F.ex F.by_ F.vk (wl_P hM _) (wl_D hM _) hS k 3 k2 ci hk rfl (F.gg.2.2.2.2.1 _ hca) hk2 hc hin d fun H1 lc1 hP hD hS1 => kk H1 lc1 ls (wl_set hM hk hP) hS1 hl
/-- an Entry into an array of Entry -/
theorem x_qastE (F : Fx K g cc own nL ret hh fr lo mc ms) {q n v : Nat} {vs : List Value} {f : Nat → Option Nat} {i : Int32} (hM0 : M q = some (.inl (gC g 4, n, .inr (.inr (.inr (.inr f)))))) (hV : M v = some (.inr (2, vs))) (hin : vp_in i n) (d : decode cc pc = .ok (.aastore, 1))
    (kk : XW K g nL Q (mup M q (.inl (gC g 4, n, .inr (.inr (.inr (.inr (va_up f i.toNatClampNeg (some v)))))))) a b (pc + 1) L st) : XW K g nL Q M a b pc L (.ref v :: .int i :: .ref q :: st) := by
  intro H lc ls hM hS hl
  obtain ⟨k, hk⟩ := wl_get hM0 (hM.lt hM0)
  obtain ⟨k2, hk2⟩ := wl_get hV (hM.lt hV)
  exact va_astq F.ex F.by_ F.vk (wl_P hM _) (wl_D hM _) hS k 4 k2 2 (r := (RX1, TX1, 11)) hk rfl hk2 rfl hin d fun H1 lc1 hP hD hS1 => kk H1 lc1 ls (wl_set hM hk hP) hS1 hl
theorem x_new (F : Fx K g cc own nL ret hh fr lo mc ms) {C : String} {T : u_T} {N ci idx : Nat} {fs : List Value} (ty : Nat → FieldType) (hc : vwCl[ci]? = some (C, T, N)) (hin : ∀ w ∈ u_ws C T N, w ∈ TB) (hty : ∀ k, k < N → parseFieldDescriptor (T k).2.2.1 = some (ty k)) (w1 : Cond.classLink own idx C ∈ TB) (w2 : Cond.instantiable C N ∈ TB) (w3 : Cond.initialized C ∈ TB) (hfs : ∀ j, j < N → defaultValue (ty j) = vp_V fs j) (hr : a + 1 ≤ mc ∧ b + N ≤ ms) (d : decode cc pc = .ok (.new idx, 3))
    (kk : ∀ q, M q = none → gB g ≤ q → XW K g nL Q (mup M q (.inr (ci, fs))) (a + 1) (b + N) (pc + 3) L (.ref q :: st)) : XW K g nL Q M a b pc L st := by
  intro H lc ls hM hS hl
  exact va_new F.ex F.by_ F.tb hin ty hty F.ow (F.tb _ w1) (F.tb _ w2) (F.tb _ w3) F.vk (wl_P hM _) (wl_D hM _) hS (gO_A F.gg) hc hfs (by rw [F.rc]; exact hr.1) (by rw [F.rs]; exact hr.2) d fun q H1 hP hD hS1 => by
    obtain ⟨z1, z2, z3⟩ := wl_push hM hD hP
    exact kk q z1 z2 H1 lc ls z3 hS1 hl
theorem tys_int {s : State} {cA : ClassId} (h : va_K (gD g) vwCl (tysL (gC g)) s) (h2 : va_RA s cA .int) : cA = gC g 0 := Option.some.inj ((show s.vm.findClass _ = some cA from h2).symm.trans (show s.vm.findClass _ = some (gC g 0) from (h.2 0 _ rfl).2))
theorem tys_long {s : State} {cA : ClassId} (h : va_K (gD g) vwCl (tysL (gC g)) s) (h2 : va_RA s cA .long) : cA = gC g 1 := Option.some.inj ((show s.vm.findClass _ = some cA from h2).symm.trans (show s.vm.findClass _ = some (gC g 1) from (h.2 1 _ rfl).2))
theorem tys_bool {s : State} {cA : ClassId} (h : va_K (gD g) vwCl (tysL (gC g)) s) (h2 : va_RA s cA .boolean) : cA = gC g 2 := Option.some.inj ((show s.vm.findClass _ = some cA from h2).symm.trans (show s.vm.findClass _ = some (gC g 2) from (h.2 2 _ rfl).2))
theorem tys_obj {s : State} {cA : ClassId} (h : va_K (gD g) vwCl (tysL (gC g)) s) (h2 : va_RA s cA (.object "java/lang/Object")) : cA = gC g 3 := Option.some.inj ((va_nmO h2 rfl).symm.trans (va_nmO (h.2 3 _ rfl).2 rfl))
theorem tys_ent {s : State} {cA : ClassId} (h : va_K (gD g) vwCl (tysL (gC g)) s) (h2 : va_RA s cA (.object "RankStock$Entry")) : cA = gC g 4 := Option.some.inj ((va_nmO h2 rfl).symm.trans (va_nmO (h.2 4 _ rfl).2 rfl))
theorem va_lastR {s : State} {D : va_G} {cl : List vw_C} {t1 : List (ClassId × FieldType)} {x : ClassId × FieldType} (h : va_K D cl (t1 ++ [x]) s) : va_RA s x.1 x.2 := (h.2 t1.length x (by rw [List.getElem?_append_right (Nat.le_refl _), Nat.sub_self]; rfl)).2
theorem x_newI (F : Fx K g cc own nL ret hh fr lo mc ms) {n : Int32} (N : Nat) (w : Cond.arrayClass .int ∈ TB) (hn : ¬ n < 0) (hN : n.toNatClampNeg = N) (hb : N * 4 ≤ 536870912) (hr : a + 1 ≤ mc ∧ b + N ≤ ms) (d : decode cc pc = .ok (.newarray .int, 2))
    (kk : ∀ q, M q = none → gB g ≤ q → XW K g nL Q (mup M q (.inl (gC g 0, N, .inl (fun _ => 0)))) (a + 1) (b + N) (pc + 2) L (.ref q :: st)) : XW K g nL Q M a b pc L (.int n :: st) := by
  intro H lc ls hM hS hl
  exact va_newa (atype := .int) (a0 := (N, .inl (fun _ => 0))) F.ex F.by_ (F.tb _ w) rfl F.vk (wl_P hM _) (wl_D hM _) hS (gO_A F.gg) (fun cA => rfl) hn hN hb (by rw [F.rc]; exact hr.1) (by rw [F.rs]; exact hr.2) d fun q cA H1 hK hP hD hS1 => by
    have e := tys_int F.vk (va_lastR hK)
    subst e
    obtain ⟨z1, z2, z3⟩ := wl_push hM hD hP
    exact kk q z1 z2 H1 lc ls z3 hS1 hl
theorem x_newJ (F : Fx K g cc own nL ret hh fr lo mc ms) {n : Int32} (N : Nat) (w : Cond.arrayClass .long ∈ TB) (hn : ¬ n < 0) (hN : n.toNatClampNeg = N) (hb : N * 8 ≤ 536870912) (hr : a + 1 ≤ mc ∧ b + N ≤ ms) (d : decode cc pc = .ok (.newarray .long, 2))
    (kk : ∀ q, M q = none → gB g ≤ q → XW K g nL Q (mup M q (.inl (gC g 1, N, .inr (.inl (fun _ => 0))))) (a + 1) (b + N) (pc + 2) L (.ref q :: st)) : XW K g nL Q M a b pc L (.int n :: st) := by
  intro H lc ls hM hS hl
  exact va_newa (atype := .long) (a0 := (N, .inr (.inl (fun _ => 0)))) F.ex F.by_ (F.tb _ w) rfl F.vk (wl_P hM _) (wl_D hM _) hS (gO_A F.gg) (fun cA => rfl) hn hN hb (by rw [F.rc]; exact hr.1) (by rw [F.rs]; exact hr.2) d fun q cA H1 hK hP hD hS1 => by
    have e := tys_long F.vk (va_lastR hK)
    subst e
    obtain ⟨z1, z2, z3⟩ := wl_push hM hD hP
    exact kk q z1 z2 H1 lc ls z3 hS1 hl
theorem x_newZ (F : Fx K g cc own nL ret hh fr lo mc ms) {n : Int32} (N : Nat) (w : Cond.arrayClass .boolean ∈ TB) (hn : ¬ n < 0) (hN : n.toNatClampNeg = N) (hb : N * 1 ≤ 536870912) (hr : a + 1 ≤ mc ∧ b + N ≤ ms) (d : decode cc pc = .ok (.newarray .boolean, 2))
    (kk : ∀ q, M q = none → gB g ≤ q → XW K g nL Q (mup M q (.inl (gC g 2, N, .inl (fun _ => 0)))) (a + 1) (b + N) (pc + 2) L (.ref q :: st)) : XW K g nL Q M a b pc L (.int n :: st) := by
  intro H lc ls hM hS hl
  exact va_newa (atype := .boolean) (a0 := (N, .inl (fun _ => 0))) F.ex F.by_ (F.tb _ w) rfl F.vk (wl_P hM _) (wl_D hM _) hS (gO_A F.gg) (fun cA => rfl) hn hN hb (by rw [F.rc]; exact hr.1) (by rw [F.rs]; exact hr.2) d fun q cA H1 hK hP hD hS1 => by
    have e := tys_bool F.vk (va_lastR hK)
    subst e
    obtain ⟨z1, z2, z3⟩ := wl_push hM hD hP
    exact kk q z1 z2 H1 lc ls z3 hS1 hl
theorem x_newO (F : Fx K g cc own nL ret hh fr lo mc ms) {n : Int32} {idx : Nat} (N : Nat) (w : Cond.classLink own idx "java/lang/Object" ∈ TB) (hn : ¬ n < 0) (hN : n.toNatClampNeg = N) (hb : N * 4 ≤ 536870912) (hr : a + 1 ≤ mc ∧ b + N ≤ ms) (d : decode cc pc = .ok (.anewarray idx, 3))
    (kk : ∀ q, M q = none → gB g ≤ q → XW K g nL Q (mup M q (.inl (gC g 3, N, .inr (.inr (.inr (.inr (fun _ => none))))))) (a + 1) (b + N) (pc + 3) L (.ref q :: st)) : XW K g nL Q M a b pc L (.int n :: st) := by
  intro H lc ls hM hS hl
  exact va_newq F.ex F.by_ F.ow (F.tb _ w) F.gg.2.2.2.2.2.2.2.2.2.1 F.vk (wl_P hM _) (wl_D hM _) hS (gO_A F.gg) hn hN hb (by rw [F.rc]; exact hr.1) (by rw [F.rs]; exact hr.2) d fun q cA H1 hK hP hD hS1 => by
    have e := tys_obj F.vk (va_lastR hK)
    subst e
    obtain ⟨z1, z2, z3⟩ := wl_push hM hD hP
    exact kk q z1 z2 H1 lc ls z3 hS1 hl
theorem x_newE (F : Fx K g cc own nL ret hh fr lo mc ms) {n : Int32} {idx : Nat} (N : Nat) (w : Cond.classLink own idx RX1 ∈ TB) (hn : ¬ n < 0) (hN : n.toNatClampNeg = N) (hb : N * 4 ≤ 536870912) (hr : a + 1 ≤ mc ∧ b + N ≤ ms) (d : decode cc pc = .ok (.anewarray idx, 3))
    (kk : ∀ q, M q = none → gB g ≤ q → XW K g nL Q (mup M q (.inl (gC g 4, N, .inr (.inr (.inr (.inr (fun _ => none))))))) (a + 1) (b + N) (pc + 3) L (.ref q :: st)) : XW K g nL Q M a b pc L (.int n :: st) := by
  intro H lc ls hM hS hl
  exact va_newq F.ex F.by_ F.ow (F.tb _ w) F.gg.2.2.2.2.2.2.2.2.2.2.1 F.vk (wl_P hM _) (wl_D hM _) hS (gO_A F.gg) hn hN hb (by rw [F.rc]; exact hr.1) (by rw [F.rs]; exact hr.2) d fun q cA H1 hK hP hD hS1 => by
    have e := tys_ent F.vk (va_lastR hK)
    subst e
    obtain ⟨z1, z2, z3⟩ := wl_push hM hD hP
    exact kk q z1 z2 H1 lc ls z3 hS1 hl
-- statics
theorem x_gsDef (F : Fx K g cc own nL ret hh fr lo mc ms) {idx : Nat} (w : Cond.fieldLink own idx "java/util/ArrayList" "DEFAULTCAPACITY_EMPTY_ELEMENTDATA" "[Ljava/lang/Object;" ∈ TB) (d : decode cc pc = .ok (.getstatic idx, 3)) (kk : XW K g nL Q M a b (pc + 3) L (.ref (gA g 0) :: st)) : XW K g nL Q M a b pc L st :=
  fun H lc ls hM hS hl => va_gets F.ex F.by_ F.gg.2.1.1 hS F.ow (F.tb _ w) (fun _ h => h) d (kk H lc ls hM hS hl)
theorem x_alenDef (F : Fx K g cc own nL ret hh fr lo mc ms) (d : decode cc pc = .ok (.arraylength, 1)) (kk : XW K g nL Q M a b (pc + 1) L (.int 0 :: st)) : XW K g nL Q M a b pc L (.ref (gA g 0) :: st) :=
  fun H lc ls hM hS hl => va_tlen F.ex F.by_ F.gg.2.1.2.1 hS rfl d (kk H lc ls hM hS hl)
theorem x_gsHun (F : Fx K g cc own nL ret hh fr lo mc ms) {idx : Nat} (ho : own = RX2) (hi : idx = 90) (d : decode cc pc = .ok (.getstatic idx, 3)) (kk : XW K g nL Q M a b (pc + 3) L (.ref (gA g 1) :: st)) : XW K g nL Q M a b pc L st := by
  subst hi
  subst ho
  exact fun H lc ls hM hS hl => va_getsN F.ex F.by_ F.gg.2.1.2.2.1 hS F.ow (va_Nw.use rfl F.gg.2.2.2.2.2.2.2.1) (fun _ h => h) d (kk H lc ls hM hS hl)
theorem x_alenHun (F : Fx K g cc own nL ret hh fr lo mc ms) (d : decode cc pc = .ok (.arraylength, 1)) (kk : XW K g nL Q M a b (pc + 1) L (.int 4 :: st)) : XW K g nL Q M a b pc L (.ref (gA g 1) :: st) :=
  fun H lc ls hM hS hl => va_tlen F.ex F.by_ F.gg.2.1.2.2.2.1 hS rfl d (kk H lc ls hM hS hl)
theorem x_ialdHun (F : Fx K g cc own nL ret hh fr lo mc ms) {i v : Int32} (hin : vp_in i 4) (hv : hundV i.toNatClampNeg = .int v) (d : decode cc pc = .ok (.iaload, 1)) (kk : XW K g nL Q M a b (pc + 1) L (.int v :: st)) : XW K g nL Q M a b pc L (.int i :: .ref (gA g 1) :: st) :=
  fun H lc ls hM hS hl => va_ti F.ex F.by_ F.gg.2.1.2.2.2.1 hS hin hv d (kk H lc ls hM hS hl)
theorem x_cell {H : Heap} {s : State} (hK : va_K (gD g) vwCl (tysL (gC g)) s) (hM : hm g M H) {q ci : Nat} {fs : List Value} {r : vw_C} (hM0 : M q = some (.inr (ci, fs))) (hc : vwCl[ci]? = some r) : ∃ cell : Cell, H[q]? = some cell ∧ cell.vm.isStatics = false ∧ s.vm.findClass r.1 = some cell.cls := va_recv hK (hM.one hM0) hc (q0 := 0) rfl
/-- checkcast of an object to its own class -/
theorem x_cast (F : Fx K g cc own nL ret hh fr lo mc ms) {idx q ci : Nat} {fs : List Value} {C : String} {T : u_T} {N : Nat} (hM0 : M q = some (.inr (ci, fs))) (hc : vwCl[ci]? = some (C, T, N)) (w : Cond.classLink own idx C ∈ TB) (d : decode cc pc = .ok (.checkcast idx, 3)) (kk : XW K g nL Q M a b (pc + 3) L (.ref q :: st)) : XW K g nL Q M a b pc L (.ref q :: st) :=
  fun H lc ls hM hS hl => va_castS F.ex F.by_ F.ow (F.tb _ w) (F.vk.1 ci _ hc).2 (x_cell F.vk hM hM0 hc) d (kk H lc ls hM hS hl)
/-- checkcast of an array of Object to Object[] -/
theorem x_castO (F : Fx K g cc own nL ret hh fr lo mc ms) {idx q : Nat} {x : vp_A} (hM0 : M q = some (.inl (gC g 3, x))) (w : Cond.classLink own idx "[Ljava/lang/Object;" ∈ TB) (d : decode cc pc = .ok (.checkcast idx, 3)) (kk : XW K g nL Q M a b (pc + 3) L (.ref q :: st)) : XW K g nL Q M a b pc L (.ref q :: st) :=
  fun H lc ls hM hS hl => va_castA F.ex F.by_ F.ow (F.tb _ w) (hM.one hM0) 0 rfl (va_nmO (F.vk.2 3 _ rfl).2 rfl) d (kk H lc ls hM hS hl)
end XH2
end
section
/-! calls, throws, ends -/
section XC
variable {K : KX} {g : GP} {cc : ByteArray} {own : String} {nL : Nat} {ret : Option FieldType} {hh : List (Nat × Nat × Nat × Nat)} {fr lo mc ms : Nat} {Q : State → Prop} {M : MM} {a b pc : Nat} {L : List (Nat × Value)} {st : List Value}
/-- what the tables say of a call's site -/
def CSV (own : String) (idx : Nat) (y : MethodName) (C : String) (bytes : ByteArray) (maxL : Nat) (yr : Option FieldType) (n : Nat) : Prop :=
  (Cond.methodLink own idx y ∈ TB ∧ Cond.instanceMethod y ∈ TB ∧ Cond.selects C y y ∈ TB ∧ Cond.initialized C ∈ TB ∧ Cond.code y bytes maxL yr ∈ TB) ∧ y.cls = C ∧ y.cls ≠ "java/lang/invoke/MethodHandle" ∧ y.cls ≠ "java/lang/invoke/VarHandle" ∧ (parseMethodDescriptor y.desc).map (fun d => d.parameters.length) = some n
def CSS (own : String) (idx : Nat) (y : MethodName) (bytes : ByteArray) (maxL : Nat) (yr : Option FieldType) (n : Nat) : Prop :=
  (Cond.methodLink own idx y ∈ TB ∧ Cond.static y ∈ TB ∧ Cond.initialized y.cls ∈ TB ∧ Cond.code y bytes maxL yr ∈ TB) ∧ y.cls ≠ "java/lang/invoke/MethodHandle" ∧ y.cls ≠ "java/lang/invoke/VarHandle" ∧ (parseMethodDescriptor y.desc).map (fun d => d.parameters.length) = some n
def CSI (own : String) (idx : Nat) (y : MethodName) (bytes : ByteArray) (maxL : Nat) (n : Nat) : Prop :=
  (Cond.methodLink own idx y ∈ TB ∧ Cond.instanceMethod y ∈ TB ∧ Cond.initialized y.cls ∈ TB ∧ Cond.code y bytes maxL none ∈ TB) ∧ y.name = "<init>" ∧ y.cls ≠ "java/lang/invoke/MethodHandle" ∧ y.cls ≠ "java/lang/invoke/VarHandle" ∧ (parseMethodDescriptor y.desc).map (fun d => d.parameters.length) = some n
theorem x_fix (F : Fx K g cc own nL ret hh fr lo mc ms) : CallFix (kp K) (km K) (kc K) cc nL (ks K) (ka K) TB own := ⟨F.ex, F.by_, F.lx, F.ow, F.tb⟩
theorem tb_gi0 {cy : Cond} (h : cy ∈ TB) : GoodIn TB (cy :: TB) := fun w hw => by
  rcases List.mem_cons.mp hw with rfl | h2
  · exact ⟨h, good_of_word (tb_gw h)⟩
  · exact ⟨h2, good_of_word (tb_gw h2)⟩
theorem x_callB (F : Fx K g cc own nL ret hh fr lo mc ms) {y : MethodName} {bytes : ByteArray} {maxL idx n fr' lo' mc' ms' : Nat} {yr : Option FieldType} (w1 : (Cond.methodLink own idx y).before (ka K) (ks K) = true) (w4 : Cond.initialized y.cls ∈ TB) (w5 : Cond.code y bytes maxL yr ∈ TB) (hd : y.cls ≠ "java/lang/invoke/MethodHandle" ∧ y.cls ≠ "java/lang/invoke/VarHandle" ∧ (parseMethodDescriptor y.desc).map (fun d => d.parameters.length) = some n) (hR : fr' + 1 ≤ fr ∧ 8 + (maxL + 11) + lo' ≤ lo) : CallB (kR K) (ks K) (ka K) own idx y bytes maxL yr (Cond.code y bytes maxL yr :: TB) { frames := fr', cells := mc', slots := ms', locals := lo' } mc' ms' n :=
  callB_of n F.tb (tb_gi0 w5) rfl rfl rfl (F.tb _ w4) w1 hd (by rw [F.rf, F.rl]; exact hR)
/-- behind a call: where it returned, where it threw -/
theorem x_after {l1 : Launch} {y : MethodName} {bytes : ByteArray} {maxL fr' lo' mc' ms' : Nat} {yr : Option FieldType} {av : List Value} {post : Option Value → MM → Prop} {px : String → MM → Prop} {rest st0 : List Value}
    (kx : ∀ E M', px E M' → XT K g nL Q M' (a + mc') (b + ms') pc L E) (kk : ∀ v M', post v M' → XW K g nL Q M' (a + mc') (b + ms') (pc + 3) L (v.toList ++ rest)) {H : Heap} {lc : List Loc} {ls : Array Slot} (hS : va_S (gO g) (ks K).heap H lc) (hl : lv_has ls nL L)
    (hr : vx_Run (kp K) (kl K) (ke K) (kR K) (ks K) (km K) (ka K) (kb K) (kme K) (kc K) H lc a b mc' ms' (F0 (km K) pc ls st0) rest (xQc g post av.toArray) (xXC g px) (gO g)) : W (kp K) (kl K) (ke K) (kR K) (ks K) (km K) (ka K) (kb K) (kme K) (kc K) H lc a b Q (F0 (km K) pc ls st0) := by
  intro T hT X
  rcases hr T hT X with ⟨v, st₀, t, T', LL, h0, X', hL, e1, e2, ⟨⟨v', M', hv, hp, hb⟩, hF⟩, hst⟩ | ⟨q, st₀, t, T', LL, E, ce, h0, X', hL, e1, e2, ⟨⟨M', hp, hb⟩, hF⟩, hce, hcv, hcl, hst⟩
  · cases hv
    obtain ⟨-, -, k3⟩ := vx_keep h0 e1 hS (fun _ _ h => h) (fun _ h => h) hL hF
    obtain ⟨t2, a1, b1⟩ := kk v M' hp T'.heap (lc ++ LL) ls (by rw [e1]; exact hb) k3 hl T' rfl X'
    exact ⟨t2, hst t2 a1, b1⟩
  · obtain ⟨-, -, k3⟩ := vx_keep h0 e1 hS (fun _ _ h => h) (fun _ h => h) hL hF
    obtain ⟨t2, a1, b1⟩ := kx E M' hp T'.heap (lc ++ LL) ls rest q ce (by rw [e1]; exact hb) k3 hl (by rw [e1]; exact hce) hcv hcl T' rfl X'
    exact ⟨t2, hst.trans a1, b1⟩
theorem x_pre (F : Fx K g cc own nL ret hh fr lo mc ms) {av : List Value} {H : Heap} {lc : List Loc} (hM : hm g M H) (hS : va_S (gO g) (ks K).heap H lc) : ∀ U : State, U.heap = H → (ks K).WarmedH U.vm → xPc g av M av.toArray U := fun U hU hW => ⟨rfl, F.gg.step hS hU hW, by rw [hU]; exact hM⟩
theorem x_callV (F : Fx K g cc own nL ret hh fr lo mc ms) {idx n maxL fr' lo' mc' ms' q ci N : Nat} {y : MethodName} {C : String} {T : u_T} {bytes : ByteArray} {yr : Option FieldType} {post : Option Value → MM → Prop} {px : String → MM → Prop} {fs As rest : List Value} (cs : CSV own idx y C bytes maxL yr n) (hM0 : M q = some (.inr (ci, fs))) (hc : vwCl[ci]? = some (C, T, N)) (hn : As.length = n) (hct : CT (kl K) g y bytes maxL yr fr' lo' mc' ms' (.ref q :: As) M post px) (hst : st = As.reverse ++ .ref q :: rest) (d : decode cc pc = .ok (.invokevirtual idx, 3)) (hR : fr' + 1 ≤ fr ∧ 8 + (maxL + 11) + lo' ≤ lo) (hr : a + mc' ≤ mc ∧ b + ms' ≤ ms) (h8 : (rest.map fun v => v.category).sum ≤ 8)
    (kx : ∀ E M', px E M' → XT K g nL Q M' (a + mc') (b + ms') pc L E) (kk : ∀ v M', post v M' → XW K g nL Q M' (a + mc') (b + ms') (pc + 3) L (v.toList ++ rest)) : XW K g nL Q M a b pc L st := by
  intro H lc ls hM hS hl
  obtain ⟨⟨w1, w2, w3, w4, w5⟩, e1, d1, d2, d3⟩ := cs
  subst e1
  refine x_after (l1 := kl K) (y := y) (bytes := bytes) (maxL := maxL) (fr' := fr') (lo' := lo') (yr := yr) (av := .ref q :: As) kx kk hS hl ?_
  exact vx_runV (C := y.cls) (x_fix F) hct ⟨x_callB F (F.tb _ w1) w4 w5 ⟨d1, d2, d3⟩ hR, F.tb _ w2, F.tb _ w3⟩ ⟨xPc_blind, x_cell F.vk hM hM0 hc, x_pre F hM hS⟩ rfl hn hl.1 hst (lv_room h8) d ⟨by rw [F.rc]; exact hr.1, by rw [F.rs]; exact hr.2⟩
theorem x_callS (F : Fx K g cc own nL ret hh fr lo mc ms) {idx n maxL fr' lo' mc' ms' : Nat} {y : MethodName} {bytes : ByteArray} {yr : Option FieldType} {post : Option Value → MM → Prop} {px : String → MM → Prop} {As rest : List Value} (cs : CSS own idx y bytes maxL yr n) (hn : As.length = n) (hct : CT (kl K) g y bytes maxL yr fr' lo' mc' ms' As M post px) (hst : st = As.reverse ++ rest) (d : decode cc pc = .ok (.invokestatic idx, 3)) (hR : fr' + 1 ≤ fr ∧ 8 + (maxL + 11) + lo' ≤ lo) (hr : a + mc' ≤ mc ∧ b + ms' ≤ ms) (h8 : (rest.map fun v => v.category).sum ≤ 8)
    (kx : ∀ E M', px E M' → XT K g nL Q M' (a + mc') (b + ms') pc L E) (kk : ∀ v M', post v M' → XW K g nL Q M' (a + mc') (b + ms') (pc + 3) L (v.toList ++ rest)) : XW K g nL Q M a b pc L st := by
  intro H lc ls hM hS hl
  obtain ⟨⟨w1, w2, w4, w5⟩, d1, d2, d3⟩ := cs
  refine x_after (l1 := kl K) (y := y) (bytes := bytes) (maxL := maxL) (fr' := fr') (lo' := lo') (yr := yr) (av := As) kx kk hS hl ?_
  exact vx_runS (x_fix F) hct ⟨x_callB F (F.tb _ w1) w4 w5 ⟨d1, d2, d3⟩ hR, F.tb _ w2⟩ ⟨xPc_blind, x_pre F hM hS⟩ rfl hn hl.1 hst (lv_room h8) d ⟨by rw [F.rc]; exact hr.1, by rw [F.rs]; exact hr.2⟩
/-- thrown here, not caught here -/
theorem x_out (F : Fx K g cc own nL ret [] fr lo mc ms) {post : Option Value → MM → Prop} {px : String → MM → Prop} {E : String} (ha : a ≤ mc) (hb : b ≤ ms) (hp : px E M) : XT K g nL (MQx K g post px mc ms) M a b pc L E := by
  intro H lc ls rest q ce hM hS hl hce hcv hcl
  refine vx_out (E := E) (fun x hx => ?_) F.lk hce hcv hcl (fun t ht hv => ⟨⟨M, hp, by rw [ht]; exact hM⟩, hS.F ht⟩) hS.2.2 ha hb
  rw [F.ta] at hx
  cases hx
theorem x_outX (F : Fx K g cc own nL ret [] fr lo mc ms) {post : Option Value → MM → Prop} {px px' : String → MM → Prop} (ha : a ≤ mc ∧ b ≤ ms) (hp : ∀ E M', px' E M' → px E M') : ∀ E M', px' E M' → XT K g nL (MQx K g post px mc ms) M' a b pc L E := fun E M' h => x_out F ha.1 ha.2 (hp E M' h)
theorem x_noX : ∀ E M', nX E M' → XT K g nL Q M' a b pc L E := fun _ _ h => h.elim
theorem ki {P : Int32 → MM → Prop} (h : ∀ r M', P r M' → XW K g nL Q M' a b pc L (.int r :: st)) : ∀ v M', pI P v M' → XW K g nL Q M' a b pc L (v.toList ++ st) := by
  rintro _ M' ⟨r, rfl, hp⟩
  exact h r M' hp
theorem kr {P : Nat → MM → Prop} (h : ∀ r M', P r M' → XW K g nL Q M' a b pc L (.ref r :: st)) : ∀ v M', pR P v M' → XW K g nL Q M' a b pc L (v.toList ++ st) := by
  rintro _ M' ⟨r, rfl, hp⟩
  exact h r M' hp
theorem kq {P : Option Nat → MM → Prop} (h : ∀ r M', P r M' → XW K g nL Q M' a b pc L (va_rf r :: st)) : ∀ v M', pQ P v M' → XW K g nL Q M' a b pc L (v.toList ++ st) := by
  rintro _ M' ⟨r, rfl, hp⟩
  exact h r M' hp
theorem kv {P : MM → Prop} (h : ∀ M', P M' → XW K g nL Q M' a b pc L st) : ∀ v M', pV P v M' → XW K g nL Q M' a b pc L (v.toList ++ st) := by
  rintro _ M' ⟨rfl, hp⟩
  exact h M' hp
-- ends
theorem x_iret (F : Fx K g cc own nL (some .int) hh fr lo mc ms) {post : Option Value → MM → Prop} {px : String → MM → Prop} {v : Int32} (d : decode cc pc = .ok (.ireturn, 1)) (ha : a ≤ mc ∧ b ≤ ms) (hp : post (some (.int v)) M) : XW K g nL (MQx K g post px mc ms) M a b pc L [.int v] :=
  fun H lc ls hM hS hl => W.widen ha.1 ha.2 (vx_ret (W.iret F.ex F.by_ F.re (fun t ht hW => ⟨⟨_, M, rfl, hp, by rw [ht]; exact hM⟩, hS.F ht⟩) hS.2.2 d F.lk))
theorem x_zret (F : Fx K g cc own nL (some .boolean) hh fr lo mc ms) {post : Option Value → MM → Prop} {px : String → MM → Prop} {v : Int32} (d : decode cc pc = .ok (.ireturn, 1)) (ha : a ≤ mc ∧ b ≤ ms) (hv : v = 0 ∨ v = 1) (hp : post (some (.int v)) M) : XW K g nL (MQx K g post px mc ms) M a b pc L [.int v] :=
  fun H lc ls hM hS hl => W.widen ha.1 ha.2 (vx_ret (W.zret F.ex F.by_ F.re (by rcases hv with rfl | rfl <;> rfl) (fun t ht hW => ⟨⟨_, M, rfl, hp, by rw [ht]; exact hM⟩, hS.F ht⟩) hS.2.2 d F.lk))
theorem x_aret (F : Fx K g cc own nL ret hh fr lo mc ms) {rt : FieldType} (hrt : ret = some rt) (hk : (∃ n, rt = .object n) ∨ ∃ t, rt = .array t) {post : Option Value → MM → Prop} {px : String → MM → Prop} {v : Nat} (d : decode cc pc = .ok (.areturn, 1)) (ha : a ≤ mc ∧ b ≤ ms) (hp : post (some (.ref v)) M) : XW K g nL (MQx K g post px mc ms) M a b pc L [.ref v] :=
  fun H lc ls hM hS hl => W.widen ha.1 ha.2 (vx_ret (W.aret F.ex F.by_ (F.re.trans hrt) hk (Or.inr ⟨v, rfl⟩) (fun t ht hW => ⟨⟨_, M, rfl, hp, by rw [ht]; exact hM⟩, hS.F ht⟩) hS.2.2 d F.lk))
theorem x_aretN (F : Fx K g cc own nL ret hh fr lo mc ms) {rt : FieldType} (hrt : ret = some rt) (hk : (∃ n, rt = .object n) ∨ ∃ t, rt = .array t) {post : Option Value → MM → Prop} {px : String → MM → Prop} (d : decode cc pc = .ok (.areturn, 1)) (ha : a ≤ mc ∧ b ≤ ms) (hp : post (some .null) M) : XW K g nL (MQx K g post px mc ms) M a b pc L [.null] :=
  fun H lc ls hM hS hl => W.widen ha.1 ha.2 (vx_ret (W.aret F.ex F.by_ (F.re.trans hrt) hk (Or.inl rfl) (fun t ht hW => ⟨⟨_, M, rfl, hp, by rw [ht]; exact hM⟩, hS.F ht⟩) hS.2.2 d F.lk))
theorem x_vret (F : Fx K g cc own nL none hh fr lo mc ms) {post : Option Value → MM → Prop} {px : String → MM → Prop} (d : decode cc pc = .ok (.return_, 1)) (ha : a ≤ mc ∧ b ≤ ms) (hp : post none M) : XW K g nL (MQx K g post px mc ms) M a b pc L [] :=
  fun H lc ls hM hS hl => W.widen ha.1 ha.2 (vx_ret (W.vret F.ex F.by_ F.re (fun t ht hW => ⟨⟨_, M, rfl, hp, by rw [ht]; exact hM⟩, hS.F ht⟩) hS.2.2 d F.lk))
theorem x_widen {a' b' : Nat} (h1 : a ≤ a') (h2 : b ≤ b') (kk : XW K g nL Q M a' b' pc L st) : XW K g nL Q M a b pc L st := fun H lc ls hM hS hl => W.widen h1 h2 (kk H lc ls hM hS hl)
theorem x_sub {L' : List (Nat × Value)} (ks : List Nat) (h : lv_pick L ks = L') (kk : XW K g nL Q M a b pc L' st) : XW K g nL Q M a b pc L st := fun H lc ls hM hS hl => kk H lc ls hM hS (lv_sub hl ks h)
end XC
/-- loops that count: downward induction -/
theorem x_loop (n : Nat) (P : Nat → Prop) (h : ∀ i, i ≤ n → (i < n → P (i + 1)) → P i) : ∀ i, i ≤ n → P i := by
  intro i hi
  obtain ⟨k, hk⟩ : ∃ k, k = n - i := ⟨_, rfl⟩
  induction k generalizing i with
  | zero => exact h i hi (fun z => by omega)
  | succ k ih => exact h i hi (fun z => ih (i + 1) z (by omega))
end
section
/-! throws of the class, JDK's own calls that the kit walks -/
def eN : List String := ["java/lang/RuntimeException", "java/lang/Exception"]
def eB (cls : String) : List Cond := Cond.castable cls cls :: DCl.map Cond.declares
set_option maxRecDepth 20000 in
theorem at_IA1 : ∀ w ∈ (vx_atS RX3 34 sIA eN).filter goodWord, w ∈ lw_tbl := by decide +kernel
set_option maxRecDepth 20000 in
theorem at_IS1 : ∀ w ∈ (vx_atS RX3 45 sIS eN).filter goodWord, w ∈ lw_tbl := by decide +kernel
set_option maxRecDepth 20000 in
theorem at_IO1 : ∀ w ∈ (vx_atS RX3 204 sIO eN).filter goodWord, w ∈ lw_tbl := by decide +kernel
set_option maxRecDepth 20000 in
theorem at_IA2 : ∀ w ∈ (vx_atS RX3 34 sIA eN).filter (fun w => !goodWord w), w ∈ eB sIA := by decide +kernel
set_option maxRecDepth 20000 in
theorem at_IS2 : ∀ w ∈ (vx_atS RX3 45 sIS eN).filter (fun w => !goodWord w), w ∈ eB sIS := by decide +kernel
set_option maxRecDepth 20000 in
theorem at_IO2 : ∀ w ∈ (vx_atS RX3 204 sIO eN).filter (fun w => !goodWord w), w ∈ eB sIO := by decide +kernel
def TH (own : String) (ik ic : Nat) (cls : String) : Prop :=
  own = RX3 ∧ Bundle.fit cls = true ∧ Cond.classLink own ik cls ∈ TB ∧ Cond.initialized cls ∈ TB ∧ (∀ w ∈ (vx_atS own ic cls eN).filter goodWord, w ∈ lw_tbl) ∧ (∀ w ∈ (vx_atS own ic cls eN).filter (fun w => !goodWord w), w ∈ eB cls) ∧ (∀ w ∈ vx_atS own ic cls eN, vx_ot w = true) ∧ (cls, cls) ∈ CCl
theorem eN_fit : ∀ n ∈ eN, Bundle.fit n = true := by decide +kernel
theorem th_IA : TH RX3 30 34 sIA := ⟨rfl, by decide +kernel, tb_of (by decide +kernel) rfl, tb_of (by decide +kernel) rfl, at_IA1, at_IA2, by decide +kernel, by decide +kernel⟩
theorem th_IS : TH RX3 41 45 sIS := ⟨rfl, by decide +kernel, tb_of (by decide +kernel) rfl, tb_of (by decide +kernel) rfl, at_IS1, at_IS2, by decide +kernel, by decide +kernel⟩
theorem th_IO : TH RX3 200 204 sIO := ⟨rfl, by decide +kernel, tb_of (by decide +kernel) rfl, tb_of (by decide +kernel) rfl, at_IO1, at_IO2, by decide +kernel, by decide +kernel⟩
section XT2
variable {K : KX} {g : GP} {cc : ByteArray} {own : String} {nL : Nat} {ret : Option FieldType} {hh : List (Nat × Nat × Nat × Nat)} {fr lo mc ms : Nat} {Q : State → Prop} {M : MM} {a b pc : Nat} {L : List (Nat × Value)} {st : List Value}
theorem x_hat (F : Fx K g cc own nL ret hh fr lo mc ms) {ik ic : Nat} {cls : String} (h : TH own ik ic cls) : ∀ w ∈ vx_atS own ic cls eN, w.before (ka K) (ks K) = true := by
  obtain ⟨ho, h1, h2, h3, h4, h5, h6, h7⟩ := h
  refine vx_hat (fun w hw => F.tb w (tb_of (h4 w hw) (List.mem_filter.mp hw).2)) h5 (fun w hw => ?_)
  rcases List.mem_cons.mp hw with rfl | hw
  · exact va_Nw.use rfl (F.gg.2.2.2.2.1 _ h7)
  · obtain ⟨z, hz, rfl⟩ := List.mem_map.mp hw
    exact va_Nw.use rfl (F.gg.2.2.2.2.2.1 _ hz)
theorem th_good {own : String} {ik ic : Nat} {cls : String} (h : TH own ik ic cls) : ∀ w ∈ Cond.classLink own ik cls :: Cond.initialized cls :: vx_atS own ic cls eN, vx_ot w = true := by
  intro w hw
  rcases List.mem_cons.mp hw with rfl | hw
  · rfl
  · rcases List.mem_cons.mp hw with rfl | hw
    · rfl
    · exact h.2.2.2.2.2.2.1 w hw
theorem x_throw (F : Fx K g cc own nL ret [] fr lo mc ms) {post : Option Value → MM → Prop} {px : String → MM → Prop} {ik is ic : Nat} {cls text : String} (h : TH own ik ic cls) (hs : (is, text) ∈ SRl) (d0 : decode cc pc = .ok (.new ik, 3)) (d3 : decode cc (pc + 3) = .ok (.dup, 1)) (d4 : decode cc (pc + 4) = .ok (.ldc is, 2)) (d6 : decode cc (pc + 6) = .ok (.invokespecial ic, 3)) (d9 : decode cc (pc + 9) = .ok (.athrow, 1))
    (hR : 6 ≤ fr ∧ (st.map fun v => v.category).sum + 82 ≤ lo ∧ a + 1 ≤ mc ∧ b + 6 ≤ ms) (hp : px cls M) : XW K g nL (MQx K g post px mc ms) M a b pc L st := by
  intro H lc ls hM hS hl
  obtain ⟨sa, hsa⟩ := F.gg.2.2.2.1 _ hs
  have ho := h.1
  refine vx_throwS F.ex F.by_ F.nt (sa := sa) (names := eN) (text := text) F.ow h.2.1 eN_fit (F.tb _ h.2.2.1) (F.tb _ h.2.2.2.1) (by rw [ho]; exact hsa) (x_hat F h) (th_good h) F.gg.2.1.2.2.2.2.1 F.gg.2.1.2.2.2.2.2 hS (hl.1.trans F.lx.symm) d0 d3 d4 d6 d9 (fun x hx => ?_) (by rw [F.rf]; exact hR.1) (by rw [F.rl]; exact hR.2.1) (by rw [F.rc]; exact hR.2.2.1) (by rw [F.rs]; exact hR.2.2.2) F.lk (fun t hv hz hk => ⟨⟨M, hp, hM.kept (fun q _ hq => hk q hq)⟩, ?_⟩) hS.2.2 hR.2.2.1 hR.2.2.2
  · rw [F.ta] at hx
    cases hx
  · exact ⟨Nat.le_trans hS.1 hz, fun q h1 h2 => (hk q (Nat.lt_of_lt_of_le h1 hS.1)).trans (hS.2.1 q h1 h2)⟩
/-- throw, the text by a wide index -/
theorem x_throwW (F : Fx K g cc own nL ret [] fr lo mc ms) {post : Option Value → MM → Prop} {px : String → MM → Prop} {ik is ic : Nat} {cls text : String} (h : TH own ik ic cls) (hs : (is, text) ∈ SRl) (d0 : decode cc pc = .ok (.new ik, 3)) (d3 : decode cc (pc + 3) = .ok (.dup, 1)) (d4 : decode cc (pc + 4) = .ok (.ldc_w is, 3)) (d7 : decode cc (pc + 7) = .ok (.invokespecial ic, 3)) (d10 : decode cc (pc + 10) = .ok (.athrow, 1))
    (hR : 6 ≤ fr ∧ (st.map fun v => v.category).sum + 82 ≤ lo ∧ a + 1 ≤ mc ∧ b + 6 ≤ ms) (hp : px cls M) : XW K g nL (MQx K g post px mc ms) M a b pc L st := by
  intro H lc ls hM hS hl
  obtain ⟨sa, hsa⟩ := F.gg.2.2.2.1 _ hs
  have ho := h.1
  refine vx_throwSW F.ex F.by_ F.nt (sa := sa) (names := eN) (text := text) F.ow h.2.1 eN_fit (F.tb _ h.2.2.1) (F.tb _ h.2.2.2.1) (by rw [ho]; exact hsa) (x_hat F h) (th_good h) F.gg.2.1.2.2.2.2.1 F.gg.2.1.2.2.2.2.2 hS (hl.1.trans F.lx.symm) d0 d3 d4 d7 d10 (fun x hx => ?_) (by rw [F.rf]; exact hR.1) (by rw [F.rl]; exact hR.2.1) (by rw [F.rc]; exact hR.2.2.1) (by rw [F.rs]; exact hR.2.2.2) F.lk (fun t hv hz hk => ⟨⟨M, hp, hM.kept (fun q _ hq => hk q hq)⟩, ?_⟩) hS.2.2 hR.2.2.1 hR.2.2.2
  · rw [F.ta] at hx
    cases hx
  · exact ⟨Nat.le_trans hS.1 hz, fun q h1 h2 => (hk q (Nat.lt_of_lt_of_le h1 hS.1)).trans (hS.2.1 q h1 h2)⟩
/-- Object.<init> -/
theorem x_objInit (F : Fx K g cc own nL ret hh fr lo mc ms) {idx q : Nat} (w1 : Cond.methodLink own idx objectInit ∈ TB) (w2 : Cond.instanceMethod objectInit ∈ TB) (w3 : Cond.code objectInit ⟨#[0xb1]⟩ 1 none ∈ TB) (d : decode cc pc = .ok (.invokespecial idx, 3)) (hR : 1 ≤ fr ∧ (st.map fun v => v.category).sum + 12 ≤ lo) (kk : XW K g nL Q M a b (pc + 3) L st) : XW K g nL Q M a b pc L (.ref q :: st) := by
  intro H lc ls hM hS hl
  refine W.objInit F.ex F.by_ F.ow (F.tb _ w1) (F.tb _ w2) (F.tb _ w3) rfl (hl.1.trans F.lx.symm) rfl d (by rw [F.rf]; exact hR.1) (by rw [F.rl]; show 2 * 0 + _ + 12 ≤ lo; omega) ?_
  exact kk H lc ls hM hS hl
theorem x_mabs (F : Fx K g cc own nL ret hh fr lo mc ms) {idx : Nat} {x : Int32} (w : Cond.methodLink own idx Lib.Math.abs.name ∈ TB ∧ Cond.static Lib.Math.abs.name ∈ TB ∧ Cond.initialized "java/lang/Math" ∈ TB ∧ Cond.code Lib.Math.abs.name Lib.Math.abs.code 1 (some .int) ∈ TB) (d : decode cc pc = .ok (.invokestatic idx, 3)) (hR : 1 ≤ fr ∧ (st.map fun v => v.category).sum + 13 ≤ lo ∧ a ≤ mc ∧ b ≤ ms) (kk : XW K g nL Q M a b (pc + 3) L (.int (if 0 ≤ x then x else 0 - x) :: st)) : XW K g nL Q M a b pc L (.int x :: st) :=
  fun H lc ls hM hS hl => va_mabs F.ex F.by_ (F.lx.trans hl.1.symm) F.ow (F.tb _ w.1) (F.tb _ w.2.1) (F.tb _ w.2.2.1) (F.tb _ w.2.2.2) (by rw [F.rf]; exact hR.1) (by rw [F.rl]; exact hR.2.1) (by rw [F.rc]; exact hR.2.2.1) (by rw [F.rs]; exact hR.2.2.2) d (kk H lc ls hM hS hl)
theorem x_mmin (F : Fx K g cc own nL ret hh fr lo mc ms) {idx : Nat} {x y : Int32} (w : Cond.methodLink own idx Lib.Math.min.name ∈ TB ∧ Cond.static Lib.Math.min.name ∈ TB ∧ Cond.initialized "java/lang/Math" ∈ TB ∧ Cond.code Lib.Math.min.name Lib.Math.min.code 2 (some .int) ∈ TB) (d : decode cc pc = .ok (.invokestatic idx, 3)) (hR : 1 ≤ fr ∧ (st.map fun v => v.category).sum + 13 ≤ lo ∧ a ≤ mc ∧ b ≤ ms) (kk : XW K g nL Q M a b (pc + 3) L (.int (if y < x then y else x) :: st)) : XW K g nL Q M a b pc L (.int y :: .int x :: st) :=
  fun H lc ls hM hS hl => va_mmin F.ex F.by_ (F.lx.trans hl.1.symm) F.ow (F.tb _ w.1) (F.tb _ w.2.1) (F.tb _ w.2.2.1) (F.tb _ w.2.2.2) (by rw [F.rf]; exact hR.1) (by rw [F.rl]; exact hR.2.1) (by rw [F.rc]; exact hR.2.2.1) (by rw [F.rs]; exact hR.2.2.2) d (kk H lc ls hM hS hl)
theorem x_mmax (F : Fx K g cc own nL ret hh fr lo mc ms) {idx : Nat} {x y : Int32} (w : Cond.methodLink own idx Lib.Math.max.name ∈ TB ∧ Cond.static Lib.Math.max.name ∈ TB ∧ Cond.initialized "java/lang/Math" ∈ TB ∧ Cond.code Lib.Math.max.name Lib.Math.max.code 2 (some .int) ∈ TB) (d : decode cc pc = .ok (.invokestatic idx, 3)) (hR : 1 ≤ fr ∧ (st.map fun v => v.category).sum + 13 ≤ lo ∧ a ≤ mc ∧ b ≤ ms) (kk : XW K g nL Q M a b (pc + 3) L (.int (if x < y then y else x) :: st)) : XW K g nL Q M a b pc L (.int y :: .int x :: st) :=
  fun H lc ls hM hS hl => va_mmax F.ex F.by_ (F.lx.trans hl.1.symm) F.ow (F.tb _ w.1) (F.tb _ w.2.1) (F.tb _ w.2.2.1) (F.tb _ w.2.2.2) (by rw [F.rf]; exact hR.1) (by rw [F.rl]; exact hR.2.1) (by rw [F.rc]; exact hR.2.2.1) (by rw [F.rs]; exact hR.2.2.2) d (kk H lc ls hM hS hl)
/-- arraycopy between arrays of Object whose elements are objects of one class -/
theorem x_copyO (F : Fx K g cc own nL ret hh fr lo mc ms) {idx q0 q1 n0 n1 ci : Nat} {C : String} {T : u_T} {N : Nat} {f f1 : Nat → Option Nat} {sp dp n : Int32} (w : Cond.methodLink own idx arraycopyName ∈ TB ∧ Cond.native arraycopyName ∈ TB ∧ Cond.static arraycopyName ∈ TB ∧ Cond.initialized "java/lang/System" ∈ TB) (hM0 : M q0 = some (.inl (gC g 3, n0, .inr (.inr (.inr (.inr f)))))) (hM1 : M q1 = some (.inl (gC g 3, n1, .inr (.inr (.inr (.inr f1)))))) (hc : vwCl[ci]? = some (C, T, N)) (hca : (C, "java/lang/Object") ∈ CCl)
    (h1 : ¬ sp < 0) (h2 : ¬ dp < 0) (h3 : ¬ n < 0) (h4 : sp.toNatClampNeg + n.toNatClampNeg ≤ n0) (h5 : dp.toNatClampNeg + n.toNatClampNeg ≤ n1) (hel : ∀ i : Nat, i < n.toNatClampNeg → ∀ y : Nat, f (sp.toNatClampNeg + i) = some y → ∃ fs, M y = some (.inr (ci, fs))) (d : decode cc pc = .ok (.invokestatic idx, 3)) (hR : 1 ≤ fr ∧ (st.map fun v => v.category).sum + (nativeFrameWords "java/lang/System" "arraycopy" 5 + 11) ≤ lo)
    (kk : XW K g nL Q (mup M q1 (.inl (gC g 3, n1, .inr (.inr (.inr (.inr (va_cpy f f1 sp.toNatClampNeg dp.toNatClampNeg n.toNatClampNeg))))))) a b (pc + 3) L st) : XW K g nL Q M a b pc L (.int n :: .int dp :: .ref q1 :: .int sp :: .ref q0 :: st) := by
  intro H lc ls hM hS hl
  obtain ⟨k0, hk0⟩ := wl_get hM0 (hM.lt hM0)
  obtain ⟨k1, hk1⟩ := wl_get hM1 (hM.lt hM1)
  refine va_copyq (C := C) F.ex F.by_ (F.lx.trans hl.1.symm) F.ow (F.tb _ w.1) (F.tb _ w.2.1) (F.tb _ w.2.2.1) (F.tb _ w.2.2.2) F.vk (wl_P hM _) (wl_D hM _) hS k0 k1 3 3 hk0 hk1 rfl rfl h1 h2 h3 h4 h5 (fun i hi y hy => ?_) (vb_asgC (F.gg.2.2.2.2.1 _ hca)) (by rw [F.rf]; exact hR.1) (by rw [F.rl]; exact hR.2) d fun H1 lc1 hP hD hS1 => kk H1 lc1 ls (wl_set hM hk1 hP) hS1 hl
  obtain ⟨fs, hfs⟩ := hel i hi y hy
  exact x_cell F.vk hM hfs hc
/-- ldc of Object[].class, and getClass of an Object[] -/
theorem x_ldcM (F : Fx K g cc own nL ret hh fr lo mc ms) {idx : Nat} (w : Cond.classLink own idx "[Ljava/lang/Object;" ∈ TB) (d : decode cc pc = .ok (.ldc idx, 2)) (kk : XW K g nL Q M a b (pc + 2) L (.ref (gA g 2) :: st)) : XW K g nL Q M a b pc L st :=
  fun H lc ls hM hS hl => va_ldcM F.ex F.by_ F.ow (F.tb _ w) F.gg.2.2.2.2.2.2.2.2.2.2.2 d (kk H lc ls hM hS hl)
def oGetClass : MethodName := ⟨"java/lang/Object", "getClass", "()Ljava/lang/Class;"⟩
theorem x_getC (F : Fx K g cc own nL ret hh fr lo mc ms) {idx q : Nat} {x0 : vp_A} (w : Cond.methodLink own idx oGetClass ∈ TB ∧ Cond.selects "[Ljava/lang/Object;" oGetClass oGetClass ∈ TB ∧ Cond.instanceMethod oGetClass ∈ TB ∧ Cond.native oGetClass ∈ TB) (hM0 : M q = some (.inl (gC g 3, x0))) (d : decode cc pc = .ok (.invokevirtual idx, 3)) (hR : 1 ≤ fr ∧ (st.map fun v => v.category).sum + 14 ≤ lo) (kk : XW K g nL Q M a b (pc + 3) L (.ref (gA g 2) :: st)) : XW K g nL Q M a b pc L (.ref q :: st) := by
  intro H lc ls hM hS hl
  refine va_getC F.ex F.by_ (F.lx.trans hl.1.symm) F.ow (F.tb _ w.1) (va_Nw.use rfl (F.gg.2.2.2.2.2.1 oGetClass (by decide +kernel))) (F.tb _ w.2.1) (F.tb _ w.2.2.1) (F.tb _ w.2.2.2) F.gg.2.2.2.2.2.2.2.2.2.2.2 ?_ (by rw [F.rf]; exact hR.1) (by rw [F.rl]; exact hR.2) d (kk H lc ls hM hS hl)
  have h := hM.at hM0
  refine ⟨_, h, ?_, ?_⟩
  · obtain ⟨xn, xv⟩ := x0
    rcases xv with f | f | f | f | f <;> rfl
  · have h2 := va_nmO (F.vk.2 3 _ rfl).2 (nm := "[Ljava/lang/Object;") rfl
    rw [h2]
    obtain ⟨xn, xv⟩ := x0
    rcases xv with f | f | f | f | f <;> rfl
end XT2
end
section
/-! constructors, and a nest mate's static method -/
theorem ct_met {l : Launch} {g : GP} {y : MethodName} {cc : ByteArray} {nL : Nat} {ret : Option FieldType} {fr lo mc ms : Nat} {av : List Value} {M : MM} {post : Option Value → MM → Prop} (h : CT l g y cc nL ret fr lo mc ms av M post nX) : Met l y (Cond.code y cc nL ret :: TB) { frames := fr, cells := mc, slots := ms, locals := lo } (xPc g av M) (xQc g post) mc ms (gO g) := by
  intro p e ha hc hk s m args below hf happ hP hK
  obtain ⟨n, o, h1, h2, h3, hq⟩ := h p e ha hc hk s m args below hf happ hP hK
  refine ⟨n, o, h1, h2, h3, ?_⟩
  rcases hq with hq | ⟨q, ho, E, ce, LL, ⟨⟨M', hx, -⟩, -⟩, -⟩
  · exact hq
  · exact hx.elim
section XD
variable {K : KX} {g : GP} {cc : ByteArray} {own : String} {nL : Nat} {ret : Option FieldType} {hh : List (Nat × Nat × Nat × Nat)} {fr lo mc ms : Nat} {Q : State → Prop} {M : MM} {a b pc : Nat} {L : List (Nat × Value)} {st : List Value}
theorem x_after2 {mc' ms' : Nat} {av : Array Value} {post : Option Value → MM → Prop} {rest st0 : List Value}
    (kk : ∀ v M', post v M' → XW K g nL Q M' (a + mc') (b + ms') (pc + 3) L (v.toList ++ rest)) {H : Heap} {lc : List Loc} {ls : Array Slot} (hS : va_S (gO g) (ks K).heap H lc) (hl : lv_has ls nL L)
    (hr : va_Run (kp K) (kl K) (ke K) (kR K) (ks K) (km K) (ka K) (kb K) (kme K) (kc K) H lc a b mc' ms' (F0 (km K) pc ls st0) rest (xQc g post av) (gO g)) : W (kp K) (kl K) (ke K) (kR K) (ks K) (km K) (ka K) (kb K) (kme K) (kc K) H lc a b Q (F0 (km K) pc ls st0) := by
  intro T hT X
  obtain ⟨v, st₀, t, T', LL, h0, X', hL, e1, e2, ⟨⟨v', M', hv, hp, hb⟩, hF⟩, hst⟩ := hr T hT X
  cases hv
  obtain ⟨-, -, k3⟩ := vx_keep h0 e1 hS (fun _ _ h => h) (fun _ h => h) hL hF
  obtain ⟨t2, a1, b1⟩ := kk v M' hp T'.heap (lc ++ LL) ls (by rw [e1]; exact hb) k3 hl T' rfl X'
  exact ⟨t2, hst t2 a1, b1⟩
theorem x_callI (F : Fx K g cc own nL ret hh fr lo mc ms) {idx n maxL fr' lo' mc' ms' q : Nat} {y : MethodName} {bytes : ByteArray} {post : Option Value → MM → Prop} {As rest : List Value} (cs : CSI own idx y bytes maxL n) (hn : As.length = n) (hct : CT (kl K) g y bytes maxL none fr' lo' mc' ms' (.ref q :: As) M post nX) (hst : st = As.reverse ++ .ref q :: rest) (d : decode cc pc = .ok (.invokespecial idx, 3)) (hR : fr' + 1 ≤ fr ∧ 8 + (maxL + 11) + lo' ≤ lo) (hr : a + mc' ≤ mc ∧ b + ms' ≤ ms) (h8 : (rest.map fun v => v.category).sum ≤ 8)
    (kk : ∀ v M', post v M' → XW K g nL Q M' (a + mc') (b + ms') (pc + 3) L (v.toList ++ rest)) : XW K g nL Q M a b pc L st := by
  intro H lc ls hM hS hl
  obtain ⟨⟨w1, w2, w4, w5⟩, e1, d1, d2, d3⟩ := cs
  refine x_after2 (av := (Value.ref q :: As).toArray) kk hS hl ?_
  exact va_runI (x_fix F) (ct_met hct) ⟨x_callB F (F.tb _ w1) w4 w5 ⟨d1, d2, d3⟩ hR, e1, F.tb _ w2⟩ ⟨xPc_blind, x_pre F hM hS⟩ rfl hn hl.1 hst (lv_room h8) d ⟨by rw [F.rc]; exact hr.1, by rw [F.rs]; exact hr.2⟩
/-- RankStock.split out of RankStock$Rodeo -/
theorem x_callSplit (F : Fx K g cc RX2 nL ret hh fr lo mc ms) {fr' lo' : Nat} {post : Option Value → MM → Prop} {As rest : List Value} (w4 : Cond.initialized RX3 ∈ TB) (w5 : Cond.code yX3_split cX3_split 2 (some .int) ∈ TB) (w6 : Cond.static yX3_split ∈ TB) (hn : As.length = 2) (hct : CT (kl K) g yX3_split cX3_split 2 (some .int) fr' lo' 0 0 As M post nX) (hst : st = As.reverse ++ rest) (d : decode cc pc = .ok (.invokestatic 98, 3)) (hR : fr' + 1 ≤ fr ∧ 8 + (2 + 11) + lo' ≤ lo) (hr : a + 0 ≤ mc ∧ b + 0 ≤ ms) (h8 : (rest.map fun v => v.category).sum ≤ 8)
    (kk : ∀ v M', post v M' → XW K g nL Q M' (a + 0) (b + 0) (pc + 3) L (v.toList ++ rest)) : XW K g nL Q M a b pc L st := by
  intro H lc ls hM hS hl
  refine x_after2 (av := As.toArray) kk hS hl ?_
  exact va_runSN (x_fix F) (ct_met hct) ⟨va_cnB (host := RX3) 2 F.tb (tb_gi0 w5) rfl rfl rfl F.gg.2.2.2.2.2.2.2.2.1 (F.tb _ w4) ⟨by decide +kernel, by decide +kernel, by decide +kernel⟩ (by rw [F.rf, F.rl]; exact hR), F.tb _ w6, trivial⟩ ⟨xPc_blind, x_pre F hM hS⟩ rfl hn hl.1 hst (lv_room h8) d ⟨by rw [F.rc]; exact hr.1, by rw [F.rs]; exact hr.2⟩
end XD
end
section
/-! sites: what the tables say of each field access, call and constant of the methods (by program) -/
set_option maxRecDepth 20000 in
theorem tb_1 (i : Nat) {w : Cond} (h : tables_1_1[i]? = some w) (g : goodWord w = true) : w ∈ TB := tb_of (List.mem_append_right _ (List.mem_append_left _ (List.mem_of_getElem? h))) g
theorem tb_2 (i : Nat) {w : Cond} (h : tables_1_2[i]? = some w) (g : goodWord w = true) : w ∈ TB := tb_of (List.mem_append_right _ (List.mem_append_right _ (List.mem_append_left _ (List.mem_of_getElem? h)))) g
theorem tb_3 (i : Nat) {w : Cond} (h : tables_1_3[i]? = some w) (g : goodWord w = true) : w ∈ TB := tb_of (List.mem_append_right _ (List.mem_append_right _ (List.mem_append_right _ (List.mem_append_left _ (List.mem_of_getElem? h))))) g
theorem tb_4 (i : Nat) {w : Cond} (h : tables_1_4[i]? = some w) (g : goodWord w = true) : w ∈ TB := tb_of (List.mem_append_right _ (List.mem_append_right _ (List.mem_append_right _ (List.mem_append_right _ (List.mem_append_left _ (List.mem_of_getElem? h)))))) g
theorem tb_5 (i : Nat) {w : Cond} (h : tables_1_5[i]? = some w) (g : goodWord w = true) : w ∈ TB := tb_of (List.mem_append_right _ (List.mem_append_right _ (List.mem_append_right _ (List.mem_append_right _ (List.mem_append_right _ (List.mem_of_getElem? h)))))) g
def FG (own : String) (idx ci k : Nat) (C : String) (T : u_T) (N : Nat) : Prop := vwCl[ci]? = some (C, T, N) ∧ (∀ w ∈ u_ws C T N, w ∈ TB) ∧ k < N ∧ Cond.fieldLink own idx (T k).1 (T k).2.1 (T k).2.2.1 ∈ TB
def FP (own : String) (idx ci k : Nat) (C : String) (T : u_T) (N : Nat) (ty : FieldType) : Prop := FG own idx ci k C T N ∧ (∃ ty0 : Nat → FieldType, ∀ k, k < N → parseFieldDescriptor (T k).2.2.1 = some (ty0 k)) ∧ (∀ a, a < N → ∀ b, b < N → a ≠ b → (T a).2.1 ≠ (T b).2.1) ∧ parseFieldDescriptor (T k).2.2.1 = some ty
section XS
variable {K : KX} {g : GP} {cc : ByteArray} {own : String} {nL : Nat} {ret : Option FieldType} {hh : List (Nat × Nat × Nat × Nat)} {fr lo mc ms : Nat} {Q : State → Prop} {M : MM} {a b pc : Nat} {L : List (Nat × Value)} {st : List Value}
theorem x_fget (F : Fx K g cc own nL ret hh fr lo mc ms) {idx ci k q N : Nat} {C : String} {T : u_T} {fs : List Value} {v : Value} (s : FG own idx ci k C T N) (hM0 : M q = some (.inr (ci, fs))) (d : decode cc pc = .ok (.getfield idx, 3)) (hv : fs[k]? = some v) (kk : XW K g nL Q M a b (pc + 3) L (v :: st)) : XW K g nL Q M a b pc L (.ref q :: st) :=
  x_get F k hM0 s.1 s.2.1 s.2.2.1 s.2.2.2 (fun _ h => h) d hv kk
theorem x_fput (F : Fx K g cc own nL ret hh fr lo mc ms) {idx ci k q N : Nat} {C : String} {T : u_T} {fs : List Value} {v : Value} {ty : FieldType} (s : FP own idx ci k C T N ty) (hM0 : M q = some (.inr (ci, fs))) (hfin : (T k).2.2.2 = false) (d : decode cc pc = .ok (.putfield idx, 3)) (hn : narrow ty v = v) (hfit : fits ty v = true) (hlen : k < fs.length) (kk : XW K g nL Q (mup M q (.inr (ci, fs.set k v))) a b (pc + 3) L st) : XW K g nL Q M a b pc L (v :: .ref q :: st) := by
  obtain ⟨⟨s1, s2, s3, s4⟩, ⟨ty0, h0⟩, h1, h2⟩ := s
  exact x_put F k hM0 s1 s2 ty0 h0 h1 s3 s4 (fun _ h => h) hfin h2 d hn hfit hlen kk
theorem x_fputF (F : Fx K g cc own nL ret hh fr lo mc ms) {idx ci k q N : Nat} {C : String} {T : u_T} {fs : List Value} {v : Value} {ty : FieldType} (s : FP own idx ci k C T N ty) (hin2 : (kme K).name = "<init>") (hM0 : M q = some (.inr (ci, fs))) (hfin : (T k).2.2.2 = true) (hdecl : (T k).1 = own) (d : decode cc pc = .ok (.putfield idx, 3)) (hn : narrow ty v = v) (hfit : fits ty v = true) (hlen : k < fs.length) (kk : XW K g nL Q (mup M q (.inr (ci, fs.set k v))) a b (pc + 3) L st) : XW K g nL Q M a b pc L (v :: .ref q :: st) := by
  obtain ⟨⟨s1, s2, s3, s4⟩, ⟨ty0, h0⟩, h1, h2⟩ := s
  exact x_putF F k hin2 hM0 s1 s2 ty0 h0 h1 s3 s4 (fun _ h => h) hfin hdecl h2 d hn hfit hlen kk
end XS
theorem inT_Jx4a65c : ∀ w ∈ u_ws RJx4a65c TJx4a65c 3, w ∈ TB := by
  have h : ∀ w ∈ u_ws RJx4a65c TJx4a65c 3, w ∈ lw_tbl ∧ goodWord w = true := by decide +kernel
  exact fun w hw => tb_of (h w hw).1 (h w hw).2
theorem inT_X0 : ∀ w ∈ u_ws RX0 TX0 7, w ∈ TB := by
  have h : ∀ w ∈ u_ws RX0 TX0 7, w ∈ lw_tbl ∧ goodWord w = true := by decide +kernel
  exact fun w hw => tb_of (h w hw).1 (h w hw).2
theorem inT_X1 : ∀ w ∈ u_ws RX1 TX1 11, w ∈ TB := by
  have h : ∀ w ∈ u_ws RX1 TX1 11, w ∈ lw_tbl ∧ goodWord w = true := by decide +kernel
  exact fun w hw => tb_of (h w hw).1 (h w hw).2
theorem inT_X2 : ∀ w ∈ u_ws RX2 TX2 11, w ∈ TB := by
  have h : ∀ w ∈ u_ws RX2 TX2 11, w ∈ lw_tbl ∧ goodWord w = true := by decide +kernel
  exact fun w hw => tb_of (h w hw).1 (h w hw).2
theorem inT_X3 : ∀ w ∈ u_ws RX3 TX3 4, w ∈ TB := by
  have h : ∀ w ∈ u_ws RX3 TX3 4, w ∈ lw_tbl ∧ goodWord w = true := by decide +kernel
  exact fun w hw => tb_of (h w hw).1 (h w hw).2
theorem inT_X4 : ∀ w ∈ u_ws RX4 TX4 32, w ∈ TB := by
  have h : ∀ w ∈ u_ws RX4 TX4 32, w ∈ lw_tbl ∧ goodWord w = true := by decide +kernel
  exact fun w hw => tb_of (h w hw).1 (h w hw).2
set_option maxRecDepth 20000 in
theorem s_L_84 : CSI RL 84 yX3_init cX3_init 1 0 := ⟨⟨tb_1 25 rfl rfl, tb_1 26 rfl rfl, tb_1 1 rfl rfl, tb_1 27 rfl rfl⟩, rfl, by decide +kernel, by decide +kernel, by decide +kernel⟩
set_option maxRecDepth 20000 in
theorem s_X3_11 : CSI RX3 11 yJx4a65c_init_da8c8 cJx4a65c_init_da8c8 1 0 := ⟨⟨tb_1 33 rfl rfl, tb_1 34 rfl rfl, tb_1 4 rfl rfl, tb_1 35 rfl rfl⟩, rfl, by decide +kernel, by decide +kernel, by decide +kernel⟩
set_option maxRecDepth 20000 in
theorem s_Jx4a65c_1 : CSI RJx4a65c 1 yJxc12de_init_da8c8 cJxc12de_init_da8c8 1 0 := ⟨⟨tb_1 36 rfl rfl, tb_1 37 rfl rfl, tb_1 3 rfl rfl, tb_1 38 rfl rfl⟩, rfl, by decide +kernel, by decide +kernel, by decide +kernel⟩
set_option maxRecDepth 20000 in
theorem s_Jxc12de_1 : CSI RJxc12de 1 yJxa1e45_init_da8c8 cJxa1e45_init_da8c8 1 0 := ⟨⟨tb_1 39 rfl rfl, tb_1 40 rfl rfl, tb_1 2 rfl rfl, tb_1 41 rfl rfl⟩, rfl, by decide +kernel, by decide +kernel, by decide +kernel⟩
set_option maxRecDepth 20000 in
theorem f_Jx4a65c_9 : FG RJx4a65c 9 0 1 RJx4a65c TJx4a65c 3 := ⟨rfl, inT_Jx4a65c, by decide, tb_1 45 rfl rfl⟩
theorem p_Jx4a65c_9 : FP RJx4a65c 9 0 1 RJx4a65c TJx4a65c 3 (.array (.object "java/lang/Object")) := ⟨f_Jx4a65c_9, ⟨tyJx4a65c, tyJx4a65c_ok⟩, nmJx4a65c, by decide +kernel⟩
set_option maxRecDepth 20000 in
theorem f_Jx4a65c_48 : FG RJx4a65c 48 0 2 RJx4a65c TJx4a65c 3 := ⟨rfl, inT_Jx4a65c, by decide, tb_1 46 rfl rfl⟩
theorem p_Jx4a65c_48 : FP RJx4a65c 48 0 2 RJx4a65c TJx4a65c 3 .int := ⟨f_Jx4a65c_48, ⟨tyJx4a65c, tyJx4a65c_ok⟩, nmJx4a65c, by decide +kernel⟩
set_option maxRecDepth 20000 in
theorem f_X3_12 : FG RX3 12 4 0 RX3 TX3 4 := ⟨rfl, inT_X3, by decide, tb_1 57 rfl rfl⟩
theorem p_X3_12 : FP RX3 12 4 0 RX3 TX3 4 (.object "java/util/ArrayList") := ⟨f_X3_12, ⟨tyX3, tyX3_ok⟩, nmX3, by decide +kernel⟩
set_option maxRecDepth 20000 in
theorem f_X3_16 : FG RX3 16 4 1 RX3 TX3 4 := ⟨rfl, inT_X3, by decide, tb_1 58 rfl rfl⟩
theorem p_X3_16 : FP RX3 16 4 1 RX3 TX3 4 (.object "java/util/ArrayList") := ⟨f_X3_16, ⟨tyX3, tyX3_ok⟩, nmX3, by decide +kernel⟩
set_option maxRecDepth 20000 in
theorem f_X3_19 : FG RX3 19 4 2 RX3 TX3 4 := ⟨rfl, inT_X3, by decide, tb_1 59 rfl rfl⟩
theorem p_X3_19 : FP RX3 19 4 2 RX3 TX3 4 .int := ⟨f_X3_19, ⟨tyX3, tyX3_ok⟩, nmX3, by decide +kernel⟩
set_option maxRecDepth 20000 in
theorem f_X3_23 : FG RX3 23 4 3 RX3 TX3 4 := ⟨rfl, inT_X3, by decide, tb_1 60 rfl rfl⟩
theorem p_X3_23 : FP RX3 23 4 3 RX3 TX3 4 .int := ⟨f_X3_23, ⟨tyX3, tyX3_ok⟩, nmX3, by decide +kernel⟩
set_option maxRecDepth 20000 in
theorem s_L_161 : CSV RL 161 yX3_balances RX3 cX3_balances 2 (some .boolean) 0 := ⟨⟨tb_1 70 rfl rfl, tb_1 71 rfl rfl, tb_1 72 rfl rfl, tb_1 1 rfl rfl, tb_1 73 rfl rfl⟩, rfl, by decide +kernel, by decide +kernel, by decide +kernel⟩
set_option maxRecDepth 20000 in
theorem s_X3_37 : CSV RX3 37 yJx4a65c_size_8abf5 RJx4a65c cJx4a65c_size_8abf5 1 (some .int) 0 := ⟨⟨tb_1 74 rfl rfl, tb_1 75 rfl rfl, tb_1 76 rfl rfl, tb_1 4 rfl rfl, tb_1 77 rfl rfl⟩, rfl, by decide +kernel, by decide +kernel, by decide +kernel⟩
set_option maxRecDepth 20000 in
theorem s_X3_124 : CSV RX3 124 yJx4a65c_get_915e3 RJx4a65c cJx4a65c_get_915e3 2 (some (.object "java/lang/Object")) 1 := ⟨⟨tb_1 78 rfl rfl, tb_1 79 rfl rfl, tb_1 80 rfl rfl, tb_1 4 rfl rfl, tb_1 81 rfl rfl⟩, rfl, by decide +kernel, by decide +kernel, by decide +kernel⟩
set_option maxRecDepth 20000 in
theorem s_Jx4a65c_118 : CSS RJx4a65c 118 yJ15_checkIndex_7cf53 cJ15_checkIndex_7cf53 2 (some .int) 2 := ⟨⟨tb_1 82 rfl rfl, tb_1 83 rfl rfl, tb_1 18 rfl rfl, tb_1 84 rfl rfl⟩, by decide +kernel, by decide +kernel, by decide +kernel⟩
set_option maxRecDepth 20000 in
theorem s_J15_105 : CSS RJ15 105 yJ3_checkIndex_8e157 cJ3_checkIndex_8e157 3 (some .int) 3 := ⟨⟨tb_1 85 rfl rfl, tb_1 86 rfl rfl, tb_1 19 rfl rfl, tb_1 87 rfl rfl⟩, by decide +kernel, by decide +kernel, by decide +kernel⟩
set_option maxRecDepth 20000 in
theorem s_Jx4a65c_123 : CSV RJx4a65c 123 yJx4a65c_elementData_915e3 RJx4a65c cJx4a65c_elementData_915e3 2 (some (.object "java/lang/Object")) 1 := ⟨⟨tb_1 88 rfl rfl, tb_1 89 rfl rfl, tb_1 90 rfl rfl, tb_1 4 rfl rfl, tb_1 91 rfl rfl⟩, rfl, by decide +kernel, by decide +kernel, by decide +kernel⟩
set_option maxRecDepth 20000 in
theorem s_X3_248 : CSV RX3 248 yX2_isEven RX2 cX2_isEven 3 (some .boolean) 0 := ⟨⟨tb_1 93 rfl rfl, tb_1 94 rfl rfl, tb_1 95 rfl rfl, tb_1 16 rfl rfl, tb_1 96 rfl rfl⟩, rfl, by decide +kernel, by decide +kernel, by decide +kernel⟩
set_option maxRecDepth 20000 in
theorem s_X2_56 : CSV RX2 56 yJx4a65c_size_8abf5 RJx4a65c cJx4a65c_size_8abf5 1 (some .int) 0 := ⟨⟨tb_1 97 rfl rfl, tb_1 75 rfl rfl, tb_1 76 rfl rfl, tb_1 4 rfl rfl, tb_1 77 rfl rfl⟩, rfl, by decide +kernel, by decide +kernel, by decide +kernel⟩
set_option maxRecDepth 20000 in
theorem s_X2_60 : CSV RX2 60 yJx4a65c_get_915e3 RJx4a65c cJx4a65c_get_915e3 2 (some (.object "java/lang/Object")) 1 := ⟨⟨tb_1 98 rfl rfl, tb_1 79 rfl rfl, tb_1 80 rfl rfl, tb_1 4 rfl rfl, tb_1 81 rfl rfl⟩, rfl, by decide +kernel, by decide +kernel, by decide +kernel⟩
set_option maxRecDepth 20000 in
theorem s_X2_84 : CSV RX2 84 yX2_pot RX2 cX2_pot 1 (some .int) 0 := ⟨⟨tb_1 100 rfl rfl, tb_1 101 rfl rfl, tb_1 102 rfl rfl, tb_1 16 rfl rfl, tb_1 103 rfl rfl⟩, rfl, by decide +kernel, by decide +kernel, by decide +kernel⟩
set_option maxRecDepth 20000 in
theorem s_X2_71 : CSV RX2 71 yX2_countPlaced RX2 cX2_countPlaced 1 (some .int) 0 := ⟨⟨tb_1 104 rfl rfl, tb_1 105 rfl rfl, tb_1 106 rfl rfl, tb_1 16 rfl rfl, tb_1 107 rfl rfl⟩, rfl, by decide +kernel, by decide +kernel, by decide +kernel⟩
set_option maxRecDepth 20000 in
theorem s_X2_67 : CSV RX2 67 yX2_countIn RX2 cX2_countIn 4 (some .int) 1 := ⟨⟨tb_1 108 rfl rfl, tb_1 109 rfl rfl, tb_1 110 rfl rfl, tb_1 16 rfl rfl, tb_1 111 rfl rfl⟩, rfl, by decide +kernel, by decide +kernel, by decide +kernel⟩
set_option maxRecDepth 20000 in
theorem s_X3_251 : CSV RX3 251 yX0_hasAlwaysRested RX0 cX0_hasAlwaysRested 1 (some .boolean) 0 := ⟨⟨tb_1 113 rfl rfl, tb_1 114 rfl rfl, tb_1 115 rfl rfl, tb_1 11 rfl rfl, tb_1 116 rfl rfl⟩, rfl, by decide +kernel, by decide +kernel, by decide +kernel⟩
set_option maxRecDepth 20000 in
theorem s_X0_23 : CSS RX0 23 yJ13_bitCount_95d88 cJ13_bitCount_95d88 2 (some .int) 1 := ⟨⟨tb_1 117 rfl rfl, tb_1 118 rfl rfl, tb_1 22 rfl rfl, tb_1 119 rfl rfl⟩, by decide +kernel, by decide +kernel, by decide +kernel⟩
set_option maxRecDepth 20000 in
theorem k_J13_314 : Cond.constantLong RJ13 314 (6148914691236517205) ∈ TB := tb_1 120 rfl rfl
set_option maxRecDepth 20000 in
theorem k_J13_316 : Cond.constantLong RJ13 316 (3689348814741910323) ∈ TB := tb_1 121 rfl rfl
set_option maxRecDepth 20000 in
theorem k_J13_318 : Cond.constantLong RJ13 318 (1085102592571150095) ∈ TB := tb_1 122 rfl rfl
set_option maxRecDepth 20000 in
theorem s_L_7 : CSV RL 7 yX3_beast RX3 cX3_beast 3 (some .int) 1 := ⟨⟨tb_1 128 rfl rfl, tb_1 129 rfl rfl, tb_1 130 rfl rfl, tb_1 1 rfl rfl, tb_1 131 rfl rfl⟩, rfl, by decide +kernel, by decide +kernel, by decide +kernel⟩
set_option maxRecDepth 20000 in
theorem s_X3_26 : CSS RX3 26 yX3_isKind cX3_isKind 1 (some .boolean) 1 := ⟨⟨tb_1 132 rfl rfl, tb_1 133 rfl rfl, tb_1 1 rfl rfl, tb_1 134 rfl rfl⟩, by decide +kernel, by decide +kernel, by decide +kernel⟩
set_option maxRecDepth 20000 in
theorem s_X3_48 : CSI RX3 48 yX0_init cX0_init 3 2 := ⟨⟨tb_1 220 rfl rfl, tb_1 221 rfl rfl, tb_1 11 rfl rfl, tb_1 222 rfl rfl⟩, rfl, by decide +kernel, by decide +kernel, by decide +kernel⟩
set_option maxRecDepth 20000 in
theorem f_X0_7 : FG RX0 7 1 0 RX0 TX0 7 := ⟨rfl, inT_X0, by decide, tb_1 224 rfl rfl⟩
theorem p_X0_7 : FP RX0 7 1 0 RX0 TX0 7 .int := ⟨f_X0_7, ⟨tyX0, tyX0_ok⟩, nmX0, by decide +kernel⟩
set_option maxRecDepth 20000 in
theorem f_X1_31 : FG RX1 31 1 0 RX0 TX0 7 := ⟨rfl, inT_X0, by decide, tb_1 225 rfl rfl⟩
set_option maxRecDepth 20000 in
theorem f_X0_13 : FG RX0 13 1 1 RX0 TX0 7 := ⟨rfl, inT_X0, by decide, tb_1 226 rfl rfl⟩
theorem p_X0_13 : FP RX0 13 1 1 RX0 TX0 7 .int := ⟨f_X0_13, ⟨tyX0, tyX0_ok⟩, nmX0, by decide +kernel⟩
set_option maxRecDepth 20000 in
theorem f_X3_205 : FG RX3 205 1 1 RX0 TX0 7 := ⟨rfl, inT_X0, by decide, tb_1 227 rfl rfl⟩
set_option maxRecDepth 20000 in
theorem f_X1_49 : FG RX1 49 1 2 RX0 TX0 7 := ⟨rfl, inT_X0, by decide, tb_1 228 rfl rfl⟩
theorem p_X1_49 : FP RX1 49 1 2 RX0 TX0 7 .int := ⟨f_X1_49, ⟨tyX0, tyX0_ok⟩, nmX0, by decide +kernel⟩
set_option maxRecDepth 20000 in
theorem f_X0_32 : FG RX0 32 1 2 RX0 TX0 7 := ⟨rfl, inT_X0, by decide, tb_1 229 rfl rfl⟩
set_option maxRecDepth 20000 in
theorem f_X3_208 : FG RX3 208 1 2 RX0 TX0 7 := ⟨rfl, inT_X0, by decide, tb_1 230 rfl rfl⟩
set_option maxRecDepth 20000 in
theorem f_X1_52 : FG RX1 52 1 3 RX0 TX0 7 := ⟨rfl, inT_X0, by decide, tb_1 231 rfl rfl⟩
theorem p_X1_52 : FP RX1 52 1 3 RX0 TX0 7 .int := ⟨f_X1_52, ⟨tyX0, tyX0_ok⟩, nmX0, by decide +kernel⟩
set_option maxRecDepth 20000 in
theorem f_X0_29 : FG RX0 29 1 3 RX0 TX0 7 := ⟨rfl, inT_X0, by decide, tb_1 232 rfl rfl⟩
set_option maxRecDepth 20000 in
theorem f_X3_211 : FG RX3 211 1 3 RX0 TX0 7 := ⟨rfl, inT_X0, by decide, tb_1 233 rfl rfl⟩
set_option maxRecDepth 20000 in
theorem f_X1_55 : FG RX1 55 1 4 RX0 TX0 7 := ⟨rfl, inT_X0, by decide, tb_1 234 rfl rfl⟩
theorem p_X1_55 : FP RX1 55 1 4 RX0 TX0 7 .int := ⟨f_X1_55, ⟨tyX0, tyX0_ok⟩, nmX0, by decide +kernel⟩
set_option maxRecDepth 20000 in
theorem f_X0_41 : FG RX0 41 1 4 RX0 TX0 7 := ⟨rfl, inT_X0, by decide, tb_1 235 rfl rfl⟩
set_option maxRecDepth 20000 in
theorem f_X3_214 : FG RX3 214 1 4 RX0 TX0 7 := ⟨rfl, inT_X0, by decide, tb_1 236 rfl rfl⟩
set_option maxRecDepth 20000 in
theorem f_X0_20 : FG RX0 20 1 5 RX0 TX0 7 := ⟨rfl, inT_X0, by decide, tb_1 237 rfl rfl⟩
theorem p_X0_20 : FP RX0 20 1 5 RX0 TX0 7 .int := ⟨f_X0_20, ⟨tyX0, tyX0_ok⟩, nmX0, by decide +kernel⟩
set_option maxRecDepth 20000 in
theorem f_X0_16 : FG RX0 16 1 6 RX0 TX0 7 := ⟨rfl, inT_X0, by decide, tb_1 238 rfl rfl⟩
theorem p_X0_16 : FP RX0 16 1 6 RX0 TX0 7 .long := ⟨f_X0_16, ⟨tyX0, tyX0_ok⟩, nmX0, by decide +kernel⟩
set_option maxRecDepth 20000 in
theorem s_X3_51 : CSV RX3 51 yJx4a65c_add_9ea2d RJx4a65c cJx4a65c_add_9ea2d 2 (some .boolean) 1 := ⟨⟨tb_2 14 rfl rfl, tb_2 15 rfl rfl, tb_2 16 rfl rfl, tb_1 4 rfl rfl, tb_2 17 rfl rfl⟩, rfl, by decide +kernel, by decide +kernel, by decide +kernel⟩
set_option maxRecDepth 20000 in
theorem s_Jx4a65c_131 : CSV RJx4a65c 131 yJx4a65c_add_72be8 RJx4a65c cJx4a65c_add_72be8 4 (none : Option Jvm.ClassFile.FieldType) 3 := ⟨⟨tb_2 18 rfl rfl, tb_2 20 rfl rfl, tb_s 1 rfl rfl, tb_1 4 rfl rfl, tb_2 21 rfl rfl⟩, rfl, by decide +kernel, by decide +kernel, by decide +kernel⟩
set_option maxRecDepth 20000 in
theorem s_Jx4a65c_129 : CSV RJx4a65c 129 yJx4a65c_grow_d5877 RJx4a65c cJx4a65c_grow_d5877 1 (some (.array (.object "java/lang/Object"))) 0 := ⟨⟨tb_2 22 rfl rfl, tb_2 24 rfl rfl, tb_s 2 rfl rfl, tb_1 4 rfl rfl, tb_2 25 rfl rfl⟩, rfl, by decide +kernel, by decide +kernel, by decide +kernel⟩
set_option maxRecDepth 20000 in
theorem s_Jx4a65c_69 : CSV RJx4a65c 69 yJx4a65c_grow_92f84 RJx4a65c cJx4a65c_grow_92f84 4 (some (.array (.object "java/lang/Object"))) 1 := ⟨⟨tb_2 26 rfl rfl, tb_2 28 rfl rfl, tb_s 3 rfl rfl, tb_1 4 rfl rfl, tb_2 29 rfl rfl⟩, rfl, by decide +kernel, by decide +kernel, by decide +kernel⟩
set_option maxRecDepth 20000 in
theorem s_Jx4a65c_73 : CSS RJx4a65c 73 yJ8_newLength_cabcc cJ8_newLength_cabcc 4 (some .int) 3 := ⟨⟨tb_2 30 rfl rfl, tb_2 31 rfl rfl, tb_1 12 rfl rfl, tb_2 32 rfl rfl⟩, by decide +kernel, by decide +kernel, by decide +kernel⟩
set_option maxRecDepth 20000 in
theorem s_J8_194 : CSS RJ8 194 yJ9_max_7cf53 cJ9_max_7cf53 2 (some .int) 2 := ⟨⟨tb_2 33 rfl rfl, tb_2 34 rfl rfl, tb_1 13 rfl rfl, tb_2 35 rfl rfl⟩, by decide +kernel, by decide +kernel, by decide +kernel⟩
set_option maxRecDepth 20000 in
theorem u_J8_194 : Cond.methodLink RJ8 194 Lib.Math.max.name ∈ TB ∧ Cond.static Lib.Math.max.name ∈ TB ∧ Cond.initialized "java/lang/Math" ∈ TB ∧ Cond.code Lib.Math.max.name Lib.Math.max.code 2 (some .int) ∈ TB := ⟨tb_2 33 rfl rfl, tb_2 34 rfl rfl, tb_1 13 rfl rfl, tb_2 35 rfl rfl⟩
set_option maxRecDepth 20000 in
theorem k_J8_200 : Cond.constant RJ8 200 (2147483639) ∈ TB := tb_2 36 rfl rfl
set_option maxRecDepth 20000 in
theorem s_J8_201 : CSS RJ8 201 yJ8_hugeLength_7cf53 cJ8_hugeLength_7cf53 3 (some .int) 2 := ⟨⟨tb_2 37 rfl rfl, tb_2 38 rfl rfl, tb_1 12 rfl rfl, tb_2 39 rfl rfl⟩, by decide +kernel, by decide +kernel, by decide +kernel⟩
set_option maxRecDepth 20000 in
theorem s_Jx4a65c_66 : CSS RJx4a65c 66 yJ7_copyOf_1904c cJ7_copyOf_1904c 2 (some (.array (.object "java/lang/Object"))) 2 := ⟨⟨tb_2 40 rfl rfl, tb_2 41 rfl rfl, tb_1 14 rfl rfl, tb_2 42 rfl rfl⟩, by decide +kernel, by decide +kernel, by decide +kernel⟩
set_option maxRecDepth 20000 in
theorem s_J7_300 : CSS RJ7 300 yJ7_copyOf_6403c cJ7_copyOf_6403c 4 (some (.array (.object "java/lang/Object"))) 3 := ⟨⟨tb_2 56 rfl rfl, tb_2 57 rfl rfl, tb_1 14 rfl rfl, tb_2 58 rfl rfl⟩, by decide +kernel, by decide +kernel, by decide +kernel⟩
set_option maxRecDepth 20000 in
theorem s_J7_304 : CSS RJ7 304 yJ9_min_7cf53 cJ9_min_7cf53 2 (some .int) 2 := ⟨⟨tb_2 62 rfl rfl, tb_2 63 rfl rfl, tb_1 13 rfl rfl, tb_2 64 rfl rfl⟩, by decide +kernel, by decide +kernel, by decide +kernel⟩
set_option maxRecDepth 20000 in
theorem u_J7_304 : Cond.methodLink RJ7 304 Lib.Math.min.name ∈ TB ∧ Cond.static Lib.Math.min.name ∈ TB ∧ Cond.initialized "java/lang/Math" ∈ TB ∧ Cond.code Lib.Math.min.name Lib.Math.min.code 2 (some .int) ∈ TB := ⟨tb_2 62 rfl rfl, tb_2 63 rfl rfl, tb_1 13 rfl rfl, tb_2 64 rfl rfl⟩
set_option maxRecDepth 20000 in
theorem s_Jx4a65c_79 : CSS RJx4a65c 79 yJ9_max_7cf53 cJ9_max_7cf53 2 (some .int) 2 := ⟨⟨tb_2 68 rfl rfl, tb_2 34 rfl rfl, tb_1 13 rfl rfl, tb_2 35 rfl rfl⟩, by decide +kernel, by decide +kernel, by decide +kernel⟩
set_option maxRecDepth 20000 in
theorem u_Jx4a65c_79 : Cond.methodLink RJx4a65c 79 Lib.Math.max.name ∈ TB ∧ Cond.static Lib.Math.max.name ∈ TB ∧ Cond.initialized "java/lang/Math" ∈ TB ∧ Cond.code Lib.Math.max.name Lib.Math.max.code 2 (some .int) ∈ TB := ⟨tb_2 68 rfl rfl, tb_2 34 rfl rfl, tb_1 13 rfl rfl, tb_2 35 rfl rfl⟩
set_option maxRecDepth 20000 in
theorem s_L_17 : CSV RL 17 yX3_rider RX3 cX3_rider 1 (some .int) 0 := ⟨⟨tb_2 73 rfl rfl, tb_2 74 rfl rfl, tb_2 75 rfl rfl, tb_1 1 rfl rfl, tb_2 76 rfl rfl⟩, rfl, by decide +kernel, by decide +kernel, by decide +kernel⟩
set_option maxRecDepth 20000 in
theorem s_L_21 : CSV RL 21 yX3_rodeo RX3 cX3_rodeo 8 (some .int) 7 := ⟨⟨tb_2 81 rfl rfl, tb_2 82 rfl rfl, tb_2 83 rfl rfl, tb_1 1 rfl rfl, tb_2 84 rfl rfl⟩, rfl, by decide +kernel, by decide +kernel, by decide +kernel⟩
set_option maxRecDepth 20000 in
theorem s_X3_57 : CSS RX3 57 yX3_isWithin cX3_isWithin 3 (some .boolean) 3 := ⟨⟨tb_2 85 rfl rfl, tb_2 86 rfl rfl, tb_1 1 rfl rfl, tb_2 87 rfl rfl⟩, by decide +kernel, by decide +kernel, by decide +kernel⟩
set_option maxRecDepth 20000 in
theorem k_X3_65 : Cond.constant RX3 65 (99999) ∈ TB := tb_2 90 rfl rfl
set_option maxRecDepth 20000 in
theorem s_X3_72 : CSI RX3 72 yX2_init cX2_init 8 7 := ⟨⟨tb_2 94 rfl rfl, tb_2 95 rfl rfl, tb_1 16 rfl rfl, tb_2 96 rfl rfl⟩, rfl, by decide +kernel, by decide +kernel, by decide +kernel⟩
set_option maxRecDepth 20000 in
theorem s_X2_35 : CSI RX2 35 yJx4a65c_init_da8c8 cJx4a65c_init_da8c8 1 0 := ⟨⟨tb_2 99 rfl rfl, tb_1 34 rfl rfl, tb_1 4 rfl rfl, tb_1 35 rfl rfl⟩, rfl, by decide +kernel, by decide +kernel, by decide +kernel⟩
set_option maxRecDepth 20000 in
theorem f_X2_9 : FG RX2 9 3 0 RX2 TX2 11 := ⟨rfl, inT_X2, by decide, tb_2 101 rfl rfl⟩
theorem p_X2_9 : FP RX2 9 3 0 RX2 TX2 11 .int := ⟨f_X2_9, ⟨tyX2, tyX2_ok⟩, nmX2, by decide +kernel⟩
set_option maxRecDepth 20000 in
theorem f_X3_297 : FG RX3 297 3 0 RX2 TX2 11 := ⟨rfl, inT_X2, by decide, tb_2 102 rfl rfl⟩
set_option maxRecDepth 20000 in
theorem f_X2_15 : FG RX2 15 3 1 RX2 TX2 11 := ⟨rfl, inT_X2, by decide, tb_2 103 rfl rfl⟩
theorem p_X2_15 : FP RX2 15 3 1 RX2 TX2 11 .int := ⟨f_X2_15, ⟨tyX2, tyX2_ok⟩, nmX2, by decide +kernel⟩
set_option maxRecDepth 20000 in
theorem f_X3_290 : FG RX3 290 3 1 RX2 TX2 11 := ⟨rfl, inT_X2, by decide, tb_2 104 rfl rfl⟩
set_option maxRecDepth 20000 in
theorem f_X2_18 : FG RX2 18 3 2 RX2 TX2 11 := ⟨rfl, inT_X2, by decide, tb_2 105 rfl rfl⟩
theorem p_X2_18 : FP RX2 18 3 2 RX2 TX2 11 .int := ⟨f_X2_18, ⟨tyX2, tyX2_ok⟩, nmX2, by decide +kernel⟩
set_option maxRecDepth 20000 in
theorem f_X2_21 : FG RX2 21 3 3 RX2 TX2 11 := ⟨rfl, inT_X2, by decide, tb_2 106 rfl rfl⟩
theorem p_X2_21 : FP RX2 21 3 3 RX2 TX2 11 .int := ⟨f_X2_21, ⟨tyX2, tyX2_ok⟩, nmX2, by decide +kernel⟩
set_option maxRecDepth 20000 in
theorem f_X3_100 : FG RX3 100 3 3 RX2 TX2 11 := ⟨rfl, inT_X2, by decide, tb_2 107 rfl rfl⟩
set_option maxRecDepth 20000 in
theorem f_X2_24 : FG RX2 24 3 4 RX2 TX2 11 := ⟨rfl, inT_X2, by decide, tb_2 108 rfl rfl⟩
theorem p_X2_24 : FP RX2 24 3 4 RX2 TX2 11 .int := ⟨f_X2_24, ⟨tyX2, tyX2_ok⟩, nmX2, by decide +kernel⟩
set_option maxRecDepth 20000 in
theorem f_X3_135 : FG RX3 135 3 4 RX2 TX2 11 := ⟨rfl, inT_X2, by decide, tb_2 109 rfl rfl⟩
set_option maxRecDepth 20000 in
theorem f_X2_27 : FG RX2 27 3 5 RX2 TX2 11 := ⟨rfl, inT_X2, by decide, tb_2 110 rfl rfl⟩
theorem p_X2_27 : FP RX2 27 3 5 RX2 TX2 11 .int := ⟨f_X2_27, ⟨tyX2, tyX2_ok⟩, nmX2, by decide +kernel⟩
set_option maxRecDepth 20000 in
theorem f_X2_30 : FG RX2 30 3 6 RX2 TX2 11 := ⟨rfl, inT_X2, by decide, tb_2 111 rfl rfl⟩
theorem p_X2_30 : FP RX2 30 3 6 RX2 TX2 11 .int := ⟨f_X2_30, ⟨tyX2, tyX2_ok⟩, nmX2, by decide +kernel⟩
set_option maxRecDepth 20000 in
theorem f_X2_36 : FG RX2 36 3 7 RX2 TX2 11 := ⟨rfl, inT_X2, by decide, tb_2 112 rfl rfl⟩
theorem p_X2_36 : FP RX2 36 3 7 RX2 TX2 11 (.object "java/util/ArrayList") := ⟨f_X2_36, ⟨tyX2, tyX2_ok⟩, nmX2, by decide +kernel⟩
set_option maxRecDepth 20000 in
theorem f_X3_82 : FG RX3 82 3 7 RX2 TX2 11 := ⟨rfl, inT_X2, by decide, tb_2 113 rfl rfl⟩
set_option maxRecDepth 20000 in
theorem f_X2_42 : FG RX2 42 3 8 RX2 TX2 11 := ⟨rfl, inT_X2, by decide, tb_2 114 rfl rfl⟩
theorem p_X2_42 : FP RX2 42 3 8 RX2 TX2 11 (.array (.object "RankStock$Entry")) := ⟨f_X2_42, ⟨tyX2, tyX2_ok⟩, nmX2, by decide +kernel⟩
set_option maxRecDepth 20000 in
theorem f_X2_46 : FG RX2 46 3 9 RX2 TX2 11 := ⟨rfl, inT_X2, by decide, tb_2 115 rfl rfl⟩
theorem p_X2_46 : FP RX2 46 3 9 RX2 TX2 11 .int := ⟨f_X2_46, ⟨tyX2, tyX2_ok⟩, nmX2, by decide +kernel⟩
set_option maxRecDepth 20000 in
theorem f_X3_79 : FG RX3 79 3 9 RX2 TX2 11 := ⟨rfl, inT_X2, by decide, tb_2 116 rfl rfl⟩
theorem p_X3_79 : FP RX3 79 3 9 RX2 TX2 11 .int := ⟨f_X3_79, ⟨tyX2, tyX2_ok⟩, nmX2, by decide +kernel⟩
set_option maxRecDepth 20000 in
theorem f_X3_91 : FG RX3 91 3 10 RX2 TX2 11 := ⟨rfl, inT_X2, by decide, tb_2 117 rfl rfl⟩
set_option maxRecDepth 20000 in
theorem f_X2_111 : FG RX2 111 3 10 RX2 TX2 11 := ⟨rfl, inT_X2, by decide, tb_2 118 rfl rfl⟩
theorem p_X2_111 : FP RX2 111 3 10 RX2 TX2 11 .int := ⟨f_X2_111, ⟨tyX2, tyX2_ok⟩, nmX2, by decide +kernel⟩
set_option maxRecDepth 20000 in
theorem s_L_25 : CSV RL 25 yX3_rodeoIs RX3 cX3_rodeoIs 4 (some .int) 2 := ⟨⟨tb_2 146 rfl rfl, tb_2 147 rfl rfl, tb_2 148 rfl rfl, tb_1 1 rfl rfl, tb_2 149 rfl rfl⟩, rfl, by decide +kernel, by decide +kernel, by decide +kernel⟩
set_option maxRecDepth 20000 in
theorem s_X3_75 : CSV RX3 75 yX3_rodeoAt RX3 cX3_rodeoAt 2 (some (.object "RankStock$Rodeo")) 1 := ⟨⟨tb_2 150 rfl rfl, tb_2 152 rfl rfl, tb_s 4 rfl rfl, tb_1 1 rfl rfl, tb_2 153 rfl rfl⟩, rfl, by decide +kernel, by decide +kernel, by decide +kernel⟩
set_option maxRecDepth 20000 in
theorem s_X3_85 : CSV RX3 85 yX2_countPlaced RX2 cX2_countPlaced 1 (some .int) 0 := ⟨⟨tb_2 170 rfl rfl, tb_1 105 rfl rfl, tb_1 106 rfl rfl, tb_1 16 rfl rfl, tb_1 107 rfl rfl⟩, rfl, by decide +kernel, by decide +kernel, by decide +kernel⟩
set_option maxRecDepth 20000 in
theorem s_X3_88 : CSV RX3 88 yX2_pot RX2 cX2_pot 1 (some .int) 0 := ⟨⟨tb_2 171 rfl rfl, tb_1 101 rfl rfl, tb_1 102 rfl rfl, tb_1 16 rfl rfl, tb_1 103 rfl rfl⟩, rfl, by decide +kernel, by decide +kernel, by decide +kernel⟩
set_option maxRecDepth 20000 in
theorem s_L_31 : CSV RL 31 yX3_enter RX3 cX3_enter 7 (some .int) 4 := ⟨⟨tb_2 176 rfl rfl, tb_2 177 rfl rfl, tb_2 178 rfl rfl, tb_1 1 rfl rfl, tb_2 179 rfl rfl⟩, rfl, by decide +kernel, by decide +kernel, by decide +kernel⟩
set_option maxRecDepth 20000 in
theorem s_X3_96 : CSV RX3 96 yX3_entryAt RX3 cX3_entryAt 4 (some (.object "RankStock$Entry")) 2 := ⟨⟨tb_2 180 rfl rfl, tb_2 182 rfl rfl, tb_s 5 rfl rfl, tb_1 1 rfl rfl, tb_2 183 rfl rfl⟩, rfl, by decide +kernel, by decide +kernel, by decide +kernel⟩
set_option maxRecDepth 20000 in
theorem s_X3_236 : CSV RX3 236 yX3_checkRider RX3 cX3_checkRider 2 (none : Option Jvm.ClassFile.FieldType) 1 := ⟨⟨tb_2 184 rfl rfl, tb_2 186 rfl rfl, tb_s 6 rfl rfl, tb_1 1 rfl rfl, tb_2 187 rfl rfl⟩, rfl, by decide +kernel, by decide +kernel, by decide +kernel⟩
set_option maxRecDepth 20000 in
theorem s_X3_258 : CSV RX3 258 yX2_entryOf RX2 cX2_entryOf 2 (some (.object "RankStock$Entry")) 1 := ⟨⟨tb_2 189 rfl rfl, tb_2 190 rfl rfl, tb_2 191 rfl rfl, tb_1 16 rfl rfl, tb_2 192 rfl rfl⟩, rfl, by decide +kernel, by decide +kernel, by decide +kernel⟩
set_option maxRecDepth 20000 in
theorem s_X3_105 : CSS RX3 105 yX3_isInSet cX3_isInSet 2 (some .boolean) 2 := ⟨⟨tb_2 194 rfl rfl, tb_2 195 rfl rfl, tb_1 1 rfl rfl, tb_2 196 rfl rfl⟩, by decide +kernel, by decide +kernel, by decide +kernel⟩
set_option maxRecDepth 20000 in
theorem s_X3_115 : CSI RX3 115 yX1_init cX1_init 4 3 := ⟨⟨tb_2 201 rfl rfl, tb_2 202 rfl rfl, tb_1 20 rfl rfl, tb_2 203 rfl rfl⟩, rfl, by decide +kernel, by decide +kernel, by decide +kernel⟩
set_option maxRecDepth 20000 in
theorem f_X1_9 : FG RX1 9 2 0 RX1 TX1 11 := ⟨rfl, inT_X1, by decide, tb_2 205 rfl rfl⟩
theorem p_X1_9 : FP RX1 9 2 0 RX1 TX1 11 .int := ⟨f_X1_9, ⟨tyX1, tyX1_ok⟩, nmX1, by decide +kernel⟩
set_option maxRecDepth 20000 in
theorem f_X2_49 : FG RX2 49 2 0 RX1 TX1 11 := ⟨rfl, inT_X1, by decide, tb_2 206 rfl rfl⟩
set_option maxRecDepth 20000 in
theorem f_X3_262 : FG RX3 262 2 0 RX1 TX1 11 := ⟨rfl, inT_X1, by decide, tb_2 207 rfl rfl⟩
set_option maxRecDepth 20000 in
theorem f_X1_15 : FG RX1 15 2 1 RX1 TX1 11 := ⟨rfl, inT_X1, by decide, tb_2 208 rfl rfl⟩
theorem p_X1_15 : FP RX1 15 2 1 RX1 TX1 11 .int := ⟨f_X1_15, ⟨tyX1, tyX1_ok⟩, nmX1, by decide +kernel⟩
set_option maxRecDepth 20000 in
theorem f_X3_272 : FG RX3 272 2 1 RX1 TX1 11 := ⟨rfl, inT_X1, by decide, tb_2 209 rfl rfl⟩
set_option maxRecDepth 20000 in
theorem f_X1_18 : FG RX1 18 2 2 RX1 TX1 11 := ⟨rfl, inT_X1, by decide, tb_2 210 rfl rfl⟩
theorem p_X1_18 : FP RX1 18 2 2 RX1 TX1 11 .int := ⟨f_X1_18, ⟨tyX1, tyX1_ok⟩, nmX1, by decide +kernel⟩
set_option maxRecDepth 20000 in
theorem f_X3_265 : FG RX3 265 2 2 RX1 TX1 11 := ⟨rfl, inT_X1, by decide, tb_2 211 rfl rfl⟩
set_option maxRecDepth 20000 in
theorem f_X1_21 : FG RX1 21 2 3 RX1 TX1 11 := ⟨rfl, inT_X1, by decide, tb_2 212 rfl rfl⟩
theorem p_X1_21 : FP RX1 21 2 3 RX1 TX1 11 .int := ⟨f_X1_21, ⟨tyX1, tyX1_ok⟩, nmX1, by decide +kernel⟩
set_option maxRecDepth 20000 in
theorem f_X2_64 : FG RX2 64 2 3 RX1 TX1 11 := ⟨rfl, inT_X1, by decide, tb_2 213 rfl rfl⟩
set_option maxRecDepth 20000 in
theorem f_X3_132 : FG RX3 132 2 3 RX1 TX1 11 := ⟨rfl, inT_X1, by decide, tb_2 214 rfl rfl⟩
theorem p_X3_132 : FP RX3 132 2 3 RX1 TX1 11 .int := ⟨f_X3_132, ⟨tyX1, tyX1_ok⟩, nmX1, by decide +kernel⟩
set_option maxRecDepth 20000 in
theorem f_X1_27 : FG RX1 27 2 4 RX1 TX1 11 := ⟨rfl, inT_X1, by decide, tb_2 215 rfl rfl⟩
set_option maxRecDepth 20000 in
theorem f_X3_302 : FG RX3 302 2 4 RX1 TX1 11 := ⟨rfl, inT_X1, by decide, tb_2 216 rfl rfl⟩
theorem p_X3_302 : FP RX3 302 2 4 RX1 TX1 11 (.object "RankStock$Beast") := ⟨f_X3_302, ⟨tyX1, tyX1_ok⟩, nmX1, by decide +kernel⟩
set_option maxRecDepth 20000 in
theorem f_X1_36 : FG RX1 36 2 5 RX1 TX1 11 := ⟨rfl, inT_X1, by decide, tb_2 217 rfl rfl⟩
theorem p_X1_36 : FP RX1 36 2 5 RX1 TX1 11 .boolean := ⟨f_X1_36, ⟨tyX1, tyX1_ok⟩, nmX1, by decide +kernel⟩
set_option maxRecDepth 20000 in
theorem f_X2_74 : FG RX2 74 2 5 RX1 TX1 11 := ⟨rfl, inT_X1, by decide, tb_2 218 rfl rfl⟩
set_option maxRecDepth 20000 in
theorem f_X3_169 : FG RX3 169 2 5 RX1 TX1 11 := ⟨rfl, inT_X1, by decide, tb_2 219 rfl rfl⟩
theorem p_X3_169 : FP RX3 169 2 5 RX1 TX1 11 .boolean := ⟨f_X3_169, ⟨tyX1, tyX1_ok⟩, nmX1, by decide +kernel⟩
set_option maxRecDepth 20000 in
theorem f_X1_43 : FG RX1 43 2 6 RX1 TX1 11 := ⟨rfl, inT_X1, by decide, tb_2 220 rfl rfl⟩
set_option maxRecDepth 20000 in
theorem f_X3_193 : FG RX3 193 2 6 RX1 TX1 11 := ⟨rfl, inT_X1, by decide, tb_2 221 rfl rfl⟩
theorem p_X3_193 : FP RX3 193 2 6 RX1 TX1 11 .boolean := ⟨f_X3_193, ⟨tyX1, tyX1_ok⟩, nmX1, by decide +kernel⟩
set_option maxRecDepth 20000 in
theorem f_X1_46 : FG RX1 46 2 7 RX1 TX1 11 := ⟨rfl, inT_X1, by decide, tb_2 222 rfl rfl⟩
theorem p_X1_46 : FP RX1 46 2 7 RX1 TX1 11 .boolean := ⟨f_X1_46, ⟨tyX1, tyX1_ok⟩, nmX1, by decide +kernel⟩
set_option maxRecDepth 20000 in
theorem f_X2_78 : FG RX2 78 2 7 RX1 TX1 11 := ⟨rfl, inT_X1, by decide, tb_2 223 rfl rfl⟩
set_option maxRecDepth 20000 in
theorem f_X3_185 : FG RX3 185 2 7 RX1 TX1 11 := ⟨rfl, inT_X1, by decide, tb_2 224 rfl rfl⟩
theorem p_X3_185 : FP RX3 185 2 7 RX1 TX1 11 .boolean := ⟨f_X3_185, ⟨tyX1, tyX1_ok⟩, nmX1, by decide +kernel⟩
set_option maxRecDepth 20000 in
theorem f_X1_40 : FG RX1 40 2 8 RX1 TX1 11 := ⟨rfl, inT_X1, by decide, tb_2 225 rfl rfl⟩
theorem p_X1_40 : FP RX1 40 2 8 RX1 TX1 11 .boolean := ⟨f_X1_40, ⟨tyX1, tyX1_ok⟩, nmX1, by decide +kernel⟩
set_option maxRecDepth 20000 in
theorem f_X2_81 : FG RX2 81 2 8 RX1 TX1 11 := ⟨rfl, inT_X1, by decide, tb_2 226 rfl rfl⟩
set_option maxRecDepth 20000 in
theorem f_X1_24 : FG RX1 24 2 9 RX1 TX1 11 := ⟨rfl, inT_X1, by decide, tb_2 227 rfl rfl⟩
theorem p_X1_24 : FP RX1 24 2 9 RX1 TX1 11 .int := ⟨f_X1_24, ⟨tyX1, tyX1_ok⟩, nmX1, by decide +kernel⟩
set_option maxRecDepth 20000 in
theorem f_X2_102 : FG RX2 102 2 9 RX1 TX1 11 := ⟨rfl, inT_X1, by decide, tb_2 228 rfl rfl⟩
set_option maxRecDepth 20000 in
theorem f_X3_182 : FG RX3 182 2 9 RX1 TX1 11 := ⟨rfl, inT_X1, by decide, tb_2 229 rfl rfl⟩
set_option maxRecDepth 20000 in
theorem f_X2_108 : FG RX2 108 2 10 RX1 TX1 11 := ⟨rfl, inT_X1, by decide, tb_2 230 rfl rfl⟩
theorem p_X2_108 : FP RX2 108 2 10 RX1 TX1 11 .int := ⟨f_X2_108, ⟨tyX1, tyX1_ok⟩, nmX1, by decide +kernel⟩
set_option maxRecDepth 20000 in
theorem f_X3_233 : FG RX3 233 2 10 RX1 TX1 11 := ⟨rfl, inT_X1, by decide, tb_2 231 rfl rfl⟩
set_option maxRecDepth 20000 in
theorem s_X3_118 : CSV RX3 118 yX2_addEntry RX2 cX2_addEntry 2 (none : Option Jvm.ClassFile.FieldType) 1 := ⟨⟨tb_3 15 rfl rfl, tb_3 16 rfl rfl, tb_3 17 rfl rfl, tb_1 16 rfl rfl, tb_3 18 rfl rfl⟩, rfl, by decide +kernel, by decide +kernel, by decide +kernel⟩
set_option maxRecDepth 20000 in
theorem s_X2_52 : CSV RX2 52 yJx4a65c_add_9ea2d RJx4a65c cJx4a65c_add_9ea2d 2 (some .boolean) 1 := ⟨⟨tb_3 19 rfl rfl, tb_2 15 rfl rfl, tb_2 16 rfl rfl, tb_1 4 rfl rfl, tb_2 17 rfl rfl⟩, rfl, by decide +kernel, by decide +kernel, by decide +kernel⟩
set_option maxRecDepth 20000 in
theorem s_L_35 : CSV RL 35 yX3_close RX3 cX3_close 5 (some .int) 1 := ⟨⟨tb_3 23 rfl rfl, tb_3 24 rfl rfl, tb_3 25 rfl rfl, tb_1 1 rfl rfl, tb_3 26 rfl rfl⟩, rfl, by decide +kernel, by decide +kernel, by decide +kernel⟩
set_option maxRecDepth 20000 in
theorem s_X3_128 : CSV RX3 128 yX3_performanceFor RX3 cX3_performanceFor 4 (some .int) 2 := ⟨⟨tb_3 28 rfl rfl, tb_3 30 rfl rfl, tb_s 7 rfl rfl, tb_1 1 rfl rfl, tb_3 31 rfl rfl⟩, rfl, by decide +kernel, by decide +kernel, by decide +kernel⟩
set_option maxRecDepth 20000 in
theorem s_X3_268 : CSV RX3 268 yX3_canBePlaced RX3 cX3_canBePlaced 4 (some .boolean) 3 := ⟨⟨tb_3 32 rfl rfl, tb_3 34 rfl rfl, tb_s 8 rfl rfl, tb_1 1 rfl rfl, tb_3 35 rfl rfl⟩, rfl, by decide +kernel, by decide +kernel, by decide +kernel⟩
set_option maxRecDepth 20000 in
theorem s_X3_275 : CSV RX3 275 yX2_countIn RX2 cX2_countIn 4 (some .int) 1 := ⟨⟨tb_3 36 rfl rfl, tb_1 109 rfl rfl, tb_1 110 rfl rfl, tb_1 16 rfl rfl, tb_1 111 rfl rfl⟩, rfl, by decide +kernel, by decide +kernel, by decide +kernel⟩
set_option maxRecDepth 20000 in
theorem s_X3_278 : CSV RX3 278 yX3_canGet RX3 cX3_canGet 10 (some .boolean) 3 := ⟨⟨tb_3 37 rfl rfl, tb_3 39 rfl rfl, tb_s 9 rfl rfl, tb_1 1 rfl rfl, tb_3 40 rfl rfl⟩, rfl, by decide +kernel, by decide +kernel, by decide +kernel⟩
set_option maxRecDepth 20000 in
theorem s_X3_281 : CSV RX3 281 yX2_dayOf RX2 cX2_dayOf 2 (some .int) 1 := ⟨⟨tb_3 41 rfl rfl, tb_3 42 rfl rfl, tb_3 43 rfl rfl, tb_1 16 rfl rfl, tb_3 44 rfl rfl⟩, rfl, by decide +kernel, by decide +kernel, by decide +kernel⟩
set_option maxRecDepth 20000 in
theorem s_X3_284 : CSV RX3 284 yX1_isPlaced RX1 cX1_isPlaced 1 (some .boolean) 0 := ⟨⟨tb_3 45 rfl rfl, tb_3 46 rfl rfl, tb_3 47 rfl rfl, tb_1 20 rfl rfl, tb_3 48 rfl rfl⟩, rfl, by decide +kernel, by decide +kernel, by decide +kernel⟩
set_option maxRecDepth 20000 in
theorem s_X3_287 : CSS RX3 287 yJ9_abs_0f7a4 cJ9_abs_0f7a4 1 (some .int) 1 := ⟨⟨tb_3 49 rfl rfl, tb_3 50 rfl rfl, tb_1 13 rfl rfl, tb_3 51 rfl rfl⟩, by decide +kernel, by decide +kernel, by decide +kernel⟩
set_option maxRecDepth 20000 in
theorem u_X3_287 : Cond.methodLink RX3 287 Lib.Math.abs.name ∈ TB ∧ Cond.static Lib.Math.abs.name ∈ TB ∧ Cond.initialized "java/lang/Math" ∈ TB ∧ Cond.code Lib.Math.abs.name Lib.Math.abs.code 1 (some .int) ∈ TB := ⟨tb_3 49 rfl rfl, tb_3 50 rfl rfl, tb_1 13 rfl rfl, tb_3 51 rfl rfl⟩
set_option maxRecDepth 20000 in
theorem s_L_38 : CSV RL 38 yX3_placed RX3 cX3_placed 4 (some .int) 2 := ⟨⟨tb_3 55 rfl rfl, tb_3 56 rfl rfl, tb_3 57 rfl rfl, tb_1 1 rfl rfl, tb_3 58 rfl rfl⟩, rfl, by decide +kernel, by decide +kernel, by decide +kernel⟩
set_option maxRecDepth 20000 in
theorem s_L_41 : CSV RL 41 yX3_most RX3 cX3_most 6 (some .int) 1 := ⟨⟨tb_3 62 rfl rfl, tb_3 63 rfl rfl, tb_3 64 rfl rfl, tb_1 1 rfl rfl, tb_3 65 rfl rfl⟩, rfl, by decide +kernel, by decide +kernel, by decide +kernel⟩
set_option maxRecDepth 20000 in
theorem s_X3_138 : CSS RX3 138 yJ6_bitCount_0f7a4 cJ6_bitCount_0f7a4 1 (some .int) 1 := ⟨⟨tb_3 66 rfl rfl, tb_3 67 rfl rfl, tb_1 21 rfl rfl, tb_3 68 rfl rfl⟩, by decide +kernel, by decide +kernel, by decide +kernel⟩
set_option maxRecDepth 20000 in
theorem k_J6_265 : Cond.constant RJ6 265 (1431655765) ∈ TB := tb_3 69 rfl rfl
set_option maxRecDepth 20000 in
theorem k_J6_266 : Cond.constant RJ6 266 (858993459) ∈ TB := tb_3 70 rfl rfl
set_option maxRecDepth 20000 in
theorem k_J6_267 : Cond.constant RJ6 267 (252645135) ∈ TB := tb_3 71 rfl rfl
set_option maxRecDepth 20000 in
theorem s_X3_144 : CSV RX3 144 yX3_countWithWaysOutside RX3 cX3_countWithWaysOutside 5 (some .int) 2 := ⟨⟨tb_3 72 rfl rfl, tb_3 74 rfl rfl, tb_s 10 rfl rfl, tb_1 1 rfl rfl, tb_3 75 rfl rfl⟩, rfl, by decide +kernel, by decide +kernel, by decide +kernel⟩
set_option maxRecDepth 20000 in
theorem s_X3_293 : CSV RX3 293 yX3_hasWayOutside RX3 cX3_hasWayOutside 6 (some .boolean) 3 := ⟨⟨tb_3 76 rfl rfl, tb_3 78 rfl rfl, tb_s 11 rfl rfl, tb_1 1 rfl rfl, tb_3 79 rfl rfl⟩, rfl, by decide +kernel, by decide +kernel, by decide +kernel⟩
set_option maxRecDepth 20000 in
theorem s_X3_148 : CSS RX3 148 yJ9_min_7cf53 cJ9_min_7cf53 2 (some .int) 2 := ⟨⟨tb_3 80 rfl rfl, tb_2 63 rfl rfl, tb_1 13 rfl rfl, tb_2 64 rfl rfl⟩, by decide +kernel, by decide +kernel, by decide +kernel⟩
set_option maxRecDepth 20000 in
theorem u_X3_148 : Cond.methodLink RX3 148 Lib.Math.min.name ∈ TB ∧ Cond.static Lib.Math.min.name ∈ TB ∧ Cond.initialized "java/lang/Math" ∈ TB ∧ Cond.code Lib.Math.min.name Lib.Math.min.code 2 (some .int) ∈ TB := ⟨tb_3 80 rfl rfl, tb_2 63 rfl rfl, tb_1 13 rfl rfl, tb_2 64 rfl rfl⟩
set_option maxRecDepth 20000 in
theorem s_L_44 : CSV RL 44 yX3_hide RX3 cX3_hide 2 (none : Option Jvm.ClassFile.FieldType) 1 := ⟨⟨tb_3 84 rfl rfl, tb_3 85 rfl rfl, tb_3 86 rfl rfl, tb_1 1 rfl rfl, tb_3 87 rfl rfl⟩, rfl, by decide +kernel, by decide +kernel, by decide +kernel⟩
set_option maxRecDepth 20000 in
theorem k_X3_154 : Cond.constant RX3 154 (65536) ∈ TB := tb_3 88 rfl rfl
set_option maxRecDepth 20000 in
theorem s_L_48 : CSV RL 48 yX3_draw RX3 cX3_draw 5 (some .int) 1 := ⟨⟨tb_3 93 rfl rfl, tb_3 94 rfl rfl, tb_3 95 rfl rfl, tb_1 1 rfl rfl, tb_3 96 rfl rfl⟩, rfl, by decide +kernel, by decide +kernel, by decide +kernel⟩
set_option maxRecDepth 20000 in
theorem s_X3_159 : CSV RX3 159 yX3_mountAll RX3 cX3_mountAll 6 (some .int) 2 := ⟨⟨tb_3 98 rfl rfl, tb_3 100 rfl rfl, tb_s 12 rfl rfl, tb_1 1 rfl rfl, tb_3 101 rfl rfl⟩, rfl, by decide +kernel, by decide +kernel, by decide +kernel⟩
set_option maxRecDepth 20000 in
theorem s_X3_196 : CSV RX3 196 yX3_mount RX3 cX3_mount 3 (none : Option Jvm.ClassFile.FieldType) 2 := ⟨⟨tb_3 102 rfl rfl, tb_3 104 rfl rfl, tb_s 13 rfl rfl, tb_1 1 rfl rfl, tb_3 105 rfl rfl⟩, rfl, by decide +kernel, by decide +kernel, by decide +kernel⟩
set_option maxRecDepth 20000 in
theorem s_X3_298 : CSV RX3 298 yX3_drawBeast RX3 cX3_drawBeast 5 (some (.object "RankStock$Beast")) 2 := ⟨⟨tb_3 106 rfl rfl, tb_3 108 rfl rfl, tb_s 14 rfl rfl, tb_1 1 rfl rfl, tb_3 109 rfl rfl⟩, rfl, by decide +kernel, by decide +kernel, by decide +kernel⟩
set_option maxRecDepth 20000 in
theorem s_X3_306 : CSV RX3 306 yX3_countDrawable RX3 cX3_countDrawable 5 (some .int) 2 := ⟨⟨tb_3 110 rfl rfl, tb_3 112 rfl rfl, tb_s 15 rfl rfl, tb_1 1 rfl rfl, tb_3 113 rfl rfl⟩, rfl, by decide +kernel, by decide +kernel, by decide +kernel⟩
set_option maxRecDepth 20000 in
theorem s_X3_317 : CSV RX3 317 yX0_canBeDrawn RX0 cX0_canBeDrawn 7 (some .boolean) 2 := ⟨⟨tb_3 114 rfl rfl, tb_3 115 rfl rfl, tb_3 116 rfl rfl, tb_1 11 rfl rfl, tb_3 117 rfl rfl⟩, rfl, by decide +kernel, by decide +kernel, by decide +kernel⟩
set_option maxRecDepth 20000 in
theorem k_X3_309 : Cond.constant RX3 309 (65537) ∈ TB := tb_3 118 rfl rfl
set_option maxRecDepth 20000 in
theorem s_X3_310 : CSV RX3 310 yX3_drawableAt RX3 cX3_drawableAt 7 (some (.object "RankStock$Beast")) 3 := ⟨⟨tb_3 119 rfl rfl, tb_3 121 rfl rfl, tb_s 16 rfl rfl, tb_1 1 rfl rfl, tb_3 122 rfl rfl⟩, rfl, by decide +kernel, by decide +kernel, by decide +kernel⟩
set_option maxRecDepth 20000 in
theorem s_X3_314 : CSV RX3 314 yX0_noteDraw RX0 cX0_noteDraw 2 (none : Option Jvm.ClassFile.FieldType) 1 := ⟨⟨tb_3 123 rfl rfl, tb_3 124 rfl rfl, tb_3 125 rfl rfl, tb_1 11 rfl rfl, tb_3 126 rfl rfl⟩, rfl, by decide +kernel, by decide +kernel, by decide +kernel⟩
set_option maxRecDepth 20000 in
theorem s_L_51 : CSV RL 51 yX3_drawn RX3 cX3_drawn 4 (some .int) 2 := ⟨⟨tb_3 130 rfl rfl, tb_3 131 rfl rfl, tb_3 132 rfl rfl, tb_1 1 rfl rfl, tb_3 133 rfl rfl⟩, rfl, by decide +kernel, by decide +kernel, by decide +kernel⟩
set_option maxRecDepth 20000 in
theorem s_X3_162 : CSV RX3 162 yX1_beastNumber RX1 cX1_beastNumber 1 (some .int) 0 := ⟨⟨tb_3 134 rfl rfl, tb_3 135 rfl rfl, tb_3 136 rfl rfl, tb_1 20 rfl rfl, tb_3 137 rfl rfl⟩, rfl, by decide +kernel, by decide +kernel, by decide +kernel⟩
set_option maxRecDepth 20000 in
theorem s_L_54 : CSV RL 54 yX3_ride RX3 cX3_ride 10 (some .int) 5 := ⟨⟨tb_3 141 rfl rfl, tb_3 142 rfl rfl, tb_3 143 rfl rfl, tb_1 1 rfl rfl, tb_3 144 rfl rfl⟩, rfl, by decide +kernel, by decide +kernel, by decide +kernel⟩
set_option maxRecDepth 20000 in
theorem k_X3_165 : Cond.constant RX3 165 (456975) ∈ TB := tb_3 145 rfl rfl
set_option maxRecDepth 20000 in
theorem k_X3_166 : Cond.constant RX3 166 (999999) ∈ TB := tb_3 146 rfl rfl
set_option maxRecDepth 20000 in
theorem s_X3_175 : CSS RX3 175 yX3_markAt cX3_markAt 4 (some .int) 2 := ⟨⟨tb_3 149 rfl rfl, tb_3 150 rfl rfl, tb_1 1 rfl rfl, tb_3 151 rfl rfl⟩, by decide +kernel, by decide +kernel, by decide +kernel⟩
set_option maxRecDepth 20000 in
theorem s_X3_178 : CSV RX3 178 yX1_takeRide RX1 cX1_takeRide 4 (none : Option Jvm.ClassFile.FieldType) 3 := ⟨⟨tb_3 152 rfl rfl, tb_3 153 rfl rfl, tb_3 154 rfl rfl, tb_1 20 rfl rfl, tb_3 155 rfl rfl⟩, rfl, by decide +kernel, by decide +kernel, by decide +kernel⟩
set_option maxRecDepth 20000 in
theorem s_L_58 : CSV RL 58 yX3_isOffered RX3 cX3_isOffered 4 (some .boolean) 2 := ⟨⟨tb_3 159 rfl rfl, tb_3 160 rfl rfl, tb_3 161 rfl rfl, tb_1 1 rfl rfl, tb_3 162 rfl rfl⟩, rfl, by decide +kernel, by decide +kernel, by decide +kernel⟩
set_option maxRecDepth 20000 in
theorem s_L_62 : CSV RL 62 yX3_answer RX3 cX3_answer 5 (some .int) 3 := ⟨⟨tb_3 166 rfl rfl, tb_3 167 rfl rfl, tb_3 168 rfl rfl, tb_1 1 rfl rfl, tb_3 169 rfl rfl⟩, rfl, by decide +kernel, by decide +kernel, by decide +kernel⟩
set_option maxRecDepth 20000 in
theorem s_X3_190 : CSV RX3 190 yX1_loseScore RX1 cX1_loseScore 1 (none : Option Jvm.ClassFile.FieldType) 0 := ⟨⟨tb_3 171 rfl rfl, tb_3 172 rfl rfl, tb_3 173 rfl rfl, tb_1 20 rfl rfl, tb_3 174 rfl rfl⟩, rfl, by decide +kernel, by decide +kernel, by decide +kernel⟩
set_option maxRecDepth 20000 in
theorem s_L_66 : CSV RL 66 yX3_score RX3 cX3_score 4 (some .int) 2 := ⟨⟨tb_3 178 rfl rfl, tb_3 179 rfl rfl, tb_3 180 rfl rfl, tb_1 1 rfl rfl, tb_3 181 rfl rfl⟩, rfl, by decide +kernel, by decide +kernel, by decide +kernel⟩
set_option maxRecDepth 20000 in
theorem s_L_69 : CSV RL 69 yX3_beastIs RX3 cX3_beastIs 4 (some .int) 2 := ⟨⟨tb_3 185 rfl rfl, tb_3 186 rfl rfl, tb_3 187 rfl rfl, tb_1 1 rfl rfl, tb_3 188 rfl rfl⟩, rfl, by decide +kernel, by decide +kernel, by decide +kernel⟩
set_option maxRecDepth 20000 in
theorem s_X3_217 : CSV RX3 217 yX3_rankOfBeast RX3 cX3_rankOfBeast 5 (some .int) 1 := ⟨⟨tb_3 190 rfl rfl, tb_3 192 rfl rfl, tb_s 17 rfl rfl, tb_1 1 rfl rfl, tb_3 193 rfl rfl⟩, rfl, by decide +kernel, by decide +kernel, by decide +kernel⟩
set_option maxRecDepth 20000 in
theorem s_X3_320 : CSV RX3 320 yX0_isAheadOf RX0 cX0_isAheadOf 4 (some .boolean) 1 := ⟨⟨tb_3 194 rfl rfl, tb_3 195 rfl rfl, tb_3 196 rfl rfl, tb_1 11 rfl rfl, tb_3 197 rfl rfl⟩, rfl, by decide +kernel, by decide +kernel, by decide +kernel⟩
set_option maxRecDepth 20000 in
theorem s_X0_35 : CSS RX0 35 yJ6_compare_7cf53 cJ6_compare_7cf53 2 (some .int) 2 := ⟨⟨tb_3 198 rfl rfl, tb_3 199 rfl rfl, tb_1 21 rfl rfl, tb_3 200 rfl rfl⟩, by decide +kernel, by decide +kernel, by decide +kernel⟩
set_option maxRecDepth 20000 in
theorem s_L_72 : CSV RL 72 yX3_pay RX3 cX3_pay 3 (some .int) 1 := ⟨⟨tb_3 204 rfl rfl, tb_3 205 rfl rfl, tb_3 206 rfl rfl, tb_1 1 rfl rfl, tb_3 207 rfl rfl⟩, rfl, by decide +kernel, by decide +kernel, by decide +kernel⟩
set_option maxRecDepth 20000 in
theorem s_X3_221 : CSV RX3 221 yX2_canBePaid RX2 cX2_canBePaid 3 (some .boolean) 0 := ⟨⟨tb_3 208 rfl rfl, tb_3 209 rfl rfl, tb_3 210 rfl rfl, tb_1 16 rfl rfl, tb_3 211 rfl rfl⟩, rfl, by decide +kernel, by decide +kernel, by decide +kernel⟩
set_option maxRecDepth 20000 in
theorem s_X3_227 : CSV RX3 227 yX2_payOut RX2 cX2_payOut 7 (none : Option Jvm.ClassFile.FieldType) 0 := ⟨⟨tb_3 213 rfl rfl, tb_3 214 rfl rfl, tb_3 215 rfl rfl, tb_1 16 rfl rfl, tb_3 216 rfl rfl⟩, rfl, by decide +kernel, by decide +kernel, by decide +kernel⟩
set_option maxRecDepth 20000 in
theorem s_X2_87 : CSV RX2 87 yX2_countCounting RX2 cX2_countCounting 3 (some .int) 0 := ⟨⟨tb_3 217 rfl rfl, tb_3 218 rfl rfl, tb_3 219 rfl rfl, tb_1 16 rfl rfl, tb_3 220 rfl rfl⟩, rfl, by decide +kernel, by decide +kernel, by decide +kernel⟩
set_option maxRecDepth 20000 in
theorem s_X2_94 : CSV RX2 94 yX2_sharesOf RX2 cX2_sharesOf 6 (some .int) 3 := ⟨⟨tb_3 223 rfl rfl, tb_3 224 rfl rfl, tb_3 225 rfl rfl, tb_1 16 rfl rfl, tb_3 226 rfl rfl⟩, rfl, by decide +kernel, by decide +kernel, by decide +kernel⟩
set_option maxRecDepth 20000 in
theorem s_X2_105 : CSV RX2 105 yX2_placeMoney RX2 cX2_placeMoney 7 (some .int) 2 := ⟨⟨tb_3 230 rfl rfl, tb_3 231 rfl rfl, tb_3 232 rfl rfl, tb_1 16 rfl rfl, tb_3 233 rfl rfl⟩, rfl, by decide +kernel, by decide +kernel, by decide +kernel⟩
set_option maxRecDepth 20000 in
theorem s_X3_230 : CSV RX3 230 yX2_countCounting RX2 cX2_countCounting 3 (some .int) 0 := ⟨⟨tb_3 234 rfl rfl, tb_3 218 rfl rfl, tb_3 219 rfl rfl, tb_1 16 rfl rfl, tb_3 220 rfl rfl⟩, rfl, by decide +kernel, by decide +kernel, by decide +kernel⟩
set_option maxRecDepth 20000 in
theorem s_L_75 : CSV RL 75 yX3_got RX3 cX3_got 4 (some .int) 2 := ⟨⟨tb_3 238 rfl rfl, tb_3 239 rfl rfl, tb_4 0 rfl rfl, tb_1 1 rfl rfl, tb_4 1 rfl rfl⟩, rfl, by decide +kernel, by decide +kernel, by decide +kernel⟩
set_option maxRecDepth 20000 in
theorem s_L_78 : CSV RL 78 yX3_counts RX3 cX3_counts 2 (some .int) 1 := ⟨⟨tb_4 5 rfl rfl, tb_4 6 rfl rfl, tb_4 7 rfl rfl, tb_1 1 rfl rfl, tb_4 8 rfl rfl⟩, rfl, by decide +kernel, by decide +kernel, by decide +kernel⟩
set_option maxRecDepth 20000 in
theorem s_X3_240 : CSV RX3 240 yX3_bestThreePays RX3 cX3_bestThreePays 7 (some .int) 1 := ⟨⟨tb_4 9 rfl rfl, tb_4 11 rfl rfl, tb_s 18 rfl rfl, tb_1 1 rfl rfl, tb_4 12 rfl rfl⟩, rfl, by decide +kernel, by decide +kernel, by decide +kernel⟩
set_option maxRecDepth 20000 in
theorem s_X3_324 : CSV RX3 324 yX3_moneyOf RX3 cX3_moneyOf 4 (some .int) 2 := ⟨⟨tb_4 13 rfl rfl, tb_4 15 rfl rfl, tb_s 19 rfl rfl, tb_1 1 rfl rfl, tb_4 16 rfl rfl⟩, rfl, by decide +kernel, by decide +kernel, by decide +kernel⟩
set_option maxRecDepth 20000 in
theorem s_L_81 : CSV RL 81 yX3_ranked RX3 cX3_ranked 3 (some .int) 1 := ⟨⟨tb_4 20 rfl rfl, tb_4 21 rfl rfl, tb_4 22 rfl rfl, tb_1 1 rfl rfl, tb_4 23 rfl rfl⟩, rfl, by decide +kernel, by decide +kernel, by decide +kernel⟩
set_option maxRecDepth 20000 in
theorem s_X3_245 : CSV RX3 245 yX3_rankOfRider RX3 cX3_rankOfRider 4 (some .int) 1 := ⟨⟨tb_4 25 rfl rfl, tb_4 27 rfl rfl, tb_s 20 rfl rfl, tb_1 1 rfl rfl, tb_4 28 rfl rfl⟩, rfl, by decide +kernel, by decide +kernel, by decide +kernel⟩
set_option maxRecDepth 20000 in
theorem s_X3_327 : CSV RX3 327 yX3_isRiderAhead RX3 cX3_isRiderAhead 5 (some .boolean) 2 := ⟨⟨tb_4 29 rfl rfl, tb_4 31 rfl rfl, tb_s 21 rfl rfl, tb_1 1 rfl rfl, tb_4 32 rfl rfl⟩, rfl, by decide +kernel, by decide +kernel, by decide +kernel⟩
set_option maxRecDepth 20000 in
theorem s_X3_330 : CSS RX3 330 yJ6_compare_7cf53 cJ6_compare_7cf53 2 (some .int) 2 := ⟨⟨tb_4 33 rfl rfl, tb_3 199 rfl rfl, tb_1 21 rfl rfl, tb_3 200 rfl rfl⟩, by decide +kernel, by decide +kernel, by decide +kernel⟩
set_option maxRecDepth 20000 in
theorem s_X3_333 : CSV RX3 333 yX3_allPays RX3 cX3_allPays 4 (some .int) 1 := ⟨⟨tb_4 34 rfl rfl, tb_4 36 rfl rfl, tb_s 22 rfl rfl, tb_1 1 rfl rfl, tb_4 37 rfl rfl⟩, rfl, by decide +kernel, by decide +kernel, by decide +kernel⟩
set_option maxRecDepth 20000 in
theorem s_L_87 : CSI RL 87 yX4_init cX4_init 1 0 := ⟨⟨tb_4 40 rfl rfl, tb_4 41 rfl rfl, tb_1 5 rfl rfl, tb_4 42 rfl rfl⟩, rfl, by decide +kernel, by decide +kernel, by decide +kernel⟩
set_option maxRecDepth 20000 in
theorem f_X4_97 : FG RX4 97 5 0 RX4 TX4 32 := ⟨rfl, inT_X4, by decide, tb_4 44 rfl rfl⟩
theorem p_X4_97 : FP RX4 97 5 0 RX4 TX4 32 .int := ⟨f_X4_97, ⟨tyX4, tyX4_ok⟩, nmX4, by decide +kernel⟩
set_option maxRecDepth 20000 in
theorem f_X4_7 : FG RX4 7 5 1 RX4 TX4 32 := ⟨rfl, inT_X4, by decide, tb_4 45 rfl rfl⟩
theorem p_X4_7 : FP RX4 7 5 1 RX4 TX4 32 (.array .int) := ⟨f_X4_7, ⟨tyX4, tyX4_ok⟩, nmX4, by decide +kernel⟩
set_option maxRecDepth 20000 in
theorem f_X4_13 : FG RX4 13 5 2 RX4 TX4 32 := ⟨rfl, inT_X4, by decide, tb_4 46 rfl rfl⟩
theorem p_X4_13 : FP RX4 13 5 2 RX4 TX4 32 (.array .int) := ⟨f_X4_13, ⟨tyX4, tyX4_ok⟩, nmX4, by decide +kernel⟩
set_option maxRecDepth 20000 in
theorem f_X4_16 : FG RX4 16 5 3 RX4 TX4 32 := ⟨rfl, inT_X4, by decide, tb_4 47 rfl rfl⟩
theorem p_X4_16 : FP RX4 16 5 3 RX4 TX4 32 (.array .int) := ⟨f_X4_16, ⟨tyX4, tyX4_ok⟩, nmX4, by decide +kernel⟩
set_option maxRecDepth 20000 in
theorem f_X4_19 : FG RX4 19 5 4 RX4 TX4 32 := ⟨rfl, inT_X4, by decide, tb_4 48 rfl rfl⟩
theorem p_X4_19 : FP RX4 19 5 4 RX4 TX4 32 (.array .int) := ⟨f_X4_19, ⟨tyX4, tyX4_ok⟩, nmX4, by decide +kernel⟩
set_option maxRecDepth 20000 in
theorem f_X4_22 : FG RX4 22 5 5 RX4 TX4 32 := ⟨rfl, inT_X4, by decide, tb_4 49 rfl rfl⟩
theorem p_X4_22 : FP RX4 22 5 5 RX4 TX4 32 (.array .long) := ⟨f_X4_22, ⟨tyX4, tyX4_ok⟩, nmX4, by decide +kernel⟩
set_option maxRecDepth 20000 in
theorem f_X4_100 : FG RX4 100 5 6 RX4 TX4 32 := ⟨rfl, inT_X4, by decide, tb_4 50 rfl rfl⟩
theorem p_X4_100 : FP RX4 100 5 6 RX4 TX4 32 .int := ⟨f_X4_100, ⟨tyX4, tyX4_ok⟩, nmX4, by decide +kernel⟩
set_option maxRecDepth 20000 in
theorem f_X4_107 : FG RX4 107 5 7 RX4 TX4 32 := ⟨rfl, inT_X4, by decide, tb_4 51 rfl rfl⟩
theorem p_X4_107 : FP RX4 107 5 7 RX4 TX4 32 .int := ⟨f_X4_107, ⟨tyX4, tyX4_ok⟩, nmX4, by decide +kernel⟩
set_option maxRecDepth 20000 in
theorem f_X4_26 : FG RX4 26 5 8 RX4 TX4 32 := ⟨rfl, inT_X4, by decide, tb_4 52 rfl rfl⟩
theorem p_X4_26 : FP RX4 26 5 8 RX4 TX4 32 (.array .int) := ⟨f_X4_26, ⟨tyX4, tyX4_ok⟩, nmX4, by decide +kernel⟩
set_option maxRecDepth 20000 in
theorem f_X4_29 : FG RX4 29 5 9 RX4 TX4 32 := ⟨rfl, inT_X4, by decide, tb_4 53 rfl rfl⟩
theorem p_X4_29 : FP RX4 29 5 9 RX4 TX4 32 (.array .int) := ⟨f_X4_29, ⟨tyX4, tyX4_ok⟩, nmX4, by decide +kernel⟩
set_option maxRecDepth 20000 in
theorem f_X4_32 : FG RX4 32 5 10 RX4 TX4 32 := ⟨rfl, inT_X4, by decide, tb_4 54 rfl rfl⟩
theorem p_X4_32 : FP RX4 32 5 10 RX4 TX4 32 (.array .int) := ⟨f_X4_32, ⟨tyX4, tyX4_ok⟩, nmX4, by decide +kernel⟩
set_option maxRecDepth 20000 in
theorem f_X4_35 : FG RX4 35 5 11 RX4 TX4 32 := ⟨rfl, inT_X4, by decide, tb_4 55 rfl rfl⟩
theorem p_X4_35 : FP RX4 35 5 11 RX4 TX4 32 (.array .int) := ⟨f_X4_35, ⟨tyX4, tyX4_ok⟩, nmX4, by decide +kernel⟩
set_option maxRecDepth 20000 in
theorem f_X4_38 : FG RX4 38 5 12 RX4 TX4 32 := ⟨rfl, inT_X4, by decide, tb_4 56 rfl rfl⟩
theorem p_X4_38 : FP RX4 38 5 12 RX4 TX4 32 (.array .int) := ⟨f_X4_38, ⟨tyX4, tyX4_ok⟩, nmX4, by decide +kernel⟩
set_option maxRecDepth 20000 in
theorem f_X4_41 : FG RX4 41 5 13 RX4 TX4 32 := ⟨rfl, inT_X4, by decide, tb_4 57 rfl rfl⟩
theorem p_X4_41 : FP RX4 41 5 13 RX4 TX4 32 (.array .int) := ⟨f_X4_41, ⟨tyX4, tyX4_ok⟩, nmX4, by decide +kernel⟩
set_option maxRecDepth 20000 in
theorem f_X4_44 : FG RX4 44 5 14 RX4 TX4 32 := ⟨rfl, inT_X4, by decide, tb_4 58 rfl rfl⟩
theorem p_X4_44 : FP RX4 44 5 14 RX4 TX4 32 (.array .int) := ⟨f_X4_44, ⟨tyX4, tyX4_ok⟩, nmX4, by decide +kernel⟩
set_option maxRecDepth 20000 in
theorem f_X4_47 : FG RX4 47 5 15 RX4 TX4 32 := ⟨rfl, inT_X4, by decide, tb_4 59 rfl rfl⟩
theorem p_X4_47 : FP RX4 47 5 15 RX4 TX4 32 (.array .int) := ⟨f_X4_47, ⟨tyX4, tyX4_ok⟩, nmX4, by decide +kernel⟩
set_option maxRecDepth 20000 in
theorem f_X4_50 : FG RX4 50 5 16 RX4 TX4 32 := ⟨rfl, inT_X4, by decide, tb_4 60 rfl rfl⟩
theorem p_X4_50 : FP RX4 50 5 16 RX4 TX4 32 (.array .int) := ⟨f_X4_50, ⟨tyX4, tyX4_ok⟩, nmX4, by decide +kernel⟩
set_option maxRecDepth 20000 in
theorem f_X4_53 : FG RX4 53 5 17 RX4 TX4 32 := ⟨rfl, inT_X4, by decide, tb_4 61 rfl rfl⟩
theorem p_X4_53 : FP RX4 53 5 17 RX4 TX4 32 (.array .int) := ⟨f_X4_53, ⟨tyX4, tyX4_ok⟩, nmX4, by decide +kernel⟩
set_option maxRecDepth 20000 in
theorem f_X4_110 : FG RX4 110 5 18 RX4 TX4 32 := ⟨rfl, inT_X4, by decide, tb_4 62 rfl rfl⟩
theorem p_X4_110 : FP RX4 110 5 18 RX4 TX4 32 .int := ⟨f_X4_110, ⟨tyX4, tyX4_ok⟩, nmX4, by decide +kernel⟩
set_option maxRecDepth 20000 in
theorem f_X4_56 : FG RX4 56 5 19 RX4 TX4 32 := ⟨rfl, inT_X4, by decide, tb_4 63 rfl rfl⟩
theorem p_X4_56 : FP RX4 56 5 19 RX4 TX4 32 (.array .int) := ⟨f_X4_56, ⟨tyX4, tyX4_ok⟩, nmX4, by decide +kernel⟩
set_option maxRecDepth 20000 in
theorem f_X4_59 : FG RX4 59 5 20 RX4 TX4 32 := ⟨rfl, inT_X4, by decide, tb_4 64 rfl rfl⟩
theorem p_X4_59 : FP RX4 59 5 20 RX4 TX4 32 (.array .int) := ⟨f_X4_59, ⟨tyX4, tyX4_ok⟩, nmX4, by decide +kernel⟩
set_option maxRecDepth 20000 in
theorem f_X4_62 : FG RX4 62 5 21 RX4 TX4 32 := ⟨rfl, inT_X4, by decide, tb_4 65 rfl rfl⟩
theorem p_X4_62 : FP RX4 62 5 21 RX4 TX4 32 (.array .int) := ⟨f_X4_62, ⟨tyX4, tyX4_ok⟩, nmX4, by decide +kernel⟩
set_option maxRecDepth 20000 in
theorem f_X4_65 : FG RX4 65 5 22 RX4 TX4 32 := ⟨rfl, inT_X4, by decide, tb_4 66 rfl rfl⟩
theorem p_X4_65 : FP RX4 65 5 22 RX4 TX4 32 (.array .int) := ⟨f_X4_65, ⟨tyX4, tyX4_ok⟩, nmX4, by decide +kernel⟩
set_option maxRecDepth 20000 in
theorem f_X4_68 : FG RX4 68 5 23 RX4 TX4 32 := ⟨rfl, inT_X4, by decide, tb_4 67 rfl rfl⟩
theorem p_X4_68 : FP RX4 68 5 23 RX4 TX4 32 (.array .int) := ⟨f_X4_68, ⟨tyX4, tyX4_ok⟩, nmX4, by decide +kernel⟩
set_option maxRecDepth 20000 in
theorem f_X4_71 : FG RX4 71 5 24 RX4 TX4 32 := ⟨rfl, inT_X4, by decide, tb_4 68 rfl rfl⟩
theorem p_X4_71 : FP RX4 71 5 24 RX4 TX4 32 (.array .boolean) := ⟨f_X4_71, ⟨tyX4, tyX4_ok⟩, nmX4, by decide +kernel⟩
set_option maxRecDepth 20000 in
theorem f_X4_75 : FG RX4 75 5 25 RX4 TX4 32 := ⟨rfl, inT_X4, by decide, tb_4 69 rfl rfl⟩
theorem p_X4_75 : FP RX4 75 5 25 RX4 TX4 32 (.array .boolean) := ⟨f_X4_75, ⟨tyX4, tyX4_ok⟩, nmX4, by decide +kernel⟩
set_option maxRecDepth 20000 in
theorem f_X4_78 : FG RX4 78 5 26 RX4 TX4 32 := ⟨rfl, inT_X4, by decide, tb_4 70 rfl rfl⟩
theorem p_X4_78 : FP RX4 78 5 26 RX4 TX4 32 (.array .boolean) := ⟨f_X4_78, ⟨tyX4, tyX4_ok⟩, nmX4, by decide +kernel⟩
set_option maxRecDepth 20000 in
theorem f_X4_81 : FG RX4 81 5 27 RX4 TX4 32 := ⟨rfl, inT_X4, by decide, tb_4 71 rfl rfl⟩
theorem p_X4_81 : FP RX4 81 5 27 RX4 TX4 32 (.array .boolean) := ⟨f_X4_81, ⟨tyX4, tyX4_ok⟩, nmX4, by decide +kernel⟩
set_option maxRecDepth 20000 in
theorem f_X4_84 : FG RX4 84 5 28 RX4 TX4 32 := ⟨rfl, inT_X4, by decide, tb_4 72 rfl rfl⟩
theorem p_X4_84 : FP RX4 84 5 28 RX4 TX4 32 (.array .int) := ⟨f_X4_84, ⟨tyX4, tyX4_ok⟩, nmX4, by decide +kernel⟩
set_option maxRecDepth 20000 in
theorem f_X4_87 : FG RX4 87 5 29 RX4 TX4 32 := ⟨rfl, inT_X4, by decide, tb_4 73 rfl rfl⟩
theorem p_X4_87 : FP RX4 87 5 29 RX4 TX4 32 (.array .int) := ⟨f_X4_87, ⟨tyX4, tyX4_ok⟩, nmX4, by decide +kernel⟩
set_option maxRecDepth 20000 in
theorem f_X4_90 : FG RX4 90 5 30 RX4 TX4 32 := ⟨rfl, inT_X4, by decide, tb_4 74 rfl rfl⟩
theorem p_X4_90 : FP RX4 90 5 30 RX4 TX4 32 .int := ⟨f_X4_90, ⟨tyX4, tyX4_ok⟩, nmX4, by decide +kernel⟩
set_option maxRecDepth 20000 in
theorem f_X4_94 : FG RX4 94 5 31 RX4 TX4 32 := ⟨rfl, inT_X4, by decide, tb_4 75 rfl rfl⟩
theorem p_X4_94 : FP RX4 94 5 31 RX4 TX4 32 (.array .boolean) := ⟨f_X4_94, ⟨tyX4, tyX4_ok⟩, nmX4, by decide +kernel⟩
set_option maxRecDepth 20000 in
theorem s_L_94 : CSV RL 94 yX4_thrown RX4 cX4_thrown 1 (some .int) 0 := ⟨⟨tb_4 144 rfl rfl, tb_4 145 rfl rfl, tb_4 146 rfl rfl, tb_1 5 rfl rfl, tb_4 147 rfl rfl⟩, rfl, by decide +kernel, by decide +kernel, by decide +kernel⟩
set_option maxRecDepth 20000 in
theorem s_L_93 : CSV RL 93 yX4_beast RX4 cX4_beast 2 (some .int) 1 := ⟨⟨tb_4 148 rfl rfl, tb_4 149 rfl rfl, tb_4 150 rfl rfl, tb_1 5 rfl rfl, tb_4 151 rfl rfl⟩, rfl, by decide +kernel, by decide +kernel, by decide +kernel⟩
set_option maxRecDepth 20000 in
theorem s_X4_103 : CSS RX4 103 yX4_isIn cX4_isIn 3 (some .boolean) 3 := ⟨⟨tb_4 152 rfl rfl, tb_4 153 rfl rfl, tb_1 5 rfl rfl, tb_4 154 rfl rfl⟩, by decide +kernel, by decide +kernel, by decide +kernel⟩
set_option maxRecDepth 20000 in
theorem s_X4_113 : CSV RX4 113 yX4_holds RX4 cX4_holds 2 (some .boolean) 1 := ⟨⟨tb_4 155 rfl rfl, tb_4 157 rfl rfl, tb_s 23 rfl rfl, tb_1 5 rfl rfl, tb_4 158 rfl rfl⟩, rfl, by decide +kernel, by decide +kernel, by decide +kernel⟩
set_option maxRecDepth 20000 in
theorem s_L_100 : CSV RL 100 yX4_rider RX4 cX4_rider 1 (some .int) 0 := ⟨⟨tb_4 159 rfl rfl, tb_4 160 rfl rfl, tb_4 161 rfl rfl, tb_1 5 rfl rfl, tb_4 162 rfl rfl⟩, rfl, by decide +kernel, by decide +kernel, by decide +kernel⟩
set_option maxRecDepth 20000 in
theorem s_L_104 : CSV RL 104 yX4_rodeo RX4 cX4_rodeo 12 (some .int) 7 := ⟨⟨tb_4 163 rfl rfl, tb_4 164 rfl rfl, tb_4 165 rfl rfl, tb_1 5 rfl rfl, tb_4 166 rfl rfl⟩, rfl, by decide +kernel, by decide +kernel, by decide +kernel⟩
set_option maxRecDepth 20000 in
theorem k_X4_117 : Cond.constant RX4 117 (99999) ∈ TB := tb_4 167 rfl rfl
set_option maxRecDepth 20000 in
theorem s_X4_118 : CSS RX4 118 yX4_at cX4_at 2 (some .int) 2 := ⟨⟨tb_4 168 rfl rfl, tb_4 169 rfl rfl, tb_1 5 rfl rfl, tb_4 170 rfl rfl⟩, by decide +kernel, by decide +kernel, by decide +kernel⟩
set_option maxRecDepth 20000 in
theorem s_L_108 : CSV RL 108 yX4_rodeoIs RX4 cX4_rodeoIs 4 (some .int) 2 := ⟨⟨tb_4 171 rfl rfl, tb_4 172 rfl rfl, tb_4 173 rfl rfl, tb_1 5 rfl rfl, tb_4 174 rfl rfl⟩, rfl, by decide +kernel, by decide +kernel, by decide +kernel⟩
set_option maxRecDepth 20000 in
theorem s_X4_129 : CSV RX4 129 yX4_isRodeo RX4 cX4_isRodeo 2 (some .boolean) 1 := ⟨⟨tb_4 175 rfl rfl, tb_4 177 rfl rfl, tb_s 24 rfl rfl, tb_1 5 rfl rfl, tb_4 178 rfl rfl⟩, rfl, by decide +kernel, by decide +kernel, by decide +kernel⟩
set_option maxRecDepth 20000 in
theorem s_X4_132 : CSV RX4 132 yX4_tells RX4 cX4_tells 3 (some .int) 2 := ⟨⟨tb_4 179 rfl rfl, tb_4 181 rfl rfl, tb_s 25 rfl rfl, tb_1 5 rfl rfl, tb_4 182 rfl rfl⟩, rfl, by decide +kernel, by decide +kernel, by decide +kernel⟩
set_option maxRecDepth 20000 in
theorem s_X4_122 : CSV RX4 122 yX4_placedIn RX4 cX4_placedIn 4 (some .int) 1 := ⟨⟨tb_4 183 rfl rfl, tb_4 185 rfl rfl, tb_s 26 rfl rfl, tb_1 5 rfl rfl, tb_4 186 rfl rfl⟩, rfl, by decide +kernel, by decide +kernel, by decide +kernel⟩
set_option maxRecDepth 20000 in
theorem s_X4_126 : CSV RX4 126 yX4_pot RX4 cX4_pot 2 (some .int) 1 := ⟨⟨tb_4 187 rfl rfl, tb_4 189 rfl rfl, tb_s 27 rfl rfl, tb_1 5 rfl rfl, tb_4 190 rfl rfl⟩, rfl, by decide +kernel, by decide +kernel, by decide +kernel⟩
set_option maxRecDepth 20000 in
theorem s_L_112 : CSV RL 112 yX4_enter RX4 cX4_enter 7 (some .int) 4 := ⟨⟨tb_4 191 rfl rfl, tb_4 192 rfl rfl, tb_4 193 rfl rfl, tb_1 5 rfl rfl, tb_4 194 rfl rfl⟩, rfl, by decide +kernel, by decide +kernel, by decide +kernel⟩
set_option maxRecDepth 20000 in
theorem s_X4_135 : CSV RX4 135 yX4_isRider RX4 cX4_isRider 2 (some .boolean) 1 := ⟨⟨tb_4 195 rfl rfl, tb_4 197 rfl rfl, tb_s 28 rfl rfl, tb_1 5 rfl rfl, tb_4 198 rfl rfl⟩, rfl, by decide +kernel, by decide +kernel, by decide +kernel⟩
set_option maxRecDepth 20000 in
theorem s_X4_138 : CSV RX4 138 yX4_hasEntered RX4 cX4_hasEntered 5 (some .boolean) 2 := ⟨⟨tb_4 199 rfl rfl, tb_4 201 rfl rfl, tb_s 29 rfl rfl, tb_1 5 rfl rfl, tb_4 202 rfl rfl⟩, rfl, by decide +kernel, by decide +kernel, by decide +kernel⟩
set_option maxRecDepth 20000 in
theorem s_L_115 : CSV RL 115 yX4_close RX4 cX4_close 4 (some .int) 1 := ⟨⟨tb_4 203 rfl rfl, tb_4 204 rfl rfl, tb_4 205 rfl rfl, tb_1 5 rfl rfl, tb_4 206 rfl rfl⟩, rfl, by decide +kernel, by decide +kernel, by decide +kernel⟩
set_option maxRecDepth 20000 in
theorem s_X4_154 : CSV RX4 154 yX4_places RX4 cX4_places 5 (none : Option Jvm.ClassFile.FieldType) 2 := ⟨⟨tb_4 207 rfl rfl, tb_4 209 rfl rfl, tb_s 30 rfl rfl, tb_1 5 rfl rfl, tb_4 210 rfl rfl⟩, rfl, by decide +kernel, by decide +kernel, by decide +kernel⟩
set_option maxRecDepth 20000 in
theorem s_X4_151 : CSV RX4 151 yX4_fits RX4 cX4_fits 4 (some .boolean) 3 := ⟨⟨tb_4 211 rfl rfl, tb_4 213 rfl rfl, tb_s 31 rfl rfl, tb_1 5 rfl rfl, tb_4 214 rfl rfl⟩, rfl, by decide +kernel, by decide +kernel, by decide +kernel⟩
set_option maxRecDepth 20000 in
theorem s_X4_145 : CSV RX4 145 yX4_taken RX4 cX4_taken 5 (some .int) 2 := ⟨⟨tb_4 215 rfl rfl, tb_4 217 rfl rfl, tb_s 32 rfl rfl, tb_1 5 rfl rfl, tb_4 218 rfl rfl⟩, rfl, by decide +kernel, by decide +kernel, by decide +kernel⟩
set_option maxRecDepth 20000 in
theorem s_X4_148 : CSV RX4 148 yX4_gets RX4 cX4_gets 8 (some .boolean) 3 := ⟨⟨tb_4 219 rfl rfl, tb_4 221 rfl rfl, tb_s 33 rfl rfl, tb_1 5 rfl rfl, tb_4 222 rfl rfl⟩, rfl, by decide +kernel, by decide +kernel, by decide +kernel⟩
set_option maxRecDepth 20000 in
theorem s_X4_142 : CSS RX4 142 yX4_apart cX4_apart 2 (some .int) 2 := ⟨⟨tb_4 223 rfl rfl, tb_4 224 rfl rfl, tb_1 5 rfl rfl, tb_4 225 rfl rfl⟩, by decide +kernel, by decide +kernel, by decide +kernel⟩
set_option maxRecDepth 20000 in
theorem s_L_118 : CSV RL 118 yX4_placed RX4 cX4_placed 3 (some .int) 2 := ⟨⟨tb_4 226 rfl rfl, tb_4 227 rfl rfl, tb_4 228 rfl rfl, tb_1 5 rfl rfl, tb_4 229 rfl rfl⟩, rfl, by decide +kernel, by decide +kernel, by decide +kernel⟩
set_option maxRecDepth 20000 in
theorem s_L_121 : CSV RL 121 yX4_most RX4 cX4_most 2 (some .int) 1 := ⟨⟨tb_4 230 rfl rfl, tb_4 231 rfl rfl, tb_4 232 rfl rfl, tb_1 5 rfl rfl, tb_4 233 rfl rfl⟩, rfl, by decide +kernel, by decide +kernel, by decide +kernel⟩
set_option maxRecDepth 20000 in
theorem s_X4_160 : CSV RX4 160 yX4_greatest RX4 cX4_greatest 7 (some .int) 1 := ⟨⟨tb_4 234 rfl rfl, tb_4 236 rfl rfl, tb_s 34 rfl rfl, tb_1 5 rfl rfl, tb_4 237 rfl rfl⟩, rfl, by decide +kernel, by decide +kernel, by decide +kernel⟩
set_option maxRecDepth 20000 in
theorem s_X4_157 : CSS RX4 157 yX4_unit cX4_unit 1 (some .int) 1 := ⟨⟨tb_4 238 rfl rfl, tb_4 239 rfl rfl, tb_1 5 rfl rfl, tb_5 0 rfl rfl⟩, by decide +kernel, by decide +kernel, by decide +kernel⟩
set_option maxRecDepth 20000 in
theorem s_L_125 : CSV RL 125 yX4_hide RX4 cX4_hide 2 (none : Option Jvm.ClassFile.FieldType) 1 := ⟨⟨tb_5 1 rfl rfl, tb_5 2 rfl rfl, tb_5 3 rfl rfl, tb_1 5 rfl rfl, tb_5 4 rfl rfl⟩, rfl, by decide +kernel, by decide +kernel, by decide +kernel⟩
set_option maxRecDepth 20000 in
theorem k_X4_163 : Cond.constant RX4 163 (65536) ∈ TB := tb_5 5 rfl rfl
set_option maxRecDepth 20000 in
theorem s_L_128 : CSV RL 128 yX4_draw RX4 cX4_draw 3 (some .int) 1 := ⟨⟨tb_5 6 rfl rfl, tb_5 7 rfl rfl, tb_5 8 rfl rfl, tb_1 5 rfl rfl, tb_5 9 rfl rfl⟩, rfl, by decide +kernel, by decide +kernel, by decide +kernel⟩
set_option maxRecDepth 20000 in
theorem s_X4_171 : CSV RX4 171 yX4_drawn RX4 cX4_drawn 5 (some .int) 1 := ⟨⟨tb_5 10 rfl rfl, tb_5 12 rfl rfl, tb_s 35 rfl rfl, tb_1 5 rfl rfl, tb_5 13 rfl rfl⟩, rfl, by decide +kernel, by decide +kernel, by decide +kernel⟩
set_option maxRecDepth 20000 in
theorem s_X4_168 : CSV RX4 168 yX4_drawsFor RX4 cX4_drawsFor 8 (none : Option Jvm.ClassFile.FieldType) 2 := ⟨⟨tb_5 14 rfl rfl, tb_5 16 rfl rfl, tb_s 36 rfl rfl, tb_1 5 rfl rfl, tb_5 17 rfl rfl⟩, rfl, by decide +kernel, by decide +kernel, by decide +kernel⟩
set_option maxRecDepth 20000 in
theorem s_X4_164 : CSV RX4 164 yX4_canBeDrawn RX4 cX4_canBeDrawn 6 (some .boolean) 3 := ⟨⟨tb_5 18 rfl rfl, tb_5 20 rfl rfl, tb_s 37 rfl rfl, tb_1 5 rfl rfl, tb_5 21 rfl rfl⟩, rfl, by decide +kernel, by decide +kernel, by decide +kernel⟩
set_option maxRecDepth 20000 in
theorem k_X4_167 : Cond.constant RX4 167 (65537) ∈ TB := tb_5 22 rfl rfl
set_option maxRecDepth 20000 in
theorem s_L_131 : CSV RL 131 yX4_drawn_ RX4 cX4_drawn_ 3 (some .int) 2 := ⟨⟨tb_5 23 rfl rfl, tb_5 24 rfl rfl, tb_5 25 rfl rfl, tb_1 5 rfl rfl, tb_5 26 rfl rfl⟩, rfl, by decide +kernel, by decide +kernel, by decide +kernel⟩
set_option maxRecDepth 20000 in
theorem s_L_135 : CSV RL 135 yX4_ride RX4 cX4_ride 9 (some .int) 5 := ⟨⟨tb_5 27 rfl rfl, tb_5 28 rfl rfl, tb_5 29 rfl rfl, tb_1 5 rfl rfl, tb_5 30 rfl rfl⟩, rfl, by decide +kernel, by decide +kernel, by decide +kernel⟩
set_option maxRecDepth 20000 in
theorem k_X4_174 : Cond.constant RX4 174 (456975) ∈ TB := tb_5 31 rfl rfl
set_option maxRecDepth 20000 in
theorem k_X4_175 : Cond.constant RX4 175 (999999) ∈ TB := tb_5 32 rfl rfl
set_option maxRecDepth 20000 in
theorem s_X4_176 : CSV RX4 176 yX4_rides RX4 cX4_rides 9 (some .int) 4 := ⟨⟨tb_5 33 rfl rfl, tb_5 35 rfl rfl, tb_s 38 rfl rfl, tb_1 5 rfl rfl, tb_5 36 rfl rfl⟩, rfl, by decide +kernel, by decide +kernel, by decide +kernel⟩
set_option maxRecDepth 20000 in
theorem s_L_138 : CSV RL 138 yX4_isOffered RX4 cX4_isOffered 3 (some .boolean) 2 := ⟨⟨tb_5 37 rfl rfl, tb_5 38 rfl rfl, tb_5 39 rfl rfl, tb_1 5 rfl rfl, tb_5 40 rfl rfl⟩, rfl, by decide +kernel, by decide +kernel, by decide +kernel⟩
set_option maxRecDepth 20000 in
theorem s_L_142 : CSV RL 142 yX4_answer RX4 cX4_answer 5 (some .int) 3 := ⟨⟨tb_5 41 rfl rfl, tb_5 42 rfl rfl, tb_5 43 rfl rfl, tb_1 5 rfl rfl, tb_5 44 rfl rfl⟩, rfl, by decide +kernel, by decide +kernel, by decide +kernel⟩
set_option maxRecDepth 20000 in
theorem s_X4_180 : CSV RX4 180 yX4_answered RX4 cX4_answered 5 (some .int) 3 := ⟨⟨tb_5 45 rfl rfl, tb_5 47 rfl rfl, tb_s 39 rfl rfl, tb_1 5 rfl rfl, tb_5 48 rfl rfl⟩, rfl, by decide +kernel, by decide +kernel, by decide +kernel⟩
set_option maxRecDepth 20000 in
theorem s_L_145 : CSV RL 145 yX4_score RX4 cX4_score 3 (some .int) 2 := ⟨⟨tb_5 49 rfl rfl, tb_5 50 rfl rfl, tb_5 51 rfl rfl, tb_1 5 rfl rfl, tb_5 52 rfl rfl⟩, rfl, by decide +kernel, by decide +kernel, by decide +kernel⟩
set_option maxRecDepth 20000 in
theorem s_L_148 : CSV RL 148 yX4_beastIs RX4 cX4_beastIs 4 (some .int) 2 := ⟨⟨tb_5 53 rfl rfl, tb_5 54 rfl rfl, tb_5 55 rfl rfl, tb_1 5 rfl rfl, tb_5 56 rfl rfl⟩, rfl, by decide +kernel, by decide +kernel, by decide +kernel⟩
set_option maxRecDepth 20000 in
theorem s_X4_190 : CSV RX4 190 yX4_isBeast RX4 cX4_isBeast 2 (some .boolean) 1 := ⟨⟨tb_5 57 rfl rfl, tb_5 59 rfl rfl, tb_s 40 rfl rfl, tb_1 5 rfl rfl, tb_5 60 rfl rfl⟩, rfl, by decide +kernel, by decide +kernel, by decide +kernel⟩
set_option maxRecDepth 20000 in
theorem s_X4_193 : CSV RX4 193 yX4_told RX4 cX4_told 3 (some .int) 2 := ⟨⟨tb_5 61 rfl rfl, tb_5 63 rfl rfl, tb_s 41 rfl rfl, tb_1 5 rfl rfl, tb_5 64 rfl rfl⟩, rfl, by decide +kernel, by decide +kernel, by decide +kernel⟩
set_option maxRecDepth 20000 in
theorem s_X4_187 : CSV RX4 187 yX4_rankOf RX4 cX4_rankOf 4 (some .int) 1 := ⟨⟨tb_5 65 rfl rfl, tb_5 67 rfl rfl, tb_s 42 rfl rfl, tb_1 5 rfl rfl, tb_5 68 rfl rfl⟩, rfl, by decide +kernel, by decide +kernel, by decide +kernel⟩
set_option maxRecDepth 20000 in
theorem s_X4_184 : CSV RX4 184 yX4_isAhead RX4 cX4_isAhead 5 (some .boolean) 2 := ⟨⟨tb_5 69 rfl rfl, tb_5 71 rfl rfl, tb_s 43 rfl rfl, tb_1 5 rfl rfl, tb_5 72 rfl rfl⟩, rfl, by decide +kernel, by decide +kernel, by decide +kernel⟩
set_option maxRecDepth 20000 in
theorem s_L_151 : CSV RL 151 yX4_pay RX4 cX4_pay 3 (some .int) 1 := ⟨⟨tb_5 73 rfl rfl, tb_5 74 rfl rfl, tb_5 75 rfl rfl, tb_1 5 rfl rfl, tb_5 76 rfl rfl⟩, rfl, by decide +kernel, by decide +kernel, by decide +kernel⟩
set_option maxRecDepth 20000 in
theorem s_X4_200 : CSV RX4 200 yX4_canBePaid RX4 cX4_canBePaid 4 (some .boolean) 1 := ⟨⟨tb_5 77 rfl rfl, tb_5 79 rfl rfl, tb_s 44 rfl rfl, tb_1 5 rfl rfl, tb_5 80 rfl rfl⟩, rfl, by decide +kernel, by decide +kernel, by decide +kernel⟩
set_option maxRecDepth 20000 in
theorem s_X4_203 : CSV RX4 203 yX4_pays RX4 cX4_pays 9 (some .int) 1 := ⟨⟨tb_5 81 rfl rfl, tb_5 83 rfl rfl, tb_s 45 rfl rfl, tb_1 5 rfl rfl, tb_5 84 rfl rfl⟩, rfl, by decide +kernel, by decide +kernel, by decide +kernel⟩
set_option maxRecDepth 20000 in
theorem s_X4_196 : CSS RX4 196 yX4_shares cX4_shares 5 (some .int) 3 := ⟨⟨tb_5 85 rfl rfl, tb_5 86 rfl rfl, tb_1 5 rfl rfl, tb_5 87 rfl rfl⟩, by decide +kernel, by decide +kernel, by decide +kernel⟩
set_option maxRecDepth 20000 in
theorem s_L_154 : CSV RL 154 yX4_got RX4 cX4_got 3 (some .int) 2 := ⟨⟨tb_5 88 rfl rfl, tb_5 89 rfl rfl, tb_5 90 rfl rfl, tb_1 5 rfl rfl, tb_5 91 rfl rfl⟩, rfl, by decide +kernel, by decide +kernel, by decide +kernel⟩
set_option maxRecDepth 20000 in
theorem s_L_157 : CSV RL 157 yX4_counts RX4 cX4_counts 2 (some .int) 1 := ⟨⟨tb_5 92 rfl rfl, tb_5 93 rfl rfl, tb_5 94 rfl rfl, tb_1 5 rfl rfl, tb_5 95 rfl rfl⟩, rfl, by decide +kernel, by decide +kernel, by decide +kernel⟩
set_option maxRecDepth 20000 in
theorem s_X4_206 : CSV RX4 206 yX4_counted RX4 cX4_counted 8 (some .int) 1 := ⟨⟨tb_5 96 rfl rfl, tb_5 98 rfl rfl, tb_s 46 rfl rfl, tb_1 5 rfl rfl, tb_5 99 rfl rfl⟩, rfl, by decide +kernel, by decide +kernel, by decide +kernel⟩
set_option maxRecDepth 20000 in
theorem s_L_160 : CSV RL 160 yX4_ranked RX4 cX4_ranked 2 (some .int) 1 := ⟨⟨tb_5 100 rfl rfl, tb_5 101 rfl rfl, tb_5 102 rfl rfl, tb_1 5 rfl rfl, tb_5 103 rfl rfl⟩, rfl, by decide +kernel, by decide +kernel, by decide +kernel⟩
set_option maxRecDepth 20000 in
theorem s_X4_215 : CSV RX4 215 yX4_riderOf RX4 cX4_riderOf 6 (some .int) 1 := ⟨⟨tb_5 104 rfl rfl, tb_5 106 rfl rfl, tb_s 47 rfl rfl, tb_1 5 rfl rfl, tb_5 107 rfl rfl⟩, rfl, by decide +kernel, by decide +kernel, by decide +kernel⟩
set_option maxRecDepth 20000 in
theorem s_X4_212 : CSV RX4 212 yX4_isBetter RX4 cX4_isBetter 5 (some .boolean) 2 := ⟨⟨tb_5 108 rfl rfl, tb_5 110 rfl rfl, tb_s 48 rfl rfl, tb_1 5 rfl rfl, tb_5 111 rfl rfl⟩, rfl, by decide +kernel, by decide +kernel, by decide +kernel⟩
set_option maxRecDepth 20000 in
theorem s_X4_209 : CSV RX4 209 yX4_allOf RX4 cX4_allOf 4 (some .int) 1 := ⟨⟨tb_5 112 rfl rfl, tb_5 114 rfl rfl, tb_s 49 rfl rfl, tb_1 5 rfl rfl, tb_5 115 rfl rfl⟩, rfl, by decide +kernel, by decide +kernel, by decide +kernel⟩
set_option maxRecDepth 20000 in
theorem s_L_165 : CSV RL 165 yX4_balances RX4 cX4_balances 3 (some .boolean) 0 := ⟨⟨tb_5 116 rfl rfl, tb_5 117 rfl rfl, tb_5 118 rfl rfl, tb_1 5 rfl rfl, tb_5 119 rfl rfl⟩, rfl, by decide +kernel, by decide +kernel, by decide +kernel⟩
set_option maxRecDepth 20000 in
theorem s_X4_218 : CSV RX4 218 yX4_isBalanced RX4 cX4_isBalanced 4 (some .boolean) 1 := ⟨⟨tb_5 120 rfl rfl, tb_5 122 rfl rfl, tb_s 50 rfl rfl, tb_1 5 rfl rfl, tb_5 123 rfl rfl⟩, rfl, by decide +kernel, by decide +kernel, by decide +kernel⟩
set_option maxRecDepth 20000 in
theorem k_X4_221 : Cond.constantLong RX4 221 (9223372036854775807) ∈ TB := tb_5 124 rfl rfl
set_option maxRecDepth 20000 in
theorem l_L_8 : Cond.classLink RL 8 RX3 ∈ TB := tb_1 23 rfl rfl
set_option maxRecDepth 20000 in
theorem l_X3_9 : Cond.classLink RX3 9 RJx4a65c ∈ TB := tb_1 31 rfl rfl
set_option maxRecDepth 20000 in
theorem l_X3_70 : Cond.classLink RX3 70 RX2 ∈ TB := tb_1 92 rfl rfl
set_option maxRecDepth 20000 in
theorem l_X2_40 : Cond.classLink RX2 40 RX1 ∈ TB := tb_1 99 rfl rfl
set_option maxRecDepth 20000 in
theorem l_X3_46 : Cond.classLink RX3 46 RX0 ∈ TB := tb_1 112 rfl rfl
set_option maxRecDepth 20000 in
theorem l_L_13 : Cond.classLink RL 13 "java/lang/IllegalArgumentException" ∈ TB := tb_1 126 rfl rfl
set_option maxRecDepth 20000 in
theorem l_L_15 : Cond.classLink RL 15 "java/lang/IllegalStateException" ∈ TB := tb_1 127 rfl rfl
set_option maxRecDepth 20000 in
theorem l_X3_30 : Cond.classLink RX3 30 "java/lang/IllegalArgumentException" ∈ TB := tb_1 135 rfl rfl
set_option maxRecDepth 20000 in
theorem l_X3_41 : Cond.classLink RX3 41 "java/lang/IllegalStateException" ∈ TB := tb_1 203 rfl rfl
set_option maxRecDepth 20000 in
theorem l_J7_110 : Cond.classLink RJ7 110 "[Ljava/lang/Object;" ∈ TB := tb_2 59 rfl rfl
set_option maxRecDepth 20000 in
theorem l_J7_2 : Cond.classLink RJ7 2 "java/lang/Object" ∈ TB := tb_2 61 rfl rfl
set_option maxRecDepth 20000 in
theorem l_Jx4a65c_7 : Cond.classLink RJx4a65c 7 "java/lang/Object" ∈ TB := tb_2 69 rfl rfl
set_option maxRecDepth 20000 in
theorem l_X2_33 : Cond.classLink RX2 33 RJx4a65c ∈ TB := tb_2 98 rfl rfl
set_option maxRecDepth 20000 in
theorem l_L_29 : Cond.classLink RL 29 "java/lang/IndexOutOfBoundsException" ∈ TB := tb_2 145 rfl rfl
set_option maxRecDepth 20000 in
theorem l_X3_200 : Cond.classLink RX3 200 "java/lang/IndexOutOfBoundsException" ∈ TB := tb_2 154 rfl rfl
set_option maxRecDepth 20000 in
theorem l_X3_113 : Cond.classLink RX3 113 RX1 ∈ TB := tb_2 199 rfl rfl
set_option maxRecDepth 20000 in
theorem l_L_85 : Cond.classLink RL 85 RX4 ∈ TB := tb_4 38 rfl rfl
set_option maxRecDepth 20000 in
theorem it_L : Cond.initialized RL ∈ TB := tb_1 0 rfl rfl
set_option maxRecDepth 20000 in
theorem it_X3 : Cond.initialized RX3 ∈ TB := tb_1 1 rfl rfl
set_option maxRecDepth 20000 in
theorem it_Jxa1e45 : Cond.initialized RJxa1e45 ∈ TB := tb_1 2 rfl rfl
set_option maxRecDepth 20000 in
theorem it_Jxc12de : Cond.initialized RJxc12de ∈ TB := tb_1 3 rfl rfl
set_option maxRecDepth 20000 in
theorem it_Jx4a65c : Cond.initialized RJx4a65c ∈ TB := tb_1 4 rfl rfl
set_option maxRecDepth 20000 in
theorem it_X4 : Cond.initialized RX4 ∈ TB := tb_1 5 rfl rfl
set_option maxRecDepth 20000 in
theorem it_X0 : Cond.initialized RX0 ∈ TB := tb_1 11 rfl rfl
set_option maxRecDepth 20000 in
theorem it_J8 : Cond.initialized RJ8 ∈ TB := tb_1 12 rfl rfl
set_option maxRecDepth 20000 in
theorem it_J9 : Cond.initialized RJ9 ∈ TB := tb_1 13 rfl rfl
set_option maxRecDepth 20000 in
theorem it_J7 : Cond.initialized RJ7 ∈ TB := tb_1 14 rfl rfl
set_option maxRecDepth 20000 in
theorem it_J10 : Cond.initialized RJ10 ∈ TB := tb_1 15 rfl rfl
set_option maxRecDepth 20000 in
theorem it_X2 : Cond.initialized RX2 ∈ TB := tb_1 16 rfl rfl
set_option maxRecDepth 20000 in
theorem it_J15 : Cond.initialized RJ15 ∈ TB := tb_1 18 rfl rfl
set_option maxRecDepth 20000 in
theorem it_J3 : Cond.initialized RJ3 ∈ TB := tb_1 19 rfl rfl
set_option maxRecDepth 20000 in
theorem it_X1 : Cond.initialized RX1 ∈ TB := tb_1 20 rfl rfl
set_option maxRecDepth 20000 in
theorem it_J6 : Cond.initialized RJ6 ∈ TB := tb_1 21 rfl rfl
set_option maxRecDepth 20000 in
theorem it_J13 : Cond.initialized RJ13 ∈ TB := tb_1 22 rfl rfl
set_option maxRecDepth 20000 in
theorem in_X3 : Cond.instantiable RX3 4 ∈ TB := tb_1 24 rfl rfl
set_option maxRecDepth 20000 in
theorem in_Jx4a65c : Cond.instantiable RJx4a65c 3 ∈ TB := tb_1 32 rfl rfl
set_option maxRecDepth 20000 in
theorem in_X0 : Cond.instantiable RX0 7 ∈ TB := tb_1 219 rfl rfl
set_option maxRecDepth 20000 in
theorem in_X2 : Cond.instantiable RX2 11 ∈ TB := tb_2 93 rfl rfl
set_option maxRecDepth 20000 in
theorem in_X1 : Cond.instantiable RX1 11 ∈ TB := tb_2 200 rfl rfl
set_option maxRecDepth 20000 in
theorem in_X4 : Cond.instantiable RX4 32 ∈ TB := tb_4 39 rfl rfl
set_option maxRecDepth 20000 in
theorem ac_int : Cond.arrayClass .int ∈ TB := tb_4 141 rfl rfl
set_option maxRecDepth 20000 in
theorem ac_long : Cond.arrayClass .long ∈ TB := tb_4 142 rfl rfl
set_option maxRecDepth 20000 in
theorem ac_boolean : Cond.arrayClass .boolean ∈ TB := tb_4 143 rfl rfl
end
section
/-! plain facts to paste, each family by itself; over the kit's nI, lN and upd -/
/-! ===== drawers: more things than places ===== -/
theorem fb_holes : ∀ (m n : Nat) (f : Nat → Nat), (∀ i, i < n → f i < m) → (∀ i j, i < j → j < n → f i ≠ f j) → n ≤ m := by
  intro m
  induction m with
  | zero =>
    intro n f h1 _
    rcases Nat.eq_zero_or_pos n with h | h
    · omega
    · exact absurd (h1 0 h) (Nat.not_lt_zero _)
  | succ m ih =>
    intro n f h1 h2
    by_cases hx : ∃ i, i < n ∧ f i = m
    · obtain ⟨a, ha, hfa⟩ := hx
      have hg := ih (n - 1) (fun i => if i < a then f i else f (i + 1)) (by
        intro i hi
        by_cases q : i < a
        · simp only [if_pos q]
          have b1 := h1 i (by omega)
          have b2 := h2 i a q ha
          omega
        · simp only [if_neg q]
          have b1 := h1 (i + 1) (by omega)
          have b2 := h2 a (i + 1) (by omega) (by omega)
          omega) (by
        intro i j hij hj
        by_cases q : i < a
        · by_cases r : j < a
          · simp only [if_pos q, if_pos r]
            exact h2 i j hij (by omega)
          · simp only [if_pos q, if_neg r]
            exact h2 i (j + 1) (by omega) (by omega)
        · have r : ¬ j < a := by omega
          simp only [if_neg q, if_neg r]
          exact h2 (i + 1) (j + 1) (by omega) (by omega))
      omega
    · have hg := ih n f (fun i hi => by
        have b1 := h1 i hi
        have b2 : f i ≠ m := fun e => hx ⟨i, hi, e⟩
        omega) h2
      omega
/-- two of them in one place -/
theorem fb_twice {m n : Nat} {f : Nat → Nat} (h : ∀ i, i < n → f i < m) (hm : m < n) : ∃ i j, i < j ∧ j < n ∧ f i = f j := by
  refine Classical.byContradiction fun hx => ?_
  have := fb_holes m n f h (fun i j hij hj e => hx ⟨i, j, hij, hj, e⟩)
  omega
/-- as many as places, none twice: each place is taken -/
theorem fb_onto {n : Nat} {f : Nat → Nat} (h : ∀ i, i < n → f i < n) (h2 : ∀ i j, i < j → j < n → f i ≠ f j) {y : Nat} (hy : y < n) : ∃ i, i < n ∧ f i = y := by
  refine Classical.byContradiction fun hx => ?_
  have hne : ∀ i, i < n → f i ≠ y := fun i hi e => hx ⟨i, hi, e⟩
  have := fb_holes (n - 1) n (fun i => if f i < y then f i else f i - 1) (by
    intro i hi
    have b1 := h i hi
    have b2 := hne i hi
    by_cases q : f i < y
    · simp only [if_pos q]; omega
    · simp only [if_neg q]; omega) (by
    intro i j hij hj
    have b1 := hne i (by omega)
    have b2 := hne j hj
    have b3 := h2 i j hij hj
    by_cases q : f i < y
    · by_cases r : f j < y
      · simp only [if_pos q, if_pos r]; exact b3
      · simp only [if_pos q, if_neg r]; omega
    · by_cases r : f j < y
      · simp only [if_neg q, if_pos r]; omega
      · simp only [if_neg q, if_neg r]; omega)
  omega
/-! ===== how many places have a property ===== -/
def fb_ct (p : Nat → Bool) : Nat → Nat
  | 0 => 0
  | n + 1 => fb_ct p n + (if p n then 1 else 0)
theorem fb_ct_succ (p : Nat → Bool) (n : Nat) : fb_ct p (n + 1) = fb_ct p n + (if p n then 1 else 0) := rfl
theorem fb_ct_le (p : Nat → Bool) : ∀ n, fb_ct p n ≤ n
  | 0 => Nat.le_refl _
  | n + 1 => by
    have h := fb_ct_le p n
    rw [fb_ct_succ]
    split <;> omega
theorem fb_ct_step (p : Nat → Bool) (m : Nat) : ∀ n, fb_ct p m ≤ fb_ct p (m + n)
  | 0 => Nat.le_refl _
  | n + 1 => by
    have h := fb_ct_step p m n
    show fb_ct p m ≤ fb_ct p (m + n + 1)
    rw [fb_ct_succ]
    omega
theorem fb_ct_mono (p : Nat → Bool) {m n : Nat} (h : m ≤ n) : fb_ct p m ≤ fb_ct p n := by
  have := fb_ct_step p m (n - m)
  rwa [Nat.add_sub_cancel' h] at this
theorem fb_ct_cong {p q : Nat → Bool} : ∀ {n : Nat}, (∀ k, k < n → p k = q k) → fb_ct p n = fb_ct q n
  | 0, _ => rfl
  | n + 1, h => by
    rw [fb_ct_succ, fb_ct_succ, fb_ct_cong (fun k hk => h k (by omega)), h n (by omega)]
/-- one place changed -/
theorem fb_ct_out (p : Nat → Bool) (b : Bool) {i n : Nat} (h : n ≤ i) : fb_ct (fun k => if k = i then b else p k) n = fb_ct p n :=
  fb_ct_cong fun k hk => if_neg (by omega)
theorem fb_ct_upd (p : Nat → Bool) (b : Bool) {i : Nat} : ∀ {n : Nat}, i < n → fb_ct (fun k => if k = i then b else p k) n + (if p i then 1 else 0) = fb_ct p n + (if b then 1 else 0)
  | 0, h => absurd h (Nat.not_lt_zero i)
  | n + 1, h => by
    rw [fb_ct_succ, fb_ct_succ]
    rcases Nat.lt_or_ge i n with q | q
    · have := fb_ct_upd p b q
      have e : (if n = i then b else p n) = p n := if_neg (by omega)
      rw [e]
      omega
    · have e : i = n := by omega
      subst e
      rw [fb_ct_out p b (Nat.le_refl _)]
      simp only [if_true]
      omega
theorem fb_ct_sub {p q : Nat → Bool} : ∀ {n : Nat}, (∀ k, k < n → p k = true → q k = true) → fb_ct p n ≤ fb_ct q n
  | 0, _ => Nat.le_refl _
  | n + 1, h => by
    have h1 := fb_ct_sub (n := n) (p := p) (q := q) (fun k hk => h k (by omega))
    have h2 := h n (by omega)
    rw [fb_ct_succ, fb_ct_succ]
    cases hp : p n <;> cases hq : q n <;> simp_all <;> omega
theorem fb_ct_or {p q : Nat → Bool} : ∀ {n : Nat}, (∀ k, k < n → ¬ (p k = true ∧ q k = true)) → fb_ct (fun k => p k || q k) n = fb_ct p n + fb_ct q n
  | 0, _ => rfl
  | n + 1, h => by
    have h1 := fb_ct_or (n := n) (p := p) (q := q) (fun k hk => h k (by omega))
    have h2 := h n (by omega)
    rw [fb_ct_succ, fb_ct_succ, fb_ct_succ, h1]
    cases hp : p n <;> cases hq : q n <;> simp_all <;> omega
theorem fb_ct_not (p : Nat → Bool) : ∀ n, fb_ct p n + fb_ct (fun k => !p k) n = n
  | 0 => rfl
  | n + 1 => by
    have h := fb_ct_not p n
    rw [fb_ct_succ, fb_ct_succ]
    cases p n <;> simp <;> omega
theorem fb_ct_split (p : Nat → Bool) (m : Nat) : ∀ n, fb_ct p (m + n) = fb_ct p m + fb_ct (fun k => p (m + k)) n
  | 0 => rfl
  | n + 1 => by
    have h := fb_ct_split p m n
    show fb_ct p (m + n + 1) = _
    rw [fb_ct_succ, fb_ct_succ, h, Nat.add_assoc]
theorem fb_ct_zero {p : Nat → Bool} : ∀ {n : Nat}, fb_ct p n = 0 ↔ ∀ k, k < n → p k = false
  | 0 => ⟨fun _ k hk => absurd hk (Nat.not_lt_zero k), fun _ => rfl⟩
  | n + 1 => by
    have h := fb_ct_zero (p := p) (n := n)
    rw [fb_ct_succ]
    constructor
    · intro e k hk
      have e1 : fb_ct p n = 0 := by omega
      rcases Nat.lt_or_ge k n with q | q
      · exact h.mp e1 k q
      · have ek : k = n := by omega
        subst ek
        cases hp : p k
        · rfl
        · simp [hp] at e
    · intro a
      rw [h.mpr (fun k hk => a k (by omega)), a n (by omega)]
      rfl
theorem fb_ct_pos {p : Nat → Bool} {n : Nat} : 0 < fb_ct p n ↔ ∃ k, k < n ∧ p k = true := by
  constructor
  · intro h
    refine Classical.byContradiction fun hx => ?_
    have := fb_ct_zero.mpr (fun k hk => by
      cases hp : p k
      · rfl
      · exact absurd ⟨k, hk, hp⟩ hx : ∀ k, k < n → p k = false)
    omega
  · rintro ⟨k, hk, hp⟩
    rcases Nat.eq_zero_or_pos (fb_ct p n) with e | e
    · have := fb_ct_zero.mp e k hk
      rw [this] at hp
      cases hp
    · exact e
theorem fb_ct_all {p : Nat → Bool} {n : Nat} : fb_ct p n = n ↔ ∀ k, k < n → p k = true := by
  have h := fb_ct_not p n
  constructor
  · intro e k hk
    have z : fb_ct (fun k => !p k) n = 0 := by omega
    have := fb_ct_zero.mp z k hk
    cases hp : p k
    · simp [hp] at this
    · rfl
  · intro a
    have z : fb_ct (fun k => !p k) n = 0 := fb_ct_zero.mpr (fun k hk => by simp [a k hk])
    omega
/-- the k-th place with the property -/
theorem fb_ct_kth {p : Nat → Bool} {k : Nat} : ∀ {n : Nat}, k < fb_ct p n → ∃ i, i < n ∧ p i = true ∧ fb_ct p i = k
  | 0, h => absurd h (Nat.not_lt_zero k)
  | n + 1, h => by
    rcases Nat.lt_or_ge k (fb_ct p n) with q | q
    · obtain ⟨i, h1, h2⟩ := fb_ct_kth q
      exact ⟨i, by omega, h2⟩
    · rw [fb_ct_succ] at h
      cases hp : p n
      · simp [hp] at h; omega
      · simp [hp] at h
        exact ⟨n, by omega, hp, by omega⟩
theorem fb_ct_kth_one {p : Nat → Bool} {i j : Nat} (hi : p i = true) (hj : p j = true) (e : fb_ct p i = fb_ct p j) : i = j := by
  have key : ∀ a b : Nat, a < b → p a = true → fb_ct p a < fb_ct p b := by
    intro a b hab ha
    have h := fb_ct_mono p (show a + 1 ≤ b from hab)
    rw [fb_ct_succ, ha] at h
    simp at h
    omega
  rcases Nat.lt_trichotomy i j with q | q | q
  · have := key i j q hi; omega
  · exact q
  · have := key j i q hj; omega
/-! ===== sums over a range: one place changed, parts, bounds ===== -/
def fb_sm (f : Nat → Nat) : Nat → Nat
  | 0 => 0
  | n + 1 => fb_sm f n + f n
theorem fb_sm_succ (f : Nat → Nat) (n : Nat) : fb_sm f (n + 1) = fb_sm f n + f n := rfl
theorem fb_sm_cong {f g : Nat → Nat} : ∀ {n : Nat}, (∀ k, k < n → f k = g k) → fb_sm f n = fb_sm g n
  | 0, _ => rfl
  | n + 1, h => by rw [fb_sm_succ, fb_sm_succ, fb_sm_cong (fun k hk => h k (by omega)), h n (by omega)]
theorem fb_sm_out (f : Nat → Nat) (v : Nat) {i n : Nat} (h : n ≤ i) : fb_sm (fun k => if k = i then v else f k) n = fb_sm f n :=
  fb_sm_cong fun k hk => if_neg (by omega)
theorem fb_sm_upd (f : Nat → Nat) (v : Nat) {i : Nat} : ∀ {n : Nat}, i < n → fb_sm (fun k => if k = i then v else f k) n + f i = fb_sm f n + v
  | 0, h => absurd h (Nat.not_lt_zero i)
  | n + 1, h => by
    rw [fb_sm_succ, fb_sm_succ]
    rcases Nat.lt_or_ge i n with q | q
    · have := fb_sm_upd f v q
      have e : (if n = i then v else f n) = f n := if_neg (by omega)
      rw [e]
      omega
    · have e : i = n := by omega
      subst e
      rw [fb_sm_out f v (Nat.le_refl _)]
      simp only [if_true]
      omega
theorem fb_sm_add (f g : Nat → Nat) : ∀ n, fb_sm (fun k => f k + g k) n = fb_sm f n + fb_sm g n
  | 0 => rfl
  | n + 1 => by
    have h := fb_sm_add f g n
    rw [fb_sm_succ, fb_sm_succ, fb_sm_succ, h]
    omega
theorem fb_sm_le {f g : Nat → Nat} : ∀ {n : Nat}, (∀ k, k < n → f k ≤ g k) → fb_sm f n ≤ fb_sm g n
  | 0, _ => Nat.le_refl _
  | n + 1, h => by
    have h1 := fb_sm_le (n := n) (f := f) (g := g) (fun k hk => h k (by omega))
    have h2 := h n (by omega)
    rw [fb_sm_succ, fb_sm_succ]
    omega
theorem fb_sm_const (c : Nat) : ∀ n, fb_sm (fun _ => c) n = n * c
  | 0 => by rw [Nat.zero_mul]; rfl
  | n + 1 => by rw [fb_sm_succ, fb_sm_const c n, Nat.succ_mul]
theorem fb_sm_bound {f : Nat → Nat} {c n : Nat} (h : ∀ k, k < n → f k ≤ c) : fb_sm f n ≤ n * c := by
  rw [← fb_sm_const c n]
  exact fb_sm_le h
theorem fb_sm_mono (f : Nat → Nat) (m : Nat) : ∀ n, fb_sm f m ≤ fb_sm f (m + n)
  | 0 => Nat.le_refl _
  | n + 1 => by
    have h := fb_sm_mono f m n
    show fb_sm f m ≤ fb_sm f (m + n + 1)
    rw [fb_sm_succ]
    omega
theorem fb_sm_part (f : Nat → Nat) {i n : Nat} (h : i < n) : fb_sm f i + f i ≤ fb_sm f n := by
  have := fb_sm_mono f (i + 1) (n - (i + 1))
  rw [fb_sm_succ, show i + 1 + (n - (i + 1)) = n by omega] at this
  exact this
theorem fb_sm_split (f : Nat → Nat) (m : Nat) : ∀ n, fb_sm f (m + n) = fb_sm f m + fb_sm (fun k => f (m + k)) n
  | 0 => rfl
  | n + 1 => by
    have h := fb_sm_split f m n
    show fb_sm f (m + n + 1) = _
    rw [fb_sm_succ, fb_sm_succ, h, Nat.add_assoc]
theorem fb_sm_zero {f : Nat → Nat} {n : Nat} (h : fb_sm f n = 0) : ∀ k, k < n → f k = 0 := fun k hk => by
  have := fb_sm_part f hk
  omega
/-- the same over whole numbers -/
def fb_si (f : Nat → Int) : Nat → Int
  | 0 => 0
  | n + 1 => fb_si f n + f n
theorem fb_si_succ (f : Nat → Int) (n : Nat) : fb_si f (n + 1) = fb_si f n + f n := rfl
theorem fb_si_cong {f g : Nat → Int} : ∀ {n : Nat}, (∀ k, k < n → f k = g k) → fb_si f n = fb_si g n
  | 0, _ => rfl
  | n + 1, h => by rw [fb_si_succ, fb_si_succ, fb_si_cong (fun k hk => h k (by omega)), h n (by omega)]
theorem fb_si_out (f : Nat → Int) (v : Int) {i n : Nat} (h : n ≤ i) : fb_si (fun k => if k = i then v else f k) n = fb_si f n :=
  fb_si_cong fun k hk => if_neg (by omega)
theorem fb_si_upd (f : Nat → Int) (v : Int) {i : Nat} : ∀ {n : Nat}, i < n → fb_si (fun k => if k = i then v else f k) n = fb_si f n - f i + v
  | 0, h => absurd h (Nat.not_lt_zero i)
  | n + 1, h => by
    rw [fb_si_succ, fb_si_succ]
    rcases Nat.lt_or_ge i n with q | q
    · have := fb_si_upd f v q
      have e : (if n = i then v else f n) = f n := if_neg (by omega)
      rw [e]
      omega
    · have e : i = n := by omega
      subst e
      rw [fb_si_out f v (Nat.le_refl _)]
      simp only [if_true]
      omega
theorem fb_si_add (f g : Nat → Int) : ∀ n, fb_si (fun k => f k + g k) n = fb_si f n + fb_si g n
  | 0 => rfl
  | n + 1 => by
    have h := fb_si_add f g n
    rw [fb_si_succ, fb_si_succ, fb_si_succ, h]
    omega
theorem fb_si_sub (f g : Nat → Int) : ∀ n, fb_si (fun k => f k - g k) n = fb_si f n - fb_si g n
  | 0 => rfl
  | n + 1 => by
    have h := fb_si_sub f g n
    rw [fb_si_succ, fb_si_succ, fb_si_succ, h]
    omega
theorem fb_si_mul (c : Int) (f : Nat → Int) : ∀ n, fb_si (fun k => c * f k) n = c * fb_si f n
  | 0 => (Int.mul_zero c).symm
  | n + 1 => by
    have h := fb_si_mul c f n
    rw [fb_si_succ, fb_si_succ, h, Int.mul_add]
theorem fb_si_split (f : Nat → Int) (m : Nat) : ∀ n, fb_si f (m + n) = fb_si f m + fb_si (fun k => f (m + k)) n
  | 0 => (Int.add_zero _).symm
  | n + 1 => by
    have h := fb_si_split f m n
    show fb_si f (m + n + 1) = _
    rw [fb_si_succ, fb_si_succ, h, Int.add_assoc]
theorem fb_si_nat (f : Nat → Nat) : ∀ n, fb_si (fun k => (f k : Int)) n = (fb_sm f n : Int)
  | 0 => rfl
  | n + 1 => by
    have h := fb_si_nat f n
    rw [fb_si_succ, fb_sm_succ, h]
    omega
theorem fb_si_bound {f : Nat → Int} {c : Int} (hc : 0 ≤ c) : ∀ {n : Nat}, (∀ k, k < n → -c ≤ f k ∧ f k ≤ c) → -(n * c) ≤ fb_si f n ∧ fb_si f n ≤ n * c
  | 0, _ => by simp [fb_si]
  | n + 1, h => by
    have h1 := fb_si_bound (n := n) (f := f) hc (fun k hk => h k (by omega))
    have h2 := h n (by omega)
    have e : ((n + 1 : Nat) : Int) * c = n * c + c := by rw [Int.natCast_add, Int.add_mul]; simp
    rw [fb_si_succ, e]
    omega
/-! ===== bits of a long that isn't negative ===== -/
theorem fb_andL (a b : Nat) : lN a &&& lN b = lN (a &&& b) := by
  apply Int64.toBitVec_inj.1
  show BitVec.ofNat 64 a &&& BitVec.ofNat 64 b = BitVec.ofNat 64 (a &&& b)
  apply BitVec.eq_of_getLsbD_eq
  intro i hi
  simp [hi]
theorem fb_orL (a b : Nat) : lN a ||| lN b = lN (a ||| b) := by
  apply Int64.toBitVec_inj.1
  show BitVec.ofNat 64 a ||| BitVec.ofNat 64 b = BitVec.ofNat 64 (a ||| b)
  apply BitVec.eq_of_getLsbD_eq
  intro i hi
  simp [hi]
theorem fb_xorL (a b : Nat) : lN a ^^^ lN b = lN (a ^^^ b) := by
  apply Int64.toBitVec_inj.1
  show BitVec.ofNat 64 a ^^^ BitVec.ofNat 64 b = BitVec.ofNat 64 (a ^^^ b)
  apply BitVec.eq_of_getLsbD_eq
  intro i hi
  simp [hi]
theorem fb_xorI (a b : Nat) : nI a ^^^ nI b = nI (a ^^^ b) := by
  apply Int32.toBitVec_inj.1
  show BitVec.ofNat 32 a ^^^ BitVec.ofNat 32 b = BitVec.ofNat 32 (a ^^^ b)
  apply BitVec.eq_of_getLsbD_eq
  intro i hi
  simp [hi]
theorem fb_maskL (n k : Nat) : lN n &&& lN (2 ^ k - 1) = lN (n % 2 ^ k) := by rw [fb_andL, Nat.and_two_pow_sub_one_eq_mod]
theorem fb_or_sumL {a k : Nat} (b : Nat) (h : a < 2 ^ k) : lN (2 ^ k * b) ||| lN a = lN (2 ^ k * b + a) := by rw [fb_orL, Nat.two_pow_add_eq_or_of_lt h]
theorem fb_lN_inj {a b : Nat} (ha : a < 2 ^ 63) (hb : b < 2 ^ 63) : lN a = lN b ↔ a = b := by
  constructor
  · intro h
    have h1 : (BitVec.ofNat 64 a).toNat = (BitVec.ofNat 64 b).toNat := congrArg (fun x : Int64 => x.toBitVec.toNat) h
    rw [BitVec.toNat_ofNat, BitVec.toNat_ofNat, Nat.mod_eq_of_lt (by omega), Nat.mod_eq_of_lt (by omega)] at h1
    exact h1
  · rintro rfl; rfl
theorem fb_bit_nat (n j : Nat) : n &&& 2 ^ j = 0 ↔ n.testBit j = false := by
  constructor
  · intro h
    have h1 : (n &&& 2 ^ j).testBit j = false := by rw [h]; simp
    rw [Nat.testBit_and] at h1
    simpa using h1
  · intro h
    apply Nat.eq_of_testBit_eq
    intro i
    rw [Nat.testBit_and]
    by_cases hi : j = i
    · subst hi; simp [h]
    · first | (simp [Nat.testBit_two_pow, hi]; done) | (simp [Nat.testBit_two_pow_of_ne hi]; done)
/-- one bit of a long -/
theorem fb_bitL {n j : Nat} (hj : j < 63) : lN n &&& lN (2 ^ j) = 0 ↔ n.testBit j = false := by
  have h2 : (2 : Nat) ^ j < 2 ^ 63 := Nat.pow_lt_pow_right (by decide) hj
  have hle : n &&& 2 ^ j ≤ 2 ^ j := Nat.and_le_right
  rw [fb_andL, ← fb_bit_nat, show (0 : Int64) = lN 0 from rfl]
  exact fb_lN_inj (by omega) (by decide)
/-- a bit set, a bit taken off -/
theorem fb_bit_set (n j i : Nat) : (n ||| 2 ^ j).testBit i = (n.testBit i || decide (i = j)) := by
  rw [Nat.testBit_or]
  by_cases h : j = i
  · subst h; simp
  · have h2 : ¬ i = j := fun e => h e.symm
    first | (simp [Nat.testBit_two_pow, h, h2]; done) | (simp [Nat.testBit_two_pow_of_ne h, h2]; done)
theorem fb_bit_flip (n j i : Nat) : (n ^^^ 2 ^ j).testBit i = (n.testBit i ^^ decide (i = j)) := by
  rw [Nat.testBit_xor]
  by_cases h : j = i
  · subst h; simp
  · have h2 : ¬ i = j := fun e => h e.symm
    first | (simp [Nat.testBit_two_pow, h, h2]; done) | (simp [Nat.testBit_two_pow_of_ne h, h2]; done)
/-! ===== a stretch of an array written over by a function ===== -/
def fb_put {α : Type} (f g : Nat → α) (a n : Nat) : Nat → α := fun k => if a ≤ k ∧ k < a + n then g (k - a) else f k
theorem fb_put_0 {α : Type} (f g : Nat → α) (a : Nat) : fb_put f g a 0 = f := funext fun k => if_neg (by omega)
theorem fb_put_in {α : Type} {f g : Nat → α} {a n k : Nat} (h1 : a ≤ k) (h2 : k < a + n) : fb_put f g a n k = g (k - a) := if_pos ⟨h1, h2⟩
theorem fb_put_out {α : Type} {f g : Nat → α} {a n k : Nat} (h : k < a ∨ a + n ≤ k) : fb_put f g a n k = f k := if_neg (by omega)
theorem fb_put_succ (f g : Nat → Int32) (a n : Nat) : upd (fb_put f g a n) (a + n) (g n) = fb_put f g a (n + 1) := by
  funext k
  by_cases h : k = a + n
  · subst h
    simp [upd, fb_put]
  · by_cases h1 : a ≤ k ∧ k < a + n
    · have h2 : a ≤ k ∧ k < a + (n + 1) := by omega
      simp only [upd, fb_put, if_neg h, if_pos h1, if_pos h2]
    · have h2 : ¬ (a ≤ k ∧ k < a + (n + 1)) := by omega
      simp only [upd, fb_put, if_neg h, if_neg h1, if_neg h2]
/-- .. from the far end down -/
theorem fb_put_down (f g : Nat → Int32) {a n m : Nat} (h : m < n) : upd (fb_put f (fun k => g (k + (m + 1))) (a + (m + 1)) (n - (m + 1))) (a + m) (g m) = fb_put f (fun k => g (k + m)) (a + m) (n - m) := by
  funext k
  by_cases h0 : k = a + m
  · subst h0
    simp only [upd, if_true]
    rw [fb_put_in (by omega) (by omega)]
    exact congrArg g (by omega)
  · simp only [upd, if_neg h0]
    by_cases h1 : a + (m + 1) ≤ k ∧ k < a + (m + 1) + (n - (m + 1))
    · rw [fb_put_in h1.1 h1.2, fb_put_in (by omega) (by omega)]
      exact congrArg g (by omega)
    · rw [fb_put_out (by omega), fb_put_out (by omega)]
theorem fb_put_cong {α : Type} {f f2 g g2 : Nat → α} {a n : Nat} (hf : ∀ k, (k < a ∨ a + n ≤ k) → f k = f2 k) (hg : ∀ k, k < n → g k = g2 k) : fb_put f g a n = fb_put f2 g2 a n := by
  funext k
  by_cases h : a ≤ k ∧ k < a + n
  · rw [fb_put_in h.1 h.2, fb_put_in h.1 h.2, hg _ (by omega)]
  · rw [fb_put_out (by omega), fb_put_out (by omega), hf _ (by omega)]
/-! ===== the least, the first, the best so far; that there is one alone ===== -/
theorem fb_first {p : Nat → Prop} [DecidablePred p] : ∀ {n : Nat}, (∃ i, i < n ∧ p i) → ∃ i, i < n ∧ p i ∧ ∀ j, j < i → ¬ p j
  | 0, h => by obtain ⟨i, hi, -⟩ := h; exact absurd hi (Nat.not_lt_zero i)
  | n + 1, h => by
    by_cases q : ∃ i, i < n ∧ p i
    · obtain ⟨i, h1, h2⟩ := fb_first q
      exact ⟨i, by omega, h2⟩
    · obtain ⟨i, h1, h2⟩ := h
      have e : i = n := by
        rcases Nat.lt_or_ge i n with r | r
        · exact absurd ⟨i, r, h2⟩ q
        · omega
      subst e
      exact ⟨i, by omega, h2, fun j hj hp => q ⟨j, hj, hp⟩⟩
theorem fb_first_one {p : Nat → Prop} {i j : Nat} (hi : p i) (hi2 : ∀ k, k < i → ¬ p k) (hj : p j) (hj2 : ∀ k, k < j → ¬ p k) : i = j := by
  rcases Nat.lt_trichotomy i j with q | q | q
  · exact absurd hi (hj2 i q)
  · exact q
  · exact absurd hj (hi2 j q)
theorem fb_last {p : Nat → Prop} [DecidablePred p] : ∀ {n : Nat}, (∃ i, i < n ∧ p i) → ∃ i, i < n ∧ p i ∧ ∀ j, i < j → j < n → ¬ p j
  | 0, h => by obtain ⟨i, hi, -⟩ := h; exact absurd hi (Nat.not_lt_zero i)
  | n + 1, h => by
    by_cases q : p n
    · exact ⟨n, by omega, q, fun j h1 h2 => by omega⟩
    · obtain ⟨i, h1, h2⟩ := h
      have hi : i < n := by
        rcases Nat.lt_or_ge i n with r | r
        · exact r
        · have e : i = n := by omega
          subst e
          exact absurd h2 q
      obtain ⟨i2, a1, a2, a3⟩ := fb_last (n := n) ⟨i, hi, h2⟩
      refine ⟨i2, by omega, a2, fun j b1 b2 => ?_⟩
      rcases Nat.lt_or_ge j n with r | r
      · exact a3 j b1 r
      · have e : j = n := by omega
        subst e
        exact q
/-- the first greatest -/
theorem fb_best (f : Nat → Int) : ∀ {n : Nat}, 0 < n → ∃ i, i < n ∧ (∀ j, j < n → f j ≤ f i) ∧ ∀ j, j < i → f j < f i
  | 0, h => absurd h (Nat.lt_irrefl 0)
  | 1, _ => ⟨0, by omega, fun j hj => by have e : j = 0 := by omega
                                         subst e; exact Int.le_refl _, fun j hj => absurd hj (Nat.not_lt_zero j)⟩
  | n + 2, _ => by
    obtain ⟨i, h1, h2, h3⟩ := fb_best f (n := n + 1) (by omega)
    by_cases q : f i < f (n + 1)
    · refine ⟨n + 1, by omega, fun j hj => ?_, fun j hj => ?_⟩
      · rcases Nat.lt_or_ge j (n + 1) with r | r
        · have := h2 j r; omega
        · have e : j = n + 1 := by omega
          subst e; exact Int.le_refl _
      · have := h2 j hj; omega
    · refine ⟨i, by omega, fun j hj => ?_, h3⟩
      rcases Nat.lt_or_ge j (n + 1) with r | r
      · exact h2 j r
      · have e : j = n + 1 := by omega
        subst e; omega
theorem fb_best_one {f : Nat → Int} {n i j : Nat} (hi : i < n) (hi2 : ∀ k, k < n → f k ≤ f i) (hi3 : ∀ k, k < i → f k < f i) (hj : j < n) (hj2 : ∀ k, k < n → f k ≤ f j) (hj3 : ∀ k, k < j → f k < f j) : i = j := by
  rcases Nat.lt_trichotomy i j with q | q | q
  · have a := hj3 i q
    have b := hi2 j hj
    omega
  · exact q
  · have a := hi3 j q
    have b := hj2 i hi
    omega
/-- the first least -/
theorem fb_low (f : Nat → Int) {n : Nat} (h : 0 < n) : ∃ i, i < n ∧ (∀ j, j < n → f i ≤ f j) ∧ ∀ j, j < i → f i < f j := by
  obtain ⟨i, h1, h2, h3⟩ := fb_best (fun k => -f k) h
  exact ⟨i, h1, fun j hj => by have := h2 j hj; omega, fun j hj => by have := h3 j hj; omega⟩
/-! ===== signed ints as whole numbers, within bounds ===== -/
theorem fb_rng (x : Int32) : -2147483648 ≤ x.toInt ∧ x.toInt < 2147483648 := by
  have h1 := Int32.le_toInt x
  have h2 := Int32.toInt_lt x
  omega
theorem fb_bmod {z : Int} (h1 : -2147483648 ≤ z) (h2 : z < 2147483648) : z.bmod (2 ^ 32) = z := by
  rw [Int.bmod_eq_of_le (by omega) (by omega)]
theorem fb_addI {x y : Int32} (h1 : -2147483648 ≤ x.toInt + y.toInt) (h2 : x.toInt + y.toInt < 2147483648) : (x + y).toInt = x.toInt + y.toInt := by
  rw [Int32.toInt_add, fb_bmod h1 h2]
theorem fb_subI {x y : Int32} (h1 : -2147483648 ≤ x.toInt - y.toInt) (h2 : x.toInt - y.toInt < 2147483648) : (x - y).toInt = x.toInt - y.toInt := by
  rw [Int32.toInt_sub, fb_bmod h1 h2]
theorem fb_mulI {x y : Int32} (h1 : -2147483648 ≤ x.toInt * y.toInt) (h2 : x.toInt * y.toInt < 2147483648) : (x * y).toInt = x.toInt * y.toInt := by
  rw [Int32.toInt_mul, fb_bmod h1 h2]
theorem fb_negI {x : Int32} (h : x.toInt ≠ -2147483648) : (-x).toInt = -x.toInt := by
  have := fb_rng x
  rw [Int32.toInt_neg, fb_bmod (by omega) (by omega)]
theorem fb_ofI {z : Int} (h1 : -2147483648 ≤ z) (h2 : z < 2147483648) : (Int32.ofInt z).toInt = z := by
  rw [Int32.toInt_ofInt, fb_bmod h1 h2]
theorem fb_asI (x : Int32) : Int32.ofInt x.toInt = x := Int32.ofInt_toInt x
theorem fb_rngL (x : Int64) : -9223372036854775808 ≤ x.toInt ∧ x.toInt < 9223372036854775808 := by
  have h1 := Int64.le_toInt x
  have h2 := Int64.toInt_lt x
  omega
theorem fb_bmodL {z : Int} (h1 : -9223372036854775808 ≤ z) (h2 : z < 9223372036854775808) : z.bmod (2 ^ 64) = z := by
  rw [Int.bmod_eq_of_le (by omega) (by omega)]
theorem fb_addL {x y : Int64} (h1 : -9223372036854775808 ≤ x.toInt + y.toInt) (h2 : x.toInt + y.toInt < 9223372036854775808) : (x + y).toInt = x.toInt + y.toInt := by
  rw [Int64.toInt_add, fb_bmodL h1 h2]
theorem fb_subL {x y : Int64} (h1 : -9223372036854775808 ≤ x.toInt - y.toInt) (h2 : x.toInt - y.toInt < 9223372036854775808) : (x - y).toInt = x.toInt - y.toInt := by
  rw [Int64.toInt_sub, fb_bmodL h1 h2]
theorem fb_mulL {x y : Int64} (h1 : -9223372036854775808 ≤ x.toInt * y.toInt) (h2 : x.toInt * y.toInt < 9223372036854775808) : (x * y).toInt = x.toInt * y.toInt := by
  rw [Int64.toInt_mul, fb_bmodL h1 h2]
/-! ===== cuts of what is narrow already ===== -/
theorem fb_byte {x : Int32} (h1 : -128 ≤ x.toInt) (h2 : x.toInt < 128) : x.toInt8.toInt32 = x := by
  apply Int32.toInt_inj.1
  rw [Int8.toInt_toInt32, Int32.toInt_toInt8, Int.bmod_eq_of_le (by omega) (by omega)]
theorem fb_short {x : Int32} (h1 : -32768 ≤ x.toInt) (h2 : x.toInt < 32768) : x.toInt16.toInt32 = x := by
  apply Int32.toInt_inj.1
  rw [Int16.toInt_toInt32, Int32.toInt_toInt16, Int.bmod_eq_of_le (by omega) (by omega)]
theorem fb_byte_rng (x : Int32) : -128 ≤ x.toInt8.toInt32.toInt ∧ x.toInt8.toInt32.toInt < 128 := by
  rw [Int8.toInt_toInt32]
  have h1 := Int8.le_toInt x.toInt8
  have h2 := Int8.toInt_lt x.toInt8
  omega
theorem fb_short_rng (x : Int32) : -32768 ≤ x.toInt16.toInt32.toInt ∧ x.toInt16.toInt32.toInt < 32768 := by
  rw [Int16.toInt_toInt32]
  have h1 := Int16.le_toInt x.toInt16
  have h2 := Int16.toInt_lt x.toInt16
  omega
theorem fb_byte_twice (x : Int32) : x.toInt8.toInt32.toInt8.toInt32 = x.toInt8.toInt32 := fb_byte (fb_byte_rng x).1 (fb_byte_rng x).2
theorem fb_short_twice (x : Int32) : x.toInt16.toInt32.toInt16.toInt32 = x.toInt16.toInt32 := fb_short (fb_short_rng x).1 (fb_short_rng x).2
theorem fb_char {n : Nat} (h : n < 65536) : (nI n).toUInt32.toUInt16.toUInt32.toInt32 = nI n := by
  apply Int32.toBitVec_inj.1
  apply BitVec.eq_of_toNat_eq
  have e1 : (nI n).toBitVec.toNat = n := by
    show (BitVec.ofNat 32 n).toNat = n
    rw [BitVec.toNat_ofNat, Nat.mod_eq_of_lt (by omega)]
  have e2 : ((nI n).toUInt32.toUInt16.toUInt32).toNat = n := by
    rw [UInt16.toNat_toUInt32, UInt32.toNat_toUInt16]
    show (nI n).toBitVec.toNat % 2 ^ 16 = n
    rw [e1, Nat.mod_eq_of_lt (by omega)]
  rw [e1]
  exact e2
end
section
/-! numbers as the walks write them; the reference's state -/
def bz (p : Bool) : Nat := if p then 1 else 0
theorem bz_t : bz true = 1 := rfl
theorem bz_f : bz false = 0 := rfl
theorem bz_le (p : Bool) : bz p ≤ 1 := by cases p <;> decide
theorem nI_bz0 {p : Bool} : nI (bz p) = 0 ↔ p = false := by cases p <;> decide
theorem nI_bz1 {p : Bool} : ¬ nI (bz p) = 0 ↔ p = true := by cases p <;> decide
theorem bz_01 (p : Bool) : nI (bz p) = 0 ∨ nI (bz p) = 1 := by cases p <;> decide
theorem nI_z {n : Nat} (h : n < 2 ^ 31) : nI n = 0 ↔ n = 0 := nI_eq h (by decide)
theorem iincN (v k : Nat) : nI v + Int32.ofInt (k : Int) = nI (v + k) := nI_add v k
theorem nI_m1 {n : Nat} (h : n < 2 ^ 31) : ¬ nI n = -1 := by
  intro e
  have h1 := congrArg Int32.toInt e
  rw [nI_toInt h] at h1
  have h2 : (-1 : Int32).toInt = -1 := by decide
  omega
section XN
variable {K : KX} {g : GP} {cc : ByteArray} {own : String} {nL : Nat} {ret : Option FieldType} {hh : List (Nat × Nat × Nat × Nat)} {fr lo mc ms : Nat} {Q : State → Prop} {M : MM} {a b pc : Nat} {L : List (Nat × Value)} {st : List Value}
theorem x_iaddN (F : Fx K g cc own nL ret hh fr lo mc ms) {x y : Nat} (d : decode cc pc = .ok (.iadd, 1)) (kk : XW K g nL Q M a b (pc + 1) L (.int (nI (x + y)) :: st)) : XW K g nL Q M a b pc L (.int (nI y) :: .int (nI x) :: st) := x_iadd F d (by rw [nI_add]; exact kk)
theorem x_imulN (F : Fx K g cc own nL ret hh fr lo mc ms) {x y : Nat} (d : decode cc pc = .ok (.imul, 1)) (kk : XW K g nL Q M a b (pc + 1) L (.int (nI (x * y)) :: st)) : XW K g nL Q M a b pc L (.int (nI y) :: .int (nI x) :: st) := x_imul F d (by rw [pk_mul]; exact kk)
theorem x_isubN (F : Fx K g cc own nL ret hh fr lo mc ms) {x y : Nat} (d : decode cc pc = .ok (.isub, 1)) (h : y ≤ x) (kk : XW K g nL Q M a b (pc + 1) L (.int (nI (x - y)) :: st)) : XW K g nL Q M a b pc L (.int (nI y) :: .int (nI x) :: st) := x_isub F d (by rw [pk_sub h]; exact kk)
theorem x_idivN (F : Fx K g cc own nL ret hh fr lo mc ms) {x y : Nat} (d : decode cc pc = .ok (.idiv, 1)) (h : x < 2 ^ 31) (h0 : 0 < y) (h1 : y < 2 ^ 31) (kk : XW K g nL Q M a b (pc + 1) L (.int (nI (x / y)) :: st)) : XW K g nL Q M a b pc L (.int (nI y) :: .int (nI x) :: st) := x_idiv F d (nI_ne0 h0 h1) (by rw [pk_div h h0 h1]; exact kk)
theorem x_iremN (F : Fx K g cc own nL ret hh fr lo mc ms) {x y : Nat} (d : decode cc pc = .ok (.irem, 1)) (h : x < 2 ^ 31) (h0 : 0 < y) (h1 : y < 2 ^ 31) (kk : XW K g nL Q M a b (pc + 1) L (.int (nI (x % y)) :: st)) : XW K g nL Q M a b pc L (.int (nI y) :: .int (nI x) :: st) := x_irem F d (nI_ne0 h0 h1) (by rw [pk_rem h h0 h1]; exact kk)
/-- the top (or what is below it) written otherwise -/
theorem x_ri0 {x y : Int32} (h : x = y) (kk : XW K g nL Q M a b pc L (.int y :: st)) : XW K g nL Q M a b pc L (.int x :: st) := by subst h; exact kk
theorem x_ri1 {x y : Int32} {v : Value} (h : x = y) (kk : XW K g nL Q M a b pc L (v :: .int y :: st)) : XW K g nL Q M a b pc L (v :: .int x :: st) := by subst h; exact kk
theorem x_rr0 {x y : Nat} (h : x = y) (kk : XW K g nL Q M a b pc L (.ref y :: st)) : XW K g nL Q M a b pc L (.ref x :: st) := by subst h; exact kk
theorem x_rv0 {x y : Value} (h : x = y) (kk : XW K g nL Q M a b pc L (y :: st)) : XW K g nL Q M a b pc L (x :: st) := by subst h; exact kk
theorem x_rl0 {x y : Int64} (h : x = y) (kk : XW K g nL Q M a b pc L (.long y :: st)) : XW K g nL Q M a b pc L (.long x :: st) := by subst h; exact kk
end XN
-- the abstract state: natural numbers, ints, days
abbrev ST : Type := (Nat → Nat → Nat) × (Nat → Nat → Int32) × (Nat → Int64)
def uN (σ : ST) (k i v : Nat) : ST := (fun k' j => if k' = k ∧ j = i then v else σ.1 k' j, σ.2)
def uR (σ : ST) (k i : Nat) (v : Int32) : ST := (σ.1, fun k' j => if k' = k ∧ j = i then v else σ.2.1 k' j, σ.2.2)
def uD (σ : ST) (i : Nat) (v : Int64) : ST := (σ.1, σ.2.1, fun j => if j = i then v else σ.2.2 j)
def mo (k : Nat) : Nat := if k ≤ 5 then k else if k ≤ 17 then k - 2 else if k ≤ 29 then k - 3 else k - 4
def rA (m k : Nat) : Nat := m + mo k
def mK (k : Nat) : Bool := (decide (1 ≤ k) && decide (k ≤ 5)) || (decide (8 ≤ k) && decide (k ≤ 17)) || (decide (19 ≤ k) && decide (k ≤ 29)) || decide (k = 31)
def mL (k : Nat) : Nat := if k ≤ 5 then 16 else if k ≤ 17 then 8 else if k ≤ 29 then 96 else 625
def mF (m : Nat) (σ : ST) : List Value := [.int (nI (σ.1 0 0)), .ref (rA m 1), .ref (rA m 2), .ref (rA m 3), .ref (rA m 4), .ref (rA m 5), .int (nI (σ.1 6 0)), .int (nI (σ.1 7 0)), .ref (rA m 8), .ref (rA m 9), .ref (rA m 10), .ref (rA m 11), .ref (rA m 12), .ref (rA m 13), .ref (rA m 14), .ref (rA m 15), .ref (rA m 16), .ref (rA m 17), .int (nI (σ.1 18 0)), .ref (rA m 19), .ref (rA m 20), .ref (rA m 21), .ref (rA m 22), .ref (rA m 23), .ref (rA m 24), .ref (rA m 25), .ref (rA m 26), .ref (rA m 27), .ref (rA m 28), .ref (rA m 29), .int (nI (σ.1 30 0)), .ref (rA m 31)]
def kZ (k : Nat) : Bool := (decide (24 ≤ k) && decide (k ≤ 27)) || decide (k = 31)
def kR0 (k : Nat) : Bool := decide (k = 16) || decide (k = 22) || decide (k = 23) || decide (k = 28)
def mA (g : GP) (k : Nat) (σ : ST) : va_E := if k = 5 then .inl (gC g 1, 16, .inr (.inl σ.2.2)) else if kZ k then .inl (gC g 2, mL k, .inl (fun i => nI (σ.1 k i))) else if kR0 k then .inl (gC g 0, mL k, .inl (σ.2.1 k)) else .inl (gC g 0, mL k, .inl (fun i => nI (σ.1 k i)))
def RM (g : GP) (m : Nat) (M0 : MM) (σ : ST) (M : MM) : Prop := M m = some (.inr (5, mF m σ)) ∧ (∀ k, mK k = true → M (rA m k) = some (mA g k σ)) ∧ ∀ q, ¬ (m ≤ q ∧ q ≤ m + 27) → M q = M0 q
theorem mo_inj : ∀ k, k < 32 → ∀ k', k' < 32 → mK k = true → mK k' = true → mo k = mo k' → k = k' := by decide +kernel
theorem mo_rng : ∀ k, k < 32 → mK k = true → 1 ≤ mo k ∧ mo k ≤ 27 := by decide +kernel
theorem mK_lt {k : Nat} (h : mK k = true) : k < 32 := by
  unfold mK at h
  simp at h
  omega
theorem rA_inj {m k k' : Nat} (h : mK k = true) (h' : mK k' = true) (e : rA m k = rA m k') : k = k' := mo_inj k (mK_lt h) k' (mK_lt h') h h' (by unfold rA at e; omega)
theorem rA_rng {m k : Nat} (h : mK k = true) : m < rA m k ∧ rA m k ≤ m + 27 := by
  have := mo_rng k (mK_lt h) h
  unfold rA
  omega
theorem RM.frame {g : GP} {m q : Nat} {M0 M : MM} {σ σ' : ST} {e : va_E} (h : RM g m M0 σ M) (hq : m ≤ q ∧ q ≤ m + 27) (h1 : mup M q e m = some (.inr (5, mF m σ'))) (h2 : ∀ k, mK k = true → mup M q e (rA m k) = some (mA g k σ')) : RM g m M0 σ' (mup M q e) := by
  refine ⟨h1, h2, fun x hx => ?_⟩
  rw [mup_n (by intro z; subst z; exact hx hq)]
  exact h.2.2 x hx
theorem RM.arr {g : GP} {m k : Nat} {M0 M : MM} {σ σ' : ST} {e : va_E} (h : RM g m M0 σ M) (hk : mK k = true) (he : e = mA g k σ') (hf : mF m σ' = mF m σ) (ho : ∀ k', mK k' = true → k' ≠ k → mA g k' σ' = mA g k' σ) : RM g m M0 σ' (mup M (rA m k) e) := by
  have hr := rA_rng (m := m) hk
  refine h.frame ⟨by omega, hr.2⟩ ?_ (fun k' hk' => ?_)
  · rw [mup_n (by omega), hf]
    exact h.1
  · by_cases e1 : k' = k
    · subst e1
      rw [mup_s, he]
    · rw [mup_n (fun z => e1 (rA_inj hk' hk z)), ho k' hk' e1]
      exact h.2.1 k' hk'
theorem mA_uN {g : GP} {σ : ST} {k i v k' : Nat} (h : k' ≠ k) : mA g k' (uN σ k i v) = mA g k' σ := by
  unfold mA uN
  simp [h]
theorem mA_uR {g : GP} {σ : ST} {k i k' : Nat} {v : Int32} (h : k' ≠ k) : mA g k' (uR σ k i v) = mA g k' σ := by
  unfold mA uR
  simp [h]
theorem mA_uD {g : GP} {σ : ST} {i k' : Nat} {v : Int64} (h : k' ≠ 5) : mA g k' (uD σ i v) = mA g k' σ := by
  unfold mA uD
  simp [h]
theorem mF_uN {m : Nat} {σ : ST} {k i v : Nat} (h : mK k = true) : mF m (uN σ k i v) = mF m σ := by
  have h0 : k ≠ 0 ∧ k ≠ 6 ∧ k ≠ 7 ∧ k ≠ 18 ∧ k ≠ 30 := by
    unfold mK at h
    simp at h
    omega
  unfold mF uN
  simp [Ne.symm h0.1, Ne.symm h0.2.1, Ne.symm h0.2.2.1, Ne.symm h0.2.2.2.1, Ne.symm h0.2.2.2.2]
theorem upd_nI {f : Nat → Nat} {i v : Nat} : upd (fun j => nI (f j)) i (nI v) = fun j => nI (if j = i then v else f j) := by
  funext j
  unfold upd
  by_cases h : j = i <;> simp [h]
section XM
variable {K : KX} {g : GP} {cc : ByteArray} {own : String} {nL : Nat} {ret : Option FieldType} {hh : List (Nat × Nat × Nat × Nat)} {fr lo mc ms : Nat} {Q : State → Prop} {M M0 : MM} {a b pc : Nat} {L : List (Nat × Value)} {st : List Value} {m : Nat} {σ : ST}
theorem x_mld (F : Fx K g cc own nL ret hh fr lo mc ms) (hR : RM g m M0 σ M) (k : Nat) {n : Nat} (hk : mK k = true) (e : ∀ g σ, mA g k σ = .inl (gC g 0, mL k, .inl (fun i => nI (σ.1 k i)))) (d : decode cc pc = .ok (.iaload, 1)) (hn : n < mL k) (kk : XW K g nL Q M a b (pc + 1) L (.int (nI (σ.1 k n)) :: st)) : XW K g nL Q M a b pc L (.int (nI n) :: .ref (rA m k) :: st) := by
  have hl : mL k < 2 ^ 31 := by unfold mL; split <;> (try split) <;> (try split) <;> decide
  refine x_iald F (by rw [hR.2.1 k hk, e g σ]) (vp_in_nI hn hl) d ?_
  rw [nI_clamp (by omega)]
  exact kk
theorem x_mldZ (F : Fx K g cc own nL ret hh fr lo mc ms) (hR : RM g m M0 σ M) (k : Nat) {n : Nat} (hk : mK k = true) (e : ∀ g σ, mA g k σ = .inl (gC g 2, mL k, .inl (fun i => nI (σ.1 k i)))) (d : decode cc pc = .ok (.baload, 1)) (hn : n < mL k) (kk : XW K g nL Q M a b (pc + 1) L (.int (nI (σ.1 k n)) :: st)) : XW K g nL Q M a b pc L (.int (nI n) :: .ref (rA m k) :: st) := by
  have hl : mL k < 2 ^ 31 := by unfold mL; split <;> (try split) <;> (try split) <;> decide
  refine x_zald F (by rw [hR.2.1 k hk, e g σ]) (vp_in_nI hn hl) d ?_
  rw [nI_clamp (by omega)]
  exact kk
theorem x_mldR (F : Fx K g cc own nL ret hh fr lo mc ms) (hR : RM g m M0 σ M) (k : Nat) {n : Nat} (hk : mK k = true) (e : ∀ g σ, mA g k σ = .inl (gC g 0, mL k, .inl (σ.2.1 k))) (d : decode cc pc = .ok (.iaload, 1)) (hn : n < mL k) (kk : XW K g nL Q M a b (pc + 1) L (.int (σ.2.1 k n) :: st)) : XW K g nL Q M a b pc L (.int (nI n) :: .ref (rA m k) :: st) := by
  have hl : mL k < 2 ^ 31 := by unfold mL; split <;> (try split) <;> (try split) <;> decide
  refine x_iald F (by rw [hR.2.1 k hk, e g σ]) (vp_in_nI hn hl) d ?_
  rw [nI_clamp (by omega)]
  exact kk
theorem x_mldD (F : Fx K g cc own nL ret hh fr lo mc ms) (hR : RM g m M0 σ M) {n : Nat} (d : decode cc pc = .ok (.laload, 1)) (hn : n < 16) (kk : XW K g nL Q M a b (pc + 1) L (.long (σ.2.2 n) :: st)) : XW K g nL Q M a b pc L (.int (nI n) :: .ref (rA m 5) :: st) := by
  refine x_lald F (n := 16) (f := σ.2.2) (by rw [hR.2.1 5 rfl]; rfl) (vp_in_nI hn (by decide)) d ?_
  rw [nI_clamp (by omega)]
  exact kk
theorem x_mst (F : Fx K g cc own nL ret hh fr lo mc ms) (hR : RM g m M0 σ M) (k : Nat) {n v : Nat} (hk : mK k = true) (e : ∀ g σ, mA g k σ = .inl (gC g 0, mL k, .inl (fun i => nI (σ.1 k i)))) (d : decode cc pc = .ok (.iastore, 1)) (hn : n < mL k) (kk : ∀ M', RM g m M0 (uN σ k n v) M' → XW K g nL Q M' a b (pc + 1) L st) : XW K g nL Q M a b pc L (.int (nI v) :: .int (nI n) :: .ref (rA m k) :: st) := by
  have hl : mL k < 2 ^ 31 := by unfold mL; split <;> (try split) <;> (try split) <;> decide
  refine x_iast F (by rw [hR.2.1 k hk, e g σ]) (vp_in_nI hn hl) d (kk _ ?_)
  refine hR.arr hk ?_ (mF_uN hk) (fun k' _ h => mA_uN h)
  rw [nI_clamp (by omega), upd_nI, e g (uN σ k n v)]
  simp [uN]
theorem x_mstR (F : Fx K g cc own nL ret hh fr lo mc ms) (hR : RM g m M0 σ M) (k : Nat) {n : Nat} {v : Int32} (hk : mK k = true) (e : ∀ g σ, mA g k σ = .inl (gC g 0, mL k, .inl (σ.2.1 k))) (d : decode cc pc = .ok (.iastore, 1)) (hn : n < mL k) (kk : ∀ M', RM g m M0 (uR σ k n v) M' → XW K g nL Q M' a b (pc + 1) L st) : XW K g nL Q M a b pc L (.int v :: .int (nI n) :: .ref (rA m k) :: st) := by
  have hl : mL k < 2 ^ 31 := by unfold mL; split <;> (try split) <;> (try split) <;> decide
  refine x_iast F (by rw [hR.2.1 k hk, e g σ]) (vp_in_nI hn hl) d (kk _ ?_)
  refine hR.arr hk ?_ rfl (fun k' _ h => mA_uR h)
  rw [nI_clamp (by omega), e g (uR σ k n v)]
  congr 4
  funext j
  simp [uR, upd]
theorem x_mstZ (F : Fx K g cc own nL ret hh fr lo mc ms) (hR : RM g m M0 σ M) (k : Nat) {n v : Nat} (hk : mK k = true) (e : ∀ g σ, mA g k σ = .inl (gC g 2, mL k, .inl (fun i => nI (σ.1 k i)))) (d : decode cc pc = .ok (.bastore, 1)) (hn : n < mL k) (hv : v ≤ 1) (kk : ∀ M', RM g m M0 (uN σ k n v) M' → XW K g nL Q M' a b (pc + 1) L st) : XW K g nL Q M a b pc L (.int (nI v) :: .int (nI n) :: .ref (rA m k) :: st) := by
  have hl : mL k < 2 ^ 31 := by unfold mL; split <;> (try split) <;> (try split) <;> decide
  refine x_zast F (by rw [hR.2.1 k hk, e g σ]) (vp_in_nI hn hl) d (kk _ ?_)
  refine hR.arr hk ?_ (mF_uN hk) (fun k' _ h => mA_uN h)
  have hb : vp_nar .boolean (nI v) = nI v := by
    have : v = 0 ∨ v = 1 := by omega
    rcases this with rfl | rfl <;> rfl
  rw [nI_clamp (by omega), hb, upd_nI, e g (uN σ k n v)]
  simp [uN]
theorem x_mstD (F : Fx K g cc own nL ret hh fr lo mc ms) (hR : RM g m M0 σ M) {n : Nat} {v : Int64} (d : decode cc pc = .ok (.lastore, 1)) (hn : n < 16) (kk : ∀ M', RM g m M0 (uD σ n v) M' → XW K g nL Q M' a b (pc + 1) L st) : XW K g nL Q M a b pc L (.long v :: .int (nI n) :: .ref (rA m 5) :: st) := by
  refine x_last F (n := 16) (f := σ.2.2) (by rw [hR.2.1 5 rfl]; rfl) (vp_in_nI hn (by decide)) d (kk _ ?_)
  refine hR.arr rfl ?_ rfl (fun k' _ h => mA_uD h)
  rw [nI_clamp (by omega)]
  rfl
/-- the reference's own ints -/
theorem x_mput (F : Fx K g cc own nL ret hh fr lo mc ms) (hR : RM g m M0 σ M) {idx k v : Nat} (s : FP own idx 5 k RX4 TX4 32 .int) (hk : k = 0 ∨ k = 6 ∨ k = 7 ∨ k = 18 ∨ k = 30) (d : decode cc pc = .ok (.putfield idx, 3)) (kk : ∀ M', RM g m M0 (uN σ k 0 v) M' → XW K g nL Q M' a b (pc + 3) L st) : XW K g nL Q M a b pc L (.int (nI v) :: .ref m :: st) := by
  have hm : k < 32 := by omega
  refine x_fput F s hR.1 (by rcases hk with rfl | rfl | rfl | rfl | rfl <;> rfl) d rfl rfl (by show k < 32; exact hm) (kk _ ?_)
  refine hR.frame ⟨Nat.le_refl _, Nat.le_add_right _ _⟩ ?_ (fun k' hk' => ?_)
  · rw [mup_s]
    rcases hk with rfl | rfl | rfl | rfl | rfl <;> rfl
  · have hr := rA_rng (m := m) hk'
    rw [mup_n (by omega), hR.2.1 k' hk']
    have : k' ≠ k := by
      intro z
      subst z
      rcases hk with rfl | rfl | rfl | rfl | rfl <;> cases hk'
    rw [mA_uN this]
end XM
theorem nI_le0 {n : Nat} (h : n < 2 ^ 31) : nI n ≤ 0 ↔ n = 0 := by
  have := nI_leI (a := n) (b := 0) h (by decide)
  exact this.trans Nat.le_zero
theorem nI_bzI {p : Bool} : nI (bz p) = nI 1 ↔ p = true := by cases p <;> decide
theorem nI_bzO {p : Bool} : ¬ nI (bz p) = nI 1 ↔ p = false := by cases p <;> decide
theorem nI_dn {n : Nat} (h : n < 2 ^ 31) : nI n - nI 1 < 0 ↔ n = 0 := by
  have h5 : (0 : Int32).toInt = 0 := by decide
  rw [Int32.lt_iff_toInt_lt]
  rcases Nat.eq_zero_or_pos n with rfl | h0
  · simp; decide
  · rw [pk_sub h0, nI_toInt (by omega)]
    omega
end
section
/-! what the methods answer, over the abstract state (one word for both sides) -/
def cl (x0 : Int32) : Nat := x0.toNatClampNeg
theorem cl_nI {n : Nat} (h : n < 2 ^ 31) : cl (nI n) = n := nI_clamp h
def inR (x0 a0 b0 : Int32) : Bool := decide (a0 ≤ x0) && decide (x0 ≤ b0)
/-- a number among the first n -/
def inN (x0 : Int32) (n : Nat) : Bool := decide (0 ≤ x0.toInt ∧ x0.toInt < n)
theorem inN_t {x0 : Int32} {n : Nat} (hn : n < 2 ^ 31) (h : inN x0 n = true) : ∃ j : Nat, j < n ∧ x0 = nI j := by
  have h1 := of_decide_eq_true h
  exact vp_in_of (vp_in_iff.mpr h1) hn
theorem inN_nI {j n : Nat} (hj : j < 2 ^ 31) : inN (nI j) n = decide (j < n) := by
  unfold inN
  rw [nI_toInt hj]
  simp
theorem inR_N {x0 : Int32} {n : Nat} (hn : n < 2 ^ 31) : inR x0 (nI 0) (nI n - nI 1) = inN x0 n := by
  unfold inR inN
  rw [Bool.eq_iff_iff]
  simp only [Bool.and_eq_true, decide_eq_true_eq, Int32.le_iff_toInt_le]
  have h1 : (nI n - nI 1).toInt = (n : Int) - 1 := by
    rcases Nat.eq_zero_or_pos n with rfl | h0
    · decide
    · rw [pk_sub h0, nI_toInt (by omega)]
      omega
  have h2 : (nI 0).toInt = 0 := by decide
  rw [h1, h2]
  omega
theorem inR_t {x0 : Int32} {a0 b0 : Nat} (ha : a0 < 2 ^ 31) (hb : b0 < 2 ^ 31) (h : inR x0 (nI a0) (nI b0) = true) : ∃ j : Nat, a0 ≤ j ∧ j ≤ b0 ∧ x0 = nI j := by
  unfold inR at h
  simp only [Bool.and_eq_true, decide_eq_true_eq] at h
  obtain ⟨h1, h2⟩ := h
  have h3 : ¬ x0 < 0 := by
    intro z
    have := Int32.lt_iff_toInt_lt.mp z
    have h4 := Int32.le_iff_toInt_le.mp h1
    rw [nI_toInt ha] at h4
    have h5 : (0 : Int32).toInt = 0 := by decide
    omega
  obtain ⟨j, hj, rfl⟩ := nI_of h3
  exact ⟨j, (nI_leI ha hj).mp h1, (nI_leI hj hb).mp h2, rfl⟩
theorem inR_nI {j a0 b0 : Nat} (hj : j < 2 ^ 31) (ha : a0 < 2 ^ 31) (hb : b0 < 2 ^ 31) : inR (nI j) (nI a0) (nI b0) = (decide (a0 ≤ j) && decide (j ≤ b0)) := by
  unfold inR
  rw [Bool.eq_iff_iff]
  simp [nI_leI ha hj, nI_leI hj hb]
def anyB (p : Nat → Bool) : Nat → Bool
  | 0 => false
  | n + 1 => anyB p n || p n
def allB (p : Nat → Bool) : Nat → Bool
  | 0 => true
  | n + 1 => allB p n && p n
theorem anyB_iff {p : Nat → Bool} : ∀ {n : Nat}, anyB p n = true ↔ ∃ k, k < n ∧ p k = true
  | 0 => ⟨fun h => (by cases h), fun ⟨_, h, _⟩ => absurd h (Nat.not_lt_zero _)⟩
  | n + 1 => by
    simp only [anyB, Bool.or_eq_true, anyB_iff (n := n)]
    constructor
    · rintro (⟨k, h1, h2⟩ | h)
      · exact ⟨k, Nat.lt_succ_of_lt h1, h2⟩
      · exact ⟨n, Nat.lt_succ_self n, h⟩
    · rintro ⟨k, h1, h2⟩
      rcases Nat.lt_succ_iff_lt_or_eq.mp h1 with h | rfl
      · exact Or.inl ⟨k, h, h2⟩
      · exact Or.inr h2
theorem allB_iff {p : Nat → Bool} : ∀ {n : Nat}, allB p n = true ↔ ∀ k, k < n → p k = true
  | 0 => ⟨fun _ _ h => absurd h (Nat.not_lt_zero _), fun _ => rfl⟩
  | n + 1 => by
    simp only [allB, Bool.and_eq_true, allB_iff (n := n)]
    constructor
    · rintro ⟨h1, h2⟩ k hk
      rcases Nat.lt_succ_iff_lt_or_eq.mp hk with h | rfl
      · exact h1 k h
      · exact h2
    · intro h
      exact ⟨fun k hk => h k (Nat.lt_succ_of_lt hk), h n (Nat.lt_succ_self n)⟩
def adst (x y : Nat) : Nat := if x < y then y - x else x - y
def plIn (σ : ST) (r : Nat) : Nat := fb_ct (fun j => decide (¬ σ.2.1 22 (12 * r + j) = -1)) 12
def potS (σ : ST) (r : Nat) : Nat := if σ.1 15 r = 0 then 0 else σ.1 13 r + σ.1 14 r * plIn σ r
def tellsS (σ : ST) (r : Nat) (y : Int32) : Int32 := if y = 0 then nI (σ.1 15 r) else if y = 1 then nI (σ.1 17 r) else if y = 2 then nI (plIn σ r) else if y = 3 then nI (potS σ r) else σ.2.1 16 r
def hasE (σ : ST) (r j : Nat) : Bool := anyB (fun k => decide (σ.1 19 (12 * r + k) = j)) (σ.1 17 r)
def getO (σ : ST) (r j p o : Nat) : Bool := decide (o = r) || decide (σ.2.1 22 (12 * o + j) = -1) || (decide (0 < adst (σ.1 10 r + p) (σ.1 10 o + cl (σ.2.1 22 (12 * o + j)))) && decide (adst (σ.1 9 r) (σ.1 9 o) ≤ 400 * adst (σ.1 10 r + p) (σ.1 10 o + cl (σ.2.1 22 (12 * o + j)))))
def getsS (σ : ST) (r j p : Nat) : Bool := allB (getO σ r j p) (σ.1 18 0)
def takS (σ : ST) (r : Nat) (v : Int32) : Nat := fb_ct (fun j => decide (σ.2.1 22 (12 * r + j) = v)) 12
def fitS (σ : ST) (r j p : Nat) : Bool := (σ.1 20 (12 * r + j)).testBit p && decide (takS σ r (nI p) < σ.1 12 r) && getsS σ r j p
/-- the first from i on, of k places, for which f holds; else -1 -/
def fF (f : Nat → Bool) : Nat → Nat → Int32
  | _, 0 => -1
  | i, k + 1 => if f i then nI i else fF f (i + 1) k
def plcS (σ : ST) (r j : Nat) : Int32 := if fitS σ r j (σ.1 21 (12 * r + j)) then nI (σ.1 21 (12 * r + j)) else fF (fitS σ r j) 0 (σ.1 11 r)
def plU (σ : ST) (r j : Nat) : ST := uR σ 22 (12 * r + j) (plcS σ r j)
/-- the reference's numbers are small: what a walk needs so that nothing overflows and each index is in its row -/
def Bd (σ : ST) : Prop := σ.1 6 0 ≤ 16 ∧ σ.1 7 0 ≤ 12 ∧ σ.1 18 0 ≤ 8 ∧
  (∀ r, r < 8 → σ.1 9 r ≤ 2000 ∧ σ.1 10 r ≤ 60 ∧ σ.1 11 r ≤ 4 ∧ σ.1 12 r ≤ 4 ∧ σ.1 13 r ≤ 99999 ∧ σ.1 14 r ≤ 999 ∧ σ.1 15 r ≤ 3 ∧ σ.1 17 r ≤ 12 ∧ σ.1 8 r ≤ 1) ∧
  (∀ k, k < 96 → σ.1 19 k < 12 ∧ σ.1 20 k < 16 ∧ σ.1 21 k < 4 ∧ σ.1 24 k ≤ 1 ∧ σ.1 25 k ≤ 1 ∧ σ.1 26 k ≤ 1 ∧ σ.1 27 k ≤ 1 ∧ σ.1 29 k ≤ 300000) ∧
  (∀ k, k < 96 → (σ.2.1 22 k = -1 ∨ ∃ p, p < 4 ∧ σ.2.1 22 k = nI p) ∧ (σ.2.1 23 k = -1 ∨ ∃ b, b < 16 ∧ σ.2.1 23 k = nI b) ∧ (σ.2.1 28 k = -1 ∨ ∃ v, v ≤ 100 ∧ σ.2.1 28 k = nI v)) ∧
  (∀ b, b < 16 → σ.1 1 b ≤ 1 ∧ σ.1 2 b ≤ 512 ∧ σ.1 3 b ≤ 512 ∧ σ.1 4 b ≤ 25600) ∧ σ.1 30 0 ≤ 65536
theorem tb_sh {a0 p : Nat} (ha : a0 < 2 ^ 31) (hp : p < 31) : (nI a0 >>> (nI p &&& 31)) &&& nI 1 = nI (bz (a0.testBit p)) := by
  have h1 : nI a0 >>> (nI p &&& 31) = nI (a0 / 2 ^ p) := pk_shrN ha (nI p &&& 31) p (by
    have : ∀ q, q < 32 → ((nI q &&& 31).toBitVec.smod 32).toNat = q := by decide
    exact this p (by omega))
  rw [h1]
  have h2 := pk_andN (n := a0 / 2 ^ p) (Nat.lt_of_le_of_lt (Nat.div_le_self _ _) (by omega)) (m := nI 1) 1 (by decide)
  rw [h2, Nat.testBit_eq_decide_div_mod_eq]
  have h3 : a0 / 2 ^ p % 2 < 2 := Nat.mod_lt _ (by decide)
  congr 1
  unfold bz
  rw [Nat.pow_one]
  by_cases h4 : a0 / 2 ^ p % 2 = 1 <;> simp [h4]
  omega
theorem pl_cl {x0 : Int32} {n : Nat} (hn : n ≤ 1000) (h : x0 = -1 ∨ ∃ p, p < n ∧ x0 = nI p) (h1 : ¬ x0 = -1) : x0 = nI (cl x0) ∧ cl x0 < n := by
  rcases h with h | ⟨p, h2, rfl⟩
  · exact absurd h h1
  · rw [cl_nI (by omega)]
    exact ⟨rfl, h2⟩
theorem fF_down {f : Nat → Bool} {n i : Nat} (h : i < n) : fF f (n - (i + 1)) (i + 1) = if f (n - i - 1) then nI (n - i - 1) else fF f (n - i) i := by
  have e1 : n - (i + 1) = n - i - 1 := rfl
  have e2 : n - i - 1 + 1 = n - i := by omega
  rw [e1, fF, e2]
theorem Bd_u0 {σ : ST} {c : Nat} (h : Bd σ) : Bd (uN σ 0 0 c) := h
theorem adst_le (x y : Nat) : adst x y ≤ x + y := by unfold adst; split <;> omega
end
section
/-! specs: draws, rides, money, ranks -/
theorem RM_x {g : GP} {m : Nat} {M0 M : MM} {σ : ST} {k i v : Nat} (h : RM g m M0 σ M) (hk : 32 ≤ k) : RM g m M0 (uN σ k i v) M := by
  obtain ⟨h1, h2, h3⟩ := h
  refine ⟨?_, fun k' hk' => ?_, h3⟩
  · rw [h1]
    congr 3
    unfold mF uN
    simp [show ¬ (0 = k) by omega, show ¬ (6 = k) by omega, show ¬ (7 = k) by omega, show ¬ (18 = k) by omega, show ¬ (30 = k) by omega]
  · have := mK_lt hk'
    rw [h2 k' hk', mA_uN (by omega)]
def bitL (w : Int64) (d : Nat) : Bool := w.toBitVec.getLsbD d
def rest1 (w : Int64) (day i : Nat) : Bool := decide (day + i = 0) || decide (64 < day + i) || !bitL w (day + i - 1)
def restS (w : Int64) (day : Nat) : Bool := allB (rest1 w day) 3
def canS (σ : ST) (r day b : Nat) : Bool := decide (σ.1 1 b = σ.1 8 r) && restS (σ.2.2 b) day
/-- the t-th of those for which f holds, among the first n -/
def fndS (f : Nat → Bool) (t : Nat) : Nat → Int32
  | 0 => -1
  | n + 1 => if f n && decide (fb_ct f n = t) then nI n else fndS f t n
theorem fndS_some {f : Nat → Bool} {t : Nat} : ∀ {n : Nat}, t < fb_ct f n → ∃ b, b < n ∧ f b = true ∧ fb_ct f b = t ∧ fndS f t n = nI b
  | 0, h => absurd h (Nat.not_lt_zero _)
  | n + 1, h => by
    by_cases c : f n = true ∧ fb_ct f n = t
    · exact ⟨n, Nat.lt_succ_self n, c.1, c.2, by simp [fndS, c.1, c.2]⟩
    · have h2 : t < fb_ct f n := by
        rw [fb_ct_succ] at h
        cases hf : f n with
        | false => rw [hf] at h; simpa using h
        | true =>
          rw [hf] at h
          have : ¬ fb_ct f n = t := fun z => c ⟨hf, z⟩
          simp at h
          omega
      obtain ⟨b, h3, h4, h5, h6⟩ := fndS_some h2
      refine ⟨b, by omega, h4, h5, ?_⟩
      rw [← h6]
      have : (f n && decide (fb_ct f n = t)) = false := by
        cases hf : f n with
        | false => rfl
        | true => simp; exact fun z => c ⟨hf, z⟩
      simp [fndS, this]
def bitD (day : Nat) : Int64 := (1 : Int64) <<< ((nI day).toInt64 &&& 63)
def hidS (σ : ST) : Nat := (75 * σ.1 30 0 + 74) % 65537
def dayS (σ : ST) (r j : Nat) : Nat := σ.1 10 r + cl (σ.2.1 22 (12 * r + j))
def manS (σ : ST) (r day : Nat) : Nat := fb_ct (canS σ r day) (σ.1 6 0)
def drwF (σ : ST) (r day : Nat) : Int32 := if manS σ r day = 0 then -1 else fndS (canS σ r day) (hidS σ % manS σ r day) (σ.1 6 0)
def drwU (σ : ST) (r j : Nat) : ST :=
  if manS σ r (dayS σ r j) = 0 then uN (uR σ 23 (12 * r + j) (-1)) 24 (12 * r + j) 0
  else uN (uR (uN (uD (uN σ 30 0 (hidS σ)) (cl (drwF σ r (dayS σ r j))) (σ.2.2 (cl (drwF σ r (dayS σ r j))) ||| bitD (dayS σ r j))) 42 (cl (drwF σ r (dayS σ r j))) (σ.1 42 (cl (drwF σ r (dayS σ r j))) + 1)) 23 (12 * r + j) (drwF σ r (dayS σ r j))) 24 (12 * r + j) 1
def drE (σ : ST) (r p : Nat) : Nat → ST
  | 0 => σ
  | e + 1 => if (drE σ r p e).2.1 22 (12 * r + (drE σ r p e).1 19 (12 * r + e)) = nI p then drwU (drE σ r p e) r ((drE σ r p e).1 19 (12 * r + e)) else drE σ r p e
def drP (σ : ST) (r : Nat) : Nat → ST
  | 0 => σ
  | p + 1 => drE (drP σ r p) r p (σ.1 17 r)
def drnU (σ : ST) (r : Nat) : ST := uN (drP σ r (σ.1 11 r)) 15 r 2
def beaN (σ : ST) (r : Nat) : Nat := fb_ct (fun j => decide (¬ σ.2.1 23 (12 * r + j) = -1)) 12
-- rides: marks a number to the base 26, watches to the base 1000
def mkA (x0 : Nat) : Nat := x0 % 26 + x0 / 26 % 26 + x0 / 676 % 26 + x0 / 17576
def mkB (x0 : Nat) : Nat := x0 / 26 % 26 + x0 / 17576
def rcS (w : Nat) (f : Bool) : Bool := !f && decide (1600 ≤ w / 1000 + w % 1000)
def ridU (σ : ST) (k b mk w : Nat) (f : Bool) : ST :=
  uN (uR (uN (uN (uN (uN (uN σ 2 b (σ.1 2 b + 1)) 3 b (σ.1 3 b + (if rcS w f then 0 else 1))) 4 b (σ.1 4 b + mkB mk)) 24 k 0) 27 k (bz (rcS w f))) 28 k (if rcS w f then nI (mkA mk) else nI 0)) 26 k (bz (rcS w f && decide (mkB mk < 20) && decide (σ.1 25 k = 0)))
def ansU (σ : ST) (r j : Nat) (t : Bool) : ST :=
  if t then drwU (uN (uN (uR (uN σ 26 (12 * r + j) 0) 28 (12 * r + j) (-1)) 27 (12 * r + j) 0) 25 (12 * r + j) 1) r j else uN σ 26 (12 * r + j) 0
-- beasts' ranks
def ahdS (σ : ST) (b o : Nat) : Bool := if ¬ σ.1 3 b * σ.1 2 o = σ.1 3 o * σ.1 2 b then decide (σ.1 3 o * σ.1 2 b < σ.1 3 b * σ.1 2 o) else if ¬ σ.1 4 b * σ.1 2 o = σ.1 4 o * σ.1 2 b then decide (σ.1 4 o * σ.1 2 b < σ.1 4 b * σ.1 2 o) else decide (b < o)
def rkbS (σ : ST) (b : Nat) : Int32 := if σ.1 2 b = 0 then -1 else nI (fb_ct (fun o => decide (¬ o = b) && decide (0 < σ.1 2 o) && ahdS σ o b) (σ.1 6 0))
def toldS (σ : ST) (b : Nat) (y : Int32) : Int32 := if y = 0 then nI (σ.1 1 b) else if y = 1 then nI (σ.1 2 b) else if y = 2 then nI (σ.1 3 b) else if y = 3 then nI (σ.1 4 b) else rkbS σ b
-- money
def payB (σ : ST) (r : Nat) : Bool := decide (σ.1 15 r = 2) && allB (fun j => decide (σ.1 24 (12 * r + j) = 0) && decide (σ.1 26 (12 * r + j) = 0)) 12
def shS (pot a0 b0 : Nat) : Nat := fb_sm (fun i => pot * (50 - 10 * (a0 + i)) / 100) (min b0 4 + 1 - a0)
def couN (σ : ST) (r : Nat) : Nat := fb_ct (fun j => decide (¬ σ.1 27 (12 * r + j) = 0)) 12
def betS (σ : ST) (r : Nat) (v : Int32) : Nat := fb_ct (fun e => decide (¬ σ.1 27 (12 * r + e) = 0) && decide (v < σ.2.1 28 (12 * r + e))) 12
def likS (σ : ST) (r : Nat) (v : Int32) : Nat := fb_ct (fun e => decide (¬ σ.1 27 (12 * r + e) = 0) && decide (σ.2.1 28 (12 * r + e) = v)) 12
def gotS (σ : ST) (r j : Nat) : Nat := if σ.1 27 (12 * r + j) = 0 then 0 else
  shS (potS σ r) (betS σ r (σ.2.1 28 (12 * r + j)) + 1) (betS σ r (σ.2.1 28 (12 * r + j)) + likS σ r (σ.2.1 28 (12 * r + j))) / likS σ r (σ.2.1 28 (12 * r + j)) + shS (potS σ r) (couN σ r + 1) 4 / couN σ r
def gotU (σ : ST) (r : Nat) : Nat → ST
  | 0 => σ
  | j + 1 => uN (gotU σ r j) 29 (12 * r + j) (gotS σ r j)
def lefS (σ : ST) (r : Nat) : Nat → Int32
  | 0 => nI (potS σ r)
  | j + 1 => lefS σ r j - nI (gotS σ r j)
def payU (σ : ST) (r : Nat) : ST := uN (uR (gotU σ r 12) 16 r (lefS σ r 12)) 15 r 3
def allS (σ : ST) (j : Nat) : Nat := fb_sm (fun r => σ.1 29 (12 * r + j)) (σ.1 18 0)
def ahrS (σ : ST) (j r : Nat) : Nat := fb_ct (fun o => decide (σ.1 29 (12 * r + j) < σ.1 29 (12 * o + j)) || (decide (σ.1 29 (12 * o + j) = σ.1 29 (12 * r + j)) && decide (o < r))) (σ.1 18 0)
def cntS (σ : ST) (j : Nat) : Nat := fb_sm (fun r => if ahrS σ j r < 3 then σ.1 29 (12 * r + j) else 0) (σ.1 18 0)
def btrS (σ : ST) (a0 b0 : Nat) : Bool := if ¬ cntS σ a0 = cntS σ b0 then decide (cntS σ b0 < cntS σ a0) else if ¬ allS σ a0 = allS σ b0 then decide (allS σ b0 < allS σ a0) else decide (a0 < b0)
def rkrS (σ : ST) (k : Nat) : Nat := fb_ct (fun e => decide (¬ e = k) && btrS σ e k) (σ.1 7 0)
def rdrS (σ : ST) (x0 : Int32) : Nat → Int32
  | 0 => -1
  | k + 1 => if nI (rkrS σ k) = x0 then nI k else rdrS σ x0 k
def sumS (σ : ST) (r : Nat) : Nat → Int32
  | 0 => σ.2.1 16 r
  | j + 1 => sumS σ r j + nI (σ.1 29 (12 * r + j))
def balR (σ : ST) (r : Nat) : Bool := decide (¬ σ.1 15 r = 3) || decide (sumS σ r 12 = nI (potS σ r))
def dayB (σ : ST) (b : Nat) : Bool := decide (((σ.2.2 b &&& (σ.2.2 b >>> ((1 : Int32).toInt64 &&& 63))) &&& 9223372036854775807) = 0)
def balS (σ : ST) : Bool := allB (balR σ) (σ.1 18 0) && allB (dayB σ) (σ.1 6 0)
-- the codes of the exceptions
def cdRR (σ : ST) (x0 y0 : Int32) : Nat := if inN x0 (σ.1 18 0) && inN y0 (σ.1 7 0) then 0 else 1
def cdBe (σ : ST) (x0 : Int32) : Nat := if inR x0 (nI 0) (nI 1) = false then 1 else if σ.1 6 0 = 16 then 2 else 0
def cdRd (σ : ST) : Nat := if σ.1 7 0 = 12 then 1 else 0
def okRo (a0 a1 a2 a3 a4 a5 a6 : Int32) : Bool := (inR a0 (nI 0) (nI 1) && inR a1 (nI 0) (nI 2000) && inR a2 (nI 0) (nI 60) && inR a3 (nI 1) (nI 4)) && (inR a4 (nI 1) (nI 4) && inR a5 (nI 0) (nI 99999) && inR a6 (nI 0) (nI 999))
def cdRo (σ : ST) (a0 a1 a2 a3 a4 a5 a6 : Int32) : Nat := if okRo a0 a1 a2 a3 a4 a5 a6 = false then 1 else if σ.1 18 0 = 8 then 2 else 0
def cdRI (σ : ST) (x0 y0 : Int32) : Nat := if inN x0 (σ.1 18 0) = false then 1 else if inR y0 (nI 0) (nI 4) = false then 2 else 0
def mayE (σ : ST) (x0 s0 w0 : Int32) : Bool := decide (0 < s0) && decide (s0 < nI 1 <<< (nI (σ.1 11 (cl x0)) &&& 31)) && inR w0 (nI 0) (nI 3) && decide ((s0 >>> (w0 &&& 31)) &&& nI 1 = nI 1)
def cdEn (σ : ST) (x0 y0 s0 w0 : Int32) : Nat := if (inN x0 (σ.1 18 0) && inN y0 (σ.1 7 0)) = false then 1 else if mayE σ x0 s0 w0 = false then 2 else if ¬ σ.1 15 (cl x0) = 0 ∨ hasE σ (cl x0) (cl y0) = true then 3 else 0
def cdSt (σ : ST) (x0 : Int32) (v : Nat) : Nat := if inN x0 (σ.1 18 0) = false then 1 else if ¬ σ.1 15 (cl x0) = v then 2 else 0
def cdMo (σ : ST) (x0 : Int32) : Nat := if inN x0 (σ.1 18 0) then 0 else 1
def cdHi (x0 : Int32) : Nat := if inR x0 (nI 0) (nI 65536) then 0 else 1
def cdRi (σ : ST) (x0 y0 mk w : Int32) : Nat := if (inN x0 (σ.1 18 0) && inN y0 (σ.1 7 0)) = false then 1 else if (inR mk (nI 0) (nI 456975) && inR w (nI 0) (nI 999999)) = false then 2 else if ¬ σ.1 15 (cl x0) = 2 ∨ σ.1 24 (12 * cl x0 + cl y0) = 0 then 3 else 0
def cdAn (σ : ST) (x0 y0 : Int32) : Nat := if (inN x0 (σ.1 18 0) && inN y0 (σ.1 7 0)) = false then 1 else if σ.1 26 (12 * cl x0 + cl y0) = 0 then 2 else 0
def cdBI (σ : ST) (x0 y0 : Int32) : Nat := if inN x0 (σ.1 6 0) = false then 1 else if inR y0 (nI 0) (nI 4) = false then 2 else 0
def cdPa (σ : ST) (x0 : Int32) : Nat := if inN x0 (σ.1 18 0) = false then 1 else if payB σ (cl x0) = false then 2 else 0
def cdCo (σ : ST) (x0 : Int32) : Nat := if inN x0 (σ.1 7 0) then 0 else 1
def cdRk (x0 : Int32) : Nat := if inR x0 (nI 0) (nI 11) then 0 else 1
-- new states of the calls that write
def beU (σ : ST) (x0 : Int32) : ST := uN (uN σ 1 (σ.1 6 0) (cl x0)) 6 0 (σ.1 6 0 + 1)
def rdU (σ : ST) : ST := uN σ 7 0 (σ.1 7 0 + 1)
def roA (σ : ST) (q : Nat) (a0 a1 a2 a3 a4 a5 a6 : Int32) : ST := uN (uN (uN (uN (uN (uN (uN σ 8 q (cl a0)) 9 q (cl a1)) 10 q (cl a2)) 11 q (cl a3)) 12 q (cl a4)) 13 q (cl a5)) 14 q (cl a6)
def roB (σ : ST) (q : Nat) : Nat → ST
  | 0 => σ
  | j + 1 => uR (uR (uR (roB σ q j) 22 (12 * q + j) (-1)) 23 (12 * q + j) (-1)) 28 (12 * q + j) (-1)
def roU (σ : ST) (a0 a1 a2 a3 a4 a5 a6 : Int32) : ST := uN (roB (roA σ (σ.1 18 0) a0 a1 a2 a3 a4 a5 a6) (σ.1 18 0) 12) 18 0 (σ.1 18 0 + 1)
def enU (σ : ST) (r j s0 w0 : Nat) : ST := uN (uN (uN (uN (uN σ 19 (12 * r + σ.1 17 r) j) 20 (12 * r + j) s0) 21 (12 * r + j) w0) 41 (12 * r + j) 1) 17 r (σ.1 17 r + 1)
def clE (σ : ST) (r : Nat) : Nat → ST
  | 0 => σ
  | e + 1 => plU (clE σ r e) r ((clE σ r e).1 19 (12 * r + e))
def clU (σ : ST) (r : Nat) : ST := uN (clE σ r (σ.1 17 r)) 15 r 1
end
section
/-! what the writes keep; what a code 0 says -/
theorem cdRR_0 {σ : ST} {x0 y0 : Int32} (hB : Bd σ) (h : cdRR σ x0 y0 = 0) : ∃ r j, r < σ.1 18 0 ∧ j < σ.1 7 0 ∧ x0 = nI r ∧ y0 = nI j := by
  obtain ⟨h6, h7, h18, -⟩ := hB
  have h1 : inN x0 (σ.1 18 0) = true ∧ inN y0 (σ.1 7 0) = true := by
    unfold cdRR at h
    split at h
    · rename_i c
      simpa using c
    · cases h
  obtain ⟨r, h2, h3⟩ := inN_t (by omega) h1.1
  obtain ⟨j, h4, h5⟩ := inN_t (by omega) h1.2
  exact ⟨r, j, h2, h4, h3, h5⟩
theorem andB {p q : Bool} (h : (p && q) = false) : ¬ (p = true ∧ q = true) := by simpa using h
theorem gotU_N {σ : ST} {r k : Nat} (h : k ≠ 29) : ∀ j, (gotU σ r j).1 k = σ.1 k
  | 0 => rfl
  | j + 1 => by
    refine Eq.trans ?_ (gotU_N (σ := σ) (r := r) h j)
    funext i
    simp [gotU, uN, h]
theorem gotU_2 {σ : ST} {r : Nat} : ∀ j, (gotU σ r j).2 = σ.2
  | 0 => rfl
  | j + 1 => gotU_2 j
theorem clE_1 {σ : ST} {r : Nat} : ∀ e, (clE σ r e).1 = σ.1
  | 0 => rfl
  | e + 1 => clE_1 e
theorem clE_R {σ : ST} {r k : Nat} (h : k ≠ 22) : ∀ e, (clE σ r e).2.1 k = σ.2.1 k
  | 0 => rfl
  | e + 1 => by
    refine Eq.trans ?_ (clE_R (σ := σ) (r := r) h e)
    funext i
    simp [clE, plU, uR, h]
theorem clE_D {σ : ST} {r : Nat} : ∀ e, (clE σ r e).2.2 = σ.2.2
  | 0 => rfl
  | e + 1 => clE_D e
theorem fF_rng {f : Nat → Bool} : ∀ (k i : Nat), fF f i k = -1 ∨ ∃ p, i ≤ p ∧ p < i + k ∧ f p = true ∧ fF f i k = nI p
  | 0, i => Or.inl rfl
  | k + 1, i => by
    unfold fF
    split
    · rename_i c
      exact Or.inr ⟨i, Nat.le_refl _, by omega, c, rfl⟩
    · rcases fF_rng k (i + 1) with h | ⟨p, h1, h2, h3, h4⟩
      · exact Or.inl h
      · exact Or.inr ⟨p, by omega, by omega, h3, h4⟩
theorem plcS_rng {σ : ST} {r j : Nat} (hB : Bd σ) (hr : r < 8) (hj : j < 12) : plcS σ r j = -1 ∨ ∃ p, p < 4 ∧ plcS σ r j = nI p := by
  obtain ⟨h6, h7, h18, hr8, hk96, -⟩ := hB
  have b1 := hr8 r hr
  have b2 := hk96 (12 * r + j) (by omega)
  unfold plcS
  split
  · exact Or.inr ⟨_, b2.2.2.1, rfl⟩
  · rcases fF_rng (f := fitS σ r j) (σ.1 11 r) 0 with h | ⟨p, h1, h2, h3, h4⟩
    · exact Or.inl h
    · exact Or.inr ⟨p, by omega, h4⟩
theorem Bd_pl {σ : ST} {r j : Nat} (hB : Bd σ) (hr : r < 8) (hj : j < 12) : Bd (plU σ r j) := by
  have h := plcS_rng hB hr hj
  obtain ⟨h6, h7, h18, hr8, hk96, hp96, hb16, hh⟩ := hB
  refine ⟨h6, h7, h18, hr8, hk96, fun k hk => ?_, hb16, hh⟩
  have b := hp96 k hk
  refine ⟨?_, by simpa [plU, uR] using b.2.1, by simpa [plU, uR] using b.2.2⟩
  by_cases e : k = 12 * r + j
  · subst e
    simpa [plU, uR] using h
  · simpa [plU, uR, e] using b.1
theorem Bd_cl {σ : ST} {r : Nat} (hB : Bd σ) (hr : r < 8) : ∀ e, e ≤ 12 → Bd (clE σ r e)
  | 0, _ => hB
  | e + 1, h => by
    have h1 := Bd_cl hB hr e (by omega)
    exact Bd_pl h1 hr (by rw [clE_1]; exact (hB.2.2.2.2.1 (12 * r + e) (by omega)).1)
theorem drwU_N {σ : ST} {r j k : Nat} (h : k ≠ 24 ∧ k ≠ 30 ∧ k ≠ 42) : (drwU σ r j).1 k = σ.1 k := by
  funext i
  unfold drwU
  split <;> simp [uN, uR, uD, h.1, h.2.1, h.2.2]
theorem drwU_R {σ : ST} {r j k : Nat} (h : k ≠ 23) : (drwU σ r j).2.1 k = σ.2.1 k := by
  funext i
  unfold drwU
  split <;> simp [uN, uR, uD, h]
theorem drE_N {σ : ST} {r p k : Nat} (h : k ≠ 24 ∧ k ≠ 30 ∧ k ≠ 42) : ∀ e, (drE σ r p e).1 k = σ.1 k
  | 0 => rfl
  | e + 1 => by
    refine Eq.trans ?_ (drE_N (σ := σ) (r := r) (p := p) h e)
    simp only [drE]
    split
    · rw [drwU_N h]
    · rfl
theorem drE_R {σ : ST} {r p k : Nat} (h : k ≠ 23) : ∀ e, (drE σ r p e).2.1 k = σ.2.1 k
  | 0 => rfl
  | e + 1 => by
    refine Eq.trans ?_ (drE_R (σ := σ) (r := r) (p := p) h e)
    simp only [drE]
    split
    · rw [drwU_R h]
    · rfl
theorem drP_N {σ : ST} {r k : Nat} (h : k ≠ 24 ∧ k ≠ 30 ∧ k ≠ 42) : ∀ p, (drP σ r p).1 k = σ.1 k
  | 0 => rfl
  | p + 1 => (drE_N h _).trans (drP_N h p)
theorem drP_R {σ : ST} {r k : Nat} (h : k ≠ 23) : ∀ p, (drP σ r p).2.1 k = σ.2.1 k
  | 0 => rfl
  | p + 1 => (drE_R h _).trans (drP_R h p)
theorem drwF_rng {σ : ST} {r day : Nat} (hB : Bd σ) : drwF σ r day = -1 ∨ ∃ b, b < 16 ∧ drwF σ r day = nI b := by
  unfold drwF
  split
  · exact Or.inl rfl
  · rename_i c
    obtain ⟨b, h1, -, -, h2⟩ := fndS_some (f := canS σ r day) (n := σ.1 6 0) (t := hidS σ % manS σ r day) (Nat.mod_lt _ (Nat.pos_of_ne_zero c))
    exact Or.inr ⟨b, by have := hB.1; omega, h2⟩
theorem Bd_drw {σ : ST} {r j : Nat} (hB : Bd σ) : Bd (drwU σ r j) := by
  have h := drwF_rng (r := r) (day := dayS σ r j) hB
  obtain ⟨h6, h7, h18, hr8, hk96, hp96, hb16, hh⟩ := hB
  have hh2 : hidS σ ≤ 65536 := by unfold hidS; omega
  refine ⟨by rw [drwU_N (by decide)]; exact h6, by rw [drwU_N (by decide)]; exact h7, by rw [drwU_N (by decide)]; exact h18, fun r' hr' => ?_, fun k hk => ?_, fun k hk => ?_, fun b hb => ?_, ?_⟩
  · have := hr8 r' hr'
    simpa [drwU_N] using this
  · have b := hk96 k hk
    rw [drwU_N (k := 19) (by decide), drwU_N (k := 20) (by decide), drwU_N (k := 21) (by decide), drwU_N (k := 25) (by decide), drwU_N (k := 26) (by decide), drwU_N (k := 27) (by decide), drwU_N (k := 29) (by decide)]
    refine ⟨b.1, b.2.1, b.2.2.1, ?_, b.2.2.2.2⟩
    unfold drwU
    by_cases e : k = 12 * r + j <;> split <;> simp [uN, uR, uD, e] <;> simpa [e] using b.2.2.2.1
  · have b := hp96 k hk
    rw [drwU_R (k := 22) (by decide), drwU_R (k := 28) (by decide)]
    refine ⟨b.1, ?_, b.2.2⟩
    unfold drwU
    by_cases e : k = 12 * r + j <;> split <;> simp [uN, uR, uD, e] <;> first | exact h | (simpa [e] using b.2.1)
  · have := hb16 b hb
    simpa [drwU_N] using this
  · unfold drwU
    split <;> simp [uN, uR, uD] <;> assumption
theorem Bd_drE {σ : ST} {r p : Nat} (hB : Bd σ) : ∀ e, Bd (drE σ r p e)
  | 0 => hB
  | e + 1 => by
    simp only [drE]
    split
    · exact Bd_drw (Bd_drE hB e)
    · exact Bd_drE hB e
theorem Bd_drP {σ : ST} {r : Nat} (hB : Bd σ) : ∀ p, Bd (drP σ r p)
  | 0 => hB
  | p + 1 => Bd_drE (Bd_drP hB p) _
theorem nI_suc {a0 : Nat} : nI (a0 + 1) - nI 1 = nI a0 := by
  rw [pk_sub (by omega)]
  rfl
theorem dn_inc {a0 : Nat} : nI a0 - nI 1 + Int32.ofInt 1 = nI (a0 + 1) - nI 1 := by
  rw [nI_suc]
  show nI a0 - nI 1 + nI 1 = nI a0
  exact Int32.sub_add_cancel _ _
theorem dn_toInt {a0 : Nat} (h : a0 < 2 ^ 30) : (nI a0 - nI 1).toInt = (a0 : Int) - 1 := by
  rw [pk_sub_toInt h (by decide)]
  rfl
theorem dn_gt {a0 b0 : Nat} (ha : a0 < 2 ^ 30) (hb : b0 < 2 ^ 30) : nI b0 < nI a0 - nI 1 ↔ b0 + 1 < a0 := by
  rw [Int32.lt_iff_toInt_lt, dn_toInt ha, nI_toInt (by omega)]
  omega
theorem dn_inR {a0 : Nat} (ha : a0 < 2 ^ 30) : inR (nI a0 - nI 1) (nI 0) (nI 63) = (!(decide (a0 = 0) || decide (64 < a0))) := by
  unfold inR
  rw [Bool.eq_iff_iff]
  simp only [Bool.and_eq_true, decide_eq_true_eq, Int32.le_iff_toInt_le, dn_toInt ha]
  have h1 : (nI 0).toInt = 0 := by decide
  have h2 : (nI 63).toInt = 63 := by decide
  rw [h1, h2]
  simp
  omega
theorem bit_and1 (w : Int64) {d : Nat} (hd : d < 64) : ((w >>> ((nI d).toInt64 &&& 63)) &&& 1) = 0 ↔ bitL w d = false := by
  have e1 : ((nI d).toInt64 &&& 63) = Int64.ofNat d := by
    have : ∀ q, q < 64 → ((nI q).toInt64 &&& 63) = Int64.ofNat q := by decide
    exact this d hd
  have e2 : (Int64.ofNat d).toBitVec.smod 64 = BitVec.ofNat 64 d := by
    have : ∀ q, q < 64 → (Int64.ofNat q).toBitVec.smod 64 = BitVec.ofNat 64 q := by decide
    exact this d hd
  rw [e1, ← Int64.toBitVec_inj]
  have e3 : ((w >>> Int64.ofNat d) &&& 1).toBitVec = (w.toBitVec.sshiftRight d) &&& 1#64 := by
    rw [Int64.toBitVec_and, Int64.toBitVec_shiftRight, e2]
    congr 1
    show w.toBitVec.sshiftRight (BitVec.ofNat 64 d).toNat = w.toBitVec.sshiftRight d
    rw [BitVec.toNat_ofNat, Nat.mod_eq_of_lt (by omega)]
  rw [e3]
  unfold bitL
  have e5 : (0 : Int64).toBitVec = 0#64 := rfl
  rw [e5]
  have k0 : (w.toBitVec.sshiftRight d).getLsbD 0 = w.toBitVec.getLsbD d := by
    rw [BitVec.getLsbD_sshiftRight]
    simp [hd]
  constructor
  · intro h
    have h1 := congrArg (fun z : BitVec 64 => z.getLsbD 0) h
    simp only [BitVec.getLsbD_and, k0, BitVec.getLsbD_zero] at h1
    simpa using h1
  · intro h
    apply BitVec.eq_of_getLsbD_eq
    intro i hi
    simp only [BitVec.getLsbD_and, BitVec.getLsbD_zero]
    by_cases h0 : i = 0
    · subst h0
      rw [k0, h, Bool.false_and]
    · have : (1#64).getLsbD i = false := by
        simp [BitVec.getLsbD_one, h0]
      rw [this, Bool.and_false]
theorem drw_bit {w : Int64} {day i : Nat} (hd : day + i < 70) (h : ¬ (day + i = 0 ∨ 64 < day + i)) : ((w >>> ((nI (day + i - 1)).toInt64 &&& 63)) &&& 1) = 0 ↔ bitL w (day + i - 1) = false := bit_and1 w (by omega)
theorem inN_cl {x0 : Int32} {n : Nat} (hn : n < 2 ^ 31) (h : inN x0 n = true) : cl x0 < n ∧ x0 = nI (cl x0) := by
  obtain ⟨j, hj, rfl⟩ := inN_t hn h
  rw [cl_nI (by omega)]
  exact ⟨hj, rfl⟩
theorem drwF_some {σ : ST} {r day : Nat} (h : ¬ manS σ r day = 0) : ∃ b, b < σ.1 6 0 ∧ canS σ r day b = true ∧ fb_ct (canS σ r day) b = hidS σ % manS σ r day ∧ drwF σ r day = nI b := by
  obtain ⟨b, h1, h2, h3, h4⟩ := fndS_some (f := canS σ r day) (n := σ.1 6 0) (t := hidS σ % manS σ r day) (Nat.mod_lt _ (Nat.pos_of_ne_zero h))
  exact ⟨b, h1, h2, h3, by unfold drwF; rw [if_neg h]; exact h4⟩
theorem if3 {c : Prop} [Decidable c] {a0 b0 n : Nat} (h1 : a0 < n) (h2 : b0 < n) : (if c then a0 else b0) < n := by split <;> assumption
theorem lt_cdRR {σ : ST} {x0 y0 : Int32} : cdRR σ x0 y0 < 1000 := if3 (by decide) (by decide)
theorem lt_cdBe {σ : ST} {x0 : Int32} : cdBe σ x0 < 1000 := if3 (by decide) (if3 (by decide) (by decide))
theorem lt_cdRd {σ : ST} : cdRd σ < 1000 := if3 (by decide) (by decide)
theorem lt_cdRo {σ : ST} {a0 a1 a2 a3 a4 a5 a6 : Int32} : cdRo σ a0 a1 a2 a3 a4 a5 a6 < 1000 := if3 (by decide) (if3 (by decide) (by decide))
theorem lt_cdRI {σ : ST} {x0 y0 : Int32} : cdRI σ x0 y0 < 1000 := if3 (by decide) (if3 (by decide) (by decide))
theorem lt_cdEn {σ : ST} {x0 y0 s0 w0 : Int32} : cdEn σ x0 y0 s0 w0 < 1000 := if3 (by decide) (if3 (by decide) (if3 (by decide) (by decide)))
theorem lt_cdSt {σ : ST} {x0 : Int32} {v : Nat} : cdSt σ x0 v < 1000 := if3 (by decide) (if3 (by decide) (by decide))
theorem lt_cdMo {σ : ST} {x0 : Int32} : cdMo σ x0 < 1000 := if3 (by decide) (by decide)
theorem lt_cdHi {x0 : Int32} : cdHi x0 < 1000 := if3 (by decide) (by decide)
theorem lt_cdRi {σ : ST} {x0 y0 mk w : Int32} : cdRi σ x0 y0 mk w < 1000 := if3 (by decide) (if3 (by decide) (if3 (by decide) (by decide)))
theorem lt_cdAn {σ : ST} {x0 y0 : Int32} : cdAn σ x0 y0 < 1000 := if3 (by decide) (if3 (by decide) (by decide))
theorem lt_cdBI {σ : ST} {x0 y0 : Int32} : cdBI σ x0 y0 < 1000 := if3 (by decide) (if3 (by decide) (by decide))
theorem lt_cdPa {σ : ST} {x0 : Int32} : cdPa σ x0 < 1000 := if3 (by decide) (if3 (by decide) (by decide))
theorem lt_cdCo {σ : ST} {x0 : Int32} : cdCo σ x0 < 1000 := if3 (by decide) (by decide)
theorem lt_cdRk {x0 : Int32} : cdRk x0 < 1000 := if3 (by decide) (by decide)
end
section
/-! walks of the reference, by program (wip/whole/m_x4a.py) -/
def unS (x : Nat) : Nat := if x = 0 then 1 else if x = 1 then 5 else if x = 2 then 25 else 125
set_option maxHeartbeats 4000000 in
set_option maxRecDepth 100000 in
theorem c_X4_thrown {l : Launch} (hl : l.stackTraces = false) {g : GP} {M : MM} {m : Nat} {M0 : MM} {σ : ST}  (hR : RM g m M0 σ M) : CT l g yX4_thrown cX4_thrown 1 (some .int) 0 0 0 0 [.ref (m)] M (pI (fun r9 M9 => nI (σ.1 0 0) = r9 ∧ M = M9)) nX := by
  refine ct_of [(0, .ref (m))] (by decide) hl (Nat.le_of_ble_eq_true rfl) rfl ?_
  intro K hK F
  subst hK
  have F : Fx K g cX4_thrown RX4 1 (some .int) [] 0 0 0 0 := F
  obtain ⟨Q, hQ⟩ : ∃ Q, Q = MQx K g (pI (fun r9 M9 => nI (σ.1 0 0) = r9 ∧ M = M9)) nX 0 0 := ⟨_, rfl⟩
  rw [← hQ]
  refine x_aload_n F 0 dX4_thrown_0 rfl ?_
  refine x_fget F f_X4_97 hR.1 (v := .int (nI (σ.1 0 0))) dX4_thrown_1 rfl ?_
  rw [hQ]
  exact x_iret F dX4_thrown_4 (by decide) ⟨_, rfl, rfl, rfl⟩
set_option maxHeartbeats 4000000 in
set_option maxRecDepth 100000 in
theorem c_X4_isIn {l : Launch} (hl : l.stackTraces = false) {g : GP} {M : MM} {x0 y0 z0 : Int32}  : CT l g yX4_isIn cX4_isIn 3 (some .boolean) 0 0 0 0 [.int (x0), .int (y0), .int (z0)] M (pI (fun r9 M9 => nI (bz (inR x0 y0 z0)) = r9 ∧ M = M9)) nX := by
  refine ct_of [(0, .int (x0)), (1, .int (y0)), (2, .int (z0))] (by decide) hl (Nat.le_of_ble_eq_true rfl) rfl ?_
  intro K hK F
  subst hK
  have F : Fx K g cX4_isIn RX4 3 (some .boolean) [] 0 0 0 0 := F
  obtain ⟨Q, hQ⟩ : ∃ Q, Q = MQx K g (pI (fun r9 M9 => nI (bz (inR x0 y0 z0)) = r9 ∧ M = M9)) nX 0 0 := ⟨_, rfl⟩
  rw [← hQ]
  refine x_iload_n F 0 dX4_isIn_0 rfl ?_
  refine x_iload_n F 1 dX4_isIn_1 rfl ?_
  refine x_icmp_lt F 14 dX4_isIn_2 (by decide) (fun c2 => ?_) (fun c2 => ?_)
  · have c2 := Int32.not_le.mpr c2
    refine x_iconst F (nI 0) dX4_isIn_14 (by decide) ?_
    rw [hQ]
    exact x_zret F dX4_isIn_15 (by decide) (Or.inl rfl) ⟨_, rfl, by simp [inR, bz, *], rfl⟩
  · refine x_iload_n F 0 dX4_isIn_5 rfl ?_
    refine x_iload_n F 2 dX4_isIn_6 rfl ?_
    refine x_icmp_gt F 14 dX4_isIn_7 (by decide) (fun c7 => ?_) (fun c7 => ?_)
    · have c7 := Int32.not_le.mpr c7
      refine x_iconst F (nI 0) dX4_isIn_14 (by decide) ?_
      rw [hQ]
      exact x_zret F dX4_isIn_15 (by decide) (Or.inl rfl) ⟨_, rfl, by simp [inR, bz, *], rfl⟩
    · have c2 := Int32.not_lt.mp c2
      have c7 := Int32.not_lt.mp c7
      refine x_iconst F (nI 1) dX4_isIn_10 (by decide) ?_
      refine x_goto F 15 dX4_isIn_11 (by decide) ?_
      rw [hQ]
      exact x_zret F dX4_isIn_15 (by decide) (Or.inr rfl) ⟨_, rfl, by simp [inR, bz, *], rfl⟩
set_option maxHeartbeats 4000000 in
set_option maxRecDepth 100000 in
theorem c_X4_at {l : Launch} (hl : l.stackTraces = false) {g : GP} {M : MM} {x y : Nat}  : CT l g yX4_at cX4_at 2 (some .int) 0 0 0 0 [.int (nI (x)), .int (nI (y))] M (pI (fun r9 M9 => nI (12 * x + y) = r9 ∧ M = M9)) nX := by
  refine ct_of [(0, .int (nI (x))), (1, .int (nI (y)))] (by decide) hl (Nat.le_of_ble_eq_true rfl) rfl ?_
  intro K hK F
  subst hK
  have F : Fx K g cX4_at RX4 2 (some .int) [] 0 0 0 0 := F
  obtain ⟨Q, hQ⟩ : ∃ Q, Q = MQx K g (pI (fun r9 M9 => nI (12 * x + y) = r9 ∧ M = M9)) nX 0 0 := ⟨_, rfl⟩
  rw [← hQ]
  refine x_bipush F (nI 12) dX4_at_0 (by decide) ?_
  refine x_iload_n F 0 dX4_at_2 rfl ?_
  refine x_imulN F dX4_at_3 ?_
  refine x_iload_n F 1 dX4_at_4 rfl ?_
  refine x_iaddN F dX4_at_5 ?_
  rw [hQ]
  exact x_iret F dX4_at_6 (by decide) ⟨_, rfl, rfl, rfl⟩
set_option maxHeartbeats 4000000 in
set_option maxRecDepth 100000 in
theorem c_X4_apart {l : Launch} (hl : l.stackTraces = false) {g : GP} {M : MM} {x y : Nat} (hx : x < 1000000) (hy : y < 1000000) : CT l g yX4_apart cX4_apart 2 (some .int) 0 0 0 0 [.int (nI (x)), .int (nI (y))] M (pI (fun r9 M9 => nI (adst x y) = r9 ∧ M = M9)) nX := by
  refine ct_of [(0, .int (nI (x))), (1, .int (nI (y)))] (by decide) hl (Nat.le_of_ble_eq_true rfl) rfl ?_
  intro K hK F
  subst hK
  have F : Fx K g cX4_apart RX4 2 (some .int) [] 0 0 0 0 := F
  obtain ⟨Q, hQ⟩ : ∃ Q, Q = MQx K g (pI (fun r9 M9 => nI (adst x y) = r9 ∧ M = M9)) nX 0 0 := ⟨_, rfl⟩
  rw [← hQ]
  refine x_iload_n F 0 dX4_apart_0 rfl ?_
  refine x_iload_n F 1 dX4_apart_1 rfl ?_
  refine x_icmp_ge F 11 dX4_apart_2 (by decide) (fun c2 => ?_) (fun c2 => ?_)
  · have c2 := (nI_leI (by omega) (by omega)).mp c2
    have c2b := Nat.not_lt.mpr c2
    refine x_iload_n F 0 dX4_apart_11 rfl ?_
    refine x_iload_n F 1 dX4_apart_12 rfl ?_
    refine x_isubN F dX4_apart_13 (by omega) ?_
    rw [hQ]
    exact x_iret F dX4_apart_14 (by decide) ⟨_, rfl, by unfold adst; split <;> first | rfl | (exfalso; omega), rfl⟩
  · have c2 := mt (nI_leI (by omega) (by omega)).mpr c2
    have c2b := Nat.not_le.mp c2
    refine x_iload_n F 1 dX4_apart_5 rfl ?_
    refine x_iload_n F 0 dX4_apart_6 rfl ?_
    refine x_isubN F dX4_apart_7 (by omega) ?_
    refine x_goto F 14 dX4_apart_8 (by decide) ?_
    rw [hQ]
    exact x_iret F dX4_apart_14 (by decide) ⟨_, rfl, by unfold adst; split <;> first | rfl | (exfalso; omega), rfl⟩
set_option maxHeartbeats 4000000 in
set_option maxRecDepth 100000 in
theorem c_X4_unit {l : Launch} (hl : l.stackTraces = false) {g : GP} {M : MM} {x : Nat} (hx : x < 4) : CT l g yX4_unit cX4_unit 1 (some .int) 0 0 0 0 [.int (nI (x))] M (pI (fun r9 M9 => nI (unS x) = r9 ∧ M = M9)) nX := by
  refine ct_of [(0, .int (nI (x)))] (by decide) hl (Nat.le_of_ble_eq_true rfl) rfl ?_
  intro K hK F
  subst hK
  have F : Fx K g cX4_unit RX4 1 (some .int) [] 0 0 0 0 := F
  obtain ⟨Q, hQ⟩ : ∃ Q, Q = MQx K g (pI (fun r9 M9 => nI (unS x) = r9 ∧ M = M9)) nX 0 0 := ⟨_, rfl⟩
  rw [← hQ]
  refine x_iload_n F 0 dX4_unit_0 rfl ?_
  refine x_if_ne F 8 dX4_unit_1 (by decide) (fun c1 => ?_) (fun c1 => ?_)
  · have c1 := mt (nI_z (by omega)).mpr c1
    refine x_iload_n F 0 dX4_unit_8 rfl ?_
    refine x_iconst F (nI 1) dX4_unit_9 (by decide) ?_
    refine x_icmp_ne F 17 dX4_unit_10 (by decide) (fun c10 => ?_) (fun c10 => ?_)
    · have c10 := mt (nI_eq (by omega) (by omega)).mpr c10
      refine x_iload_n F 0 dX4_unit_17 rfl ?_
      refine x_iconst F (nI 2) dX4_unit_18 (by decide) ?_
      refine x_icmp_ne F 27 dX4_unit_19 (by decide) (fun c19 => ?_) (fun c19 => ?_)
      · have c19 := mt (nI_eq (by omega) (by omega)).mpr c19
        refine x_bipush F (nI 125) dX4_unit_27 (by decide) ?_
        rw [hQ]
        exact x_iret F dX4_unit_29 (by decide) ⟨_, rfl, by simp [unS, *], rfl⟩
      · have c19 := (nI_eq (by omega) (by omega)).mp c19
        refine x_bipush F (nI 25) dX4_unit_22 (by decide) ?_
        refine x_goto F 29 dX4_unit_24 (by decide) ?_
        rw [hQ]
        exact x_iret F dX4_unit_29 (by decide) ⟨_, rfl, by simp [unS, *], rfl⟩
    · have c10 := (nI_eq (by omega) (by omega)).mp c10
      refine x_iconst F (nI 5) dX4_unit_13 (by decide) ?_
      refine x_goto F 29 dX4_unit_14 (by decide) ?_
      rw [hQ]
      exact x_iret F dX4_unit_29 (by decide) ⟨_, rfl, by simp [unS, *], rfl⟩
  · have c1 := (nI_z (by omega)).mp c1
    refine x_iconst F (nI 1) dX4_unit_4 (by decide) ?_
    refine x_goto F 29 dX4_unit_5 (by decide) ?_
    rw [hQ]
    exact x_iret F dX4_unit_29 (by decide) ⟨_, rfl, by simp [unS, *], rfl⟩
set_option maxHeartbeats 4000000 in
set_option maxRecDepth 100000 in
theorem c_X4_isBeast {l : Launch} (hl : l.stackTraces = false) {g : GP} {M : MM} {m : Nat} {M0 : MM} {σ : ST} {x0 : Int32} (hR : RM g m M0 σ M) (hb : σ.1 6 0 < 1000) : CT l g yX4_isBeast cX4_isBeast 2 (some .boolean) 1 22 0 0 [.ref (m), .int (x0)] M (pI (fun r9 M9 => nI (bz (inN x0 (σ.1 6 0))) = r9 ∧ M = M9)) nX := by
  refine ct_of [(0, .ref (m)), (1, .int (x0))] (by decide) hl (Nat.le_of_ble_eq_true rfl) rfl ?_
  intro K hK F
  subst hK
  have F : Fx K g cX4_isBeast RX4 2 (some .boolean) [] 1 22 0 0 := F
  obtain ⟨Q, hQ⟩ : ∃ Q, Q = MQx K g (pI (fun r9 M9 => nI (bz (inN x0 (σ.1 6 0))) = r9 ∧ M = M9)) nX 0 0 := ⟨_, rfl⟩
  rw [← hQ]
  refine x_iload_n F 1 dX4_isBeast_0 rfl ?_
  refine x_iconst F (nI 0) dX4_isBeast_1 (by decide) ?_
  refine x_aload_n F 0 dX4_isBeast_2 rfl ?_
  refine x_fget F f_X4_100 hR.1 (v := .int (nI (σ.1 6 0))) dX4_isBeast_3 rfl ?_
  refine x_iconst F (nI 1) dX4_isBeast_6 (by decide) ?_
  refine x_isub F dX4_isBeast_7 ?_
  refine x_callS F s_X4_103 rfl (c_X4_isIn F.nt ) rfl dX4_isBeast_8 (by decide) (by decide) (Nat.le_of_ble_eq_true rfl) x_noX (ki fun r M2 hp => ?_)
  obtain ⟨rfl, rfl⟩ := hp
  rw [hQ]
  exact x_zret F dX4_isBeast_11 (by decide) (bz_01 _) ⟨_, rfl, by rw [inR_N (by omega)], rfl⟩
set_option maxHeartbeats 4000000 in
set_option maxRecDepth 100000 in
theorem c_X4_isRider {l : Launch} (hl : l.stackTraces = false) {g : GP} {M : MM} {m : Nat} {M0 : MM} {σ : ST} {x0 : Int32} (hR : RM g m M0 σ M) (hb : σ.1 7 0 < 1000) : CT l g yX4_isRider cX4_isRider 2 (some .boolean) 1 22 0 0 [.ref (m), .int (x0)] M (pI (fun r9 M9 => nI (bz (inN x0 (σ.1 7 0))) = r9 ∧ M = M9)) nX := by
  refine ct_of [(0, .ref (m)), (1, .int (x0))] (by decide) hl (Nat.le_of_ble_eq_true rfl) rfl ?_
  intro K hK F
  subst hK
  have F : Fx K g cX4_isRider RX4 2 (some .boolean) [] 1 22 0 0 := F
  obtain ⟨Q, hQ⟩ : ∃ Q, Q = MQx K g (pI (fun r9 M9 => nI (bz (inN x0 (σ.1 7 0))) = r9 ∧ M = M9)) nX 0 0 := ⟨_, rfl⟩
  rw [← hQ]
  refine x_iload_n F 1 dX4_isRider_0 rfl ?_
  refine x_iconst F (nI 0) dX4_isRider_1 (by decide) ?_
  refine x_aload_n F 0 dX4_isRider_2 rfl ?_
  refine x_fget F f_X4_107 hR.1 (v := .int (nI (σ.1 7 0))) dX4_isRider_3 rfl ?_
  refine x_iconst F (nI 1) dX4_isRider_6 (by decide) ?_
  refine x_isub F dX4_isRider_7 ?_
  refine x_callS F s_X4_103 rfl (c_X4_isIn F.nt ) rfl dX4_isRider_8 (by decide) (by decide) (Nat.le_of_ble_eq_true rfl) x_noX (ki fun r M2 hp => ?_)
  obtain ⟨rfl, rfl⟩ := hp
  rw [hQ]
  exact x_zret F dX4_isRider_11 (by decide) (bz_01 _) ⟨_, rfl, by rw [inR_N (by omega)], rfl⟩
set_option maxHeartbeats 4000000 in
set_option maxRecDepth 100000 in
theorem c_X4_isRodeo {l : Launch} (hl : l.stackTraces = false) {g : GP} {M : MM} {m : Nat} {M0 : MM} {σ : ST} {x0 : Int32} (hR : RM g m M0 σ M) (hb : σ.1 18 0 < 1000) : CT l g yX4_isRodeo cX4_isRodeo 2 (some .boolean) 1 22 0 0 [.ref (m), .int (x0)] M (pI (fun r9 M9 => nI (bz (inN x0 (σ.1 18 0))) = r9 ∧ M = M9)) nX := by
  refine ct_of [(0, .ref (m)), (1, .int (x0))] (by decide) hl (Nat.le_of_ble_eq_true rfl) rfl ?_
  intro K hK F
  subst hK
  have F : Fx K g cX4_isRodeo RX4 2 (some .boolean) [] 1 22 0 0 := F
  obtain ⟨Q, hQ⟩ : ∃ Q, Q = MQx K g (pI (fun r9 M9 => nI (bz (inN x0 (σ.1 18 0))) = r9 ∧ M = M9)) nX 0 0 := ⟨_, rfl⟩
  rw [← hQ]
  refine x_iload_n F 1 dX4_isRodeo_0 rfl ?_
  refine x_iconst F (nI 0) dX4_isRodeo_1 (by decide) ?_
  refine x_aload_n F 0 dX4_isRodeo_2 rfl ?_
  refine x_fget F f_X4_110 hR.1 (v := .int (nI (σ.1 18 0))) dX4_isRodeo_3 rfl ?_
  refine x_iconst F (nI 1) dX4_isRodeo_6 (by decide) ?_
  refine x_isub F dX4_isRodeo_7 ?_
  refine x_callS F s_X4_103 rfl (c_X4_isIn F.nt ) rfl dX4_isRodeo_8 (by decide) (by decide) (Nat.le_of_ble_eq_true rfl) x_noX (ki fun r M2 hp => ?_)
  obtain ⟨rfl, rfl⟩ := hp
  rw [hQ]
  exact x_zret F dX4_isRodeo_11 (by decide) (bz_01 _) ⟨_, rfl, by rw [inR_N (by omega)], rfl⟩
set_option maxHeartbeats 4000000 in
set_option maxRecDepth 100000 in
theorem c_X4_placedIn {l : Launch} (hl : l.stackTraces = false) {g : GP} {M : MM} {m : Nat} {M0 : MM} {σ : ST} {r : Nat} (hR : RM g m M0 σ M) (hr : r < 8) : CT l g yX4_placedIn cX4_placedIn 4 (some .int) 1 21 0 0 [.ref (m), .int (nI (r))] M (pI (fun r9 M9 => nI (plIn σ r) = r9 ∧ M = M9)) nX := by
  refine ct_of [(0, .ref (m)), (1, .int (nI (r)))] (by decide) hl (Nat.le_of_ble_eq_true rfl) rfl ?_
  intro K hK F
  subst hK
  have F : Fx K g cX4_placedIn RX4 4 (some .int) [] 1 21 0 0 := F
  obtain ⟨Q, hQ⟩ : ∃ Q, Q = MQx K g (pI (fun r9 M9 => nI (plIn σ r) = r9 ∧ M = M9)) nX 0 0 := ⟨_, rfl⟩
  rw [← hQ]
  refine x_iconst F (nI 0) dX4_placedIn_0 (by decide) ?_
  refine x_istore_n F [(2, .int (nI (0))), (0, .ref (m)), (1, .int (nI (r)))] dX4_placedIn_1 (by decide) rfl ?_
  refine x_iload_n F 2 dX4_placedIn_2 rfl ?_
  refine x_iconst F (nI 0) dX4_placedIn_3 (by decide) ?_
  refine x_callS F s_X4_118 rfl (c_X4_at F.nt ) rfl dX4_placedIn_4 (by decide) (by decide) (Nat.le_of_ble_eq_true rfl) x_noX (ki fun r M2 hp => ?_)
  obtain ⟨rfl, rfl⟩ := hp
  refine x_istore_n F [(3, .int (nI (12 * r + 0))), (2, .int (nI (0))), (0, .ref (m)), (1, .int (nI (r)))] dX4_placedIn_7 (by decide) rfl ?_
  have LP8 : ∀ i, i ≤ 12 → ∀ (v8_2 : Int32) (v8_3 : Int32), v8_2 = nI (fb_ct (fun j => decide (¬ σ.2.1 22 (12 * r + j) = -1)) i) → v8_3 = nI (12 * r + i) → XW K g 4 Q M 0 0 8 [(3, .int (v8_3)), (2, .int (v8_2)), (0, .ref (m)), (1, .int (nI (r)))] [] := by
    refine x_loop 12 _ (fun i hi ihi => ?_)
    intro v8_2 v8_3 e8_2 e8_3
    subst e8_2
    subst e8_3
    refine x_iload_n F 0 dX4_placedIn_8 rfl ?_
    refine x_iload_n F 3 dX4_placedIn_9 rfl ?_
    refine x_iconst F (nI 1) dX4_placedIn_10 (by decide) ?_
    refine x_iaddN F dX4_placedIn_11 ?_
    refine x_iconst F (nI 0) dX4_placedIn_12 (by decide) ?_
    refine x_callS F s_X4_118 rfl (c_X4_at F.nt ) rfl dX4_placedIn_13 (by decide) (by decide) (Nat.le_of_ble_eq_true rfl) x_noX (ki fun r_2 M2_2 hp_2 => ?_)
    obtain ⟨rfl, rfl⟩ := hp_2
    refine x_icmp_ge F 43 dX4_placedIn_16 (by decide) (fun c16 => ?_) (fun c16 => ?_)
    · have c16 := (nI_leI (by omega) (by omega)).mp c16
      have c16b := Nat.not_lt.mpr c16
      refine x_iload_n F 1 dX4_placedIn_43 rfl ?_
      rw [hQ]
      exact x_iret F dX4_placedIn_44 (by decide) ⟨_, rfl, by have h9 : i = 12 := (by omega); subst h9; rfl, rfl⟩
    · have c16 := mt (nI_leI (by omega) (by omega)).mpr c16
      have c16b := Nat.not_le.mp c16
      refine x_iload_n F 1 dX4_placedIn_19 rfl ?_
      refine x_aload_n F 2 dX4_placedIn_20 rfl ?_
      refine x_fget F f_X4_65 hR.1 (v := .ref (rA m 22)) dX4_placedIn_21 rfl ?_
      refine x_iload_n F 0 dX4_placedIn_24 rfl ?_
      refine x_mldR F hR 22 rfl (fun _ _ => rfl) dX4_placedIn_25 (by show _ < 96; omega) ?_
      refine x_iconst F ((-1)) dX4_placedIn_26 (by decide) ?_
      refine x_icmp_ne F 34 dX4_placedIn_27 (by decide) (fun c27 => ?_) (fun c27 => ?_)
      · refine x_iconst F (nI 1) dX4_placedIn_34 (by decide) ?_
        refine x_iaddN F dX4_placedIn_35 ?_
        refine x_istore_n F [(2, .int (nI ((fb_ct (fun j => decide (¬ σ.2.1 22 (12 * r + j) = -1)) i) + 1))), (3, .int (nI (12 * r + i))), (0, .ref (m)), (1, .int (nI (r)))] dX4_placedIn_36 (by decide) rfl ?_
        refine x_iinc F 1 [(3, .int (nI (12 * r + i + 1))), (2, .int (nI ((fb_ct (fun j => decide (¬ σ.2.1 22 (12 * r + j) = -1)) i) + 1))), (0, .ref (m)), (1, .int (nI (r)))] dX4_placedIn_37 rfl (iincN (12 * r + i) 1) (by decide) rfl ?_
        refine x_goto F 8 dX4_placedIn_40 (by decide) ?_
        exact ihi (by omega) _ _ (by simp [fb_ct_succ, *]) (rfl)
      · refine x_iconst F (nI 0) dX4_placedIn_30 (by decide) ?_
        refine x_goto F 35 dX4_placedIn_31 (by decide) ?_
        refine x_iaddN F dX4_placedIn_35 ?_
        refine x_istore_n F [(2, .int (nI ((fb_ct (fun j => decide (¬ σ.2.1 22 (12 * r + j) = -1)) i) + 0))), (3, .int (nI (12 * r + i))), (0, .ref (m)), (1, .int (nI (r)))] dX4_placedIn_36 (by decide) rfl ?_
        refine x_iinc F 1 [(3, .int (nI (12 * r + i + 1))), (2, .int (nI ((fb_ct (fun j => decide (¬ σ.2.1 22 (12 * r + j) = -1)) i) + 0))), (0, .ref (m)), (1, .int (nI (r)))] dX4_placedIn_37 rfl (iincN (12 * r + i) 1) (by decide) rfl ?_
        refine x_goto F 8 dX4_placedIn_40 (by decide) ?_
        exact ihi (by omega) _ _ (by simp [fb_ct_succ, *]) (rfl)
  exact LP8 0 (by omega) _ _ (rfl) (rfl)
set_option maxHeartbeats 4000000 in
set_option maxRecDepth 100000 in
theorem c_X4_pot {l : Launch} (hl : l.stackTraces = false) {g : GP} {M : MM} {m : Nat} {M0 : MM} {σ : ST} {r : Nat} (hR : RM g m M0 σ M) (hr : r < 8) (hs : σ.1 15 r < 1000) : CT l g yX4_pot cX4_pot 2 (some .int) 2 44 0 0 [.ref (m), .int (nI (r))] M (pI (fun r9 M9 => nI (potS σ r) = r9 ∧ M = M9)) nX := by
  refine ct_of [(0, .ref (m)), (1, .int (nI (r)))] (by decide) hl (Nat.le_of_ble_eq_true rfl) rfl ?_
  intro K hK F
  subst hK
  have F : Fx K g cX4_pot RX4 2 (some .int) [] 2 44 0 0 := F
  obtain ⟨Q, hQ⟩ : ∃ Q, Q = MQx K g (pI (fun r9 M9 => nI (potS σ r) = r9 ∧ M = M9)) nX 0 0 := ⟨_, rfl⟩
  rw [← hQ]
  refine x_aload_n F 0 dX4_pot_0 rfl ?_
  refine x_fget F f_X4_47 hR.1 (v := .ref (rA m 15)) dX4_pot_1 rfl ?_
  refine x_iload_n F 1 dX4_pot_4 rfl ?_
  refine x_mld F hR 15 rfl (fun _ _ => rfl) dX4_pot_5 (by show _ < 8; omega) ?_
  refine x_if_ne F 13 dX4_pot_6 (by decide) (fun c6 => ?_) (fun c6 => ?_)
  · have c6 := mt (nI_z (by omega)).mpr c6
    refine x_aload_n F 0 dX4_pot_13 rfl ?_
    refine x_fget F f_X4_41 hR.1 (v := .ref (rA m 13)) dX4_pot_14 rfl ?_
    refine x_iload_n F 1 dX4_pot_17 rfl ?_
    refine x_mld F hR 13 rfl (fun _ _ => rfl) dX4_pot_18 (by show _ < 8; omega) ?_
    refine x_aload_n F 0 dX4_pot_19 rfl ?_
    refine x_fget F f_X4_44 hR.1 (v := .ref (rA m 14)) dX4_pot_20 rfl ?_
    refine x_iload_n F 1 dX4_pot_23 rfl ?_
    refine x_mld F hR 14 rfl (fun _ _ => rfl) dX4_pot_24 (by show _ < 8; omega) ?_
    refine x_aload_n F 0 dX4_pot_25 rfl ?_
    refine x_iload_n F 1 dX4_pot_26 rfl ?_
    refine x_callV F s_X4_122 hR.1 rfl rfl (c_X4_placedIn F.nt hR (by omega)) rfl dX4_pot_27 (by decide) (by decide) (Nat.le_of_ble_eq_true rfl) x_noX (ki fun r M2 hp => ?_)
    obtain ⟨rfl, rfl⟩ := hp
    refine x_imulN F dX4_pot_30 ?_
    refine x_iaddN F dX4_pot_31 ?_
    rw [hQ]
    exact x_iret F dX4_pot_32 (by decide) ⟨_, rfl, by simp [potS, *], rfl⟩
  · have c6 := (nI_z (by omega)).mp c6
    refine x_iconst F (nI 0) dX4_pot_9 (by decide) ?_
    refine x_goto F 32 dX4_pot_10 (by decide) ?_
    rw [hQ]
    exact x_iret F dX4_pot_32 (by decide) ⟨_, rfl, by simp [potS, *], rfl⟩
set_option maxHeartbeats 4000000 in
set_option maxRecDepth 100000 in
theorem c_X4_tells {l : Launch} (hl : l.stackTraces = false) {g : GP} {M : MM} {m : Nat} {M0 : MM} {σ : ST} {r : Nat} {x0 : Int32} (hR : RM g m M0 σ M) (hr : r < 8) (hs : σ.1 15 r < 1000) : CT l g yX4_tells cX4_tells 3 (some .int) 3 65 0 0 [.ref (m), .int (nI (r)), .int (x0)] M (pI (fun r9 M9 => tellsS σ r x0 = r9 ∧ M = M9)) nX := by
  refine ct_of [(0, .ref (m)), (1, .int (nI (r))), (2, .int (x0))] (by decide) hl (Nat.le_of_ble_eq_true rfl) rfl ?_
  intro K hK F
  subst hK
  have F : Fx K g cX4_tells RX4 3 (some .int) [] 3 65 0 0 := F
  obtain ⟨Q, hQ⟩ : ∃ Q, Q = MQx K g (pI (fun r9 M9 => tellsS σ r x0 = r9 ∧ M = M9)) nX 0 0 := ⟨_, rfl⟩
  rw [← hQ]
  refine x_iload_n F 2 dX4_tells_0 rfl ?_
  by_cases y0 : x0 = 0
  · subst y0
    refine x_tableIn F 32 dX4_tells_1 (by decide) (by decide) rfl (by decide) ?_
    refine x_aload_n F 0 dX4_tells_32 rfl ?_
    refine x_fget F f_X4_47 hR.1 (v := .ref (rA m 15)) dX4_tells_33 rfl ?_
    refine x_iload_n F 1 dX4_tells_36 rfl ?_
    refine x_mld F hR 15 rfl (fun _ _ => rfl) dX4_tells_37 (by show _ < 8; omega) ?_
    rw [hQ]
    exact x_iret F dX4_tells_38 (by decide) ⟨_, rfl, by simp [tellsS, *], rfl⟩
  by_cases y1 : x0 = 1
  · subst y1
    refine x_tableIn F 39 dX4_tells_1 (by decide) (by decide) rfl (by decide) ?_
    refine x_aload_n F 0 dX4_tells_39 rfl ?_
    refine x_fget F f_X4_53 hR.1 (v := .ref (rA m 17)) dX4_tells_40 rfl ?_
    refine x_iload_n F 1 dX4_tells_43 rfl ?_
    refine x_mld F hR 17 rfl (fun _ _ => rfl) dX4_tells_44 (by show _ < 8; omega) ?_
    rw [hQ]
    exact x_iret F dX4_tells_45 (by decide) ⟨_, rfl, by simp [tellsS, *], rfl⟩
  by_cases y2 : x0 = 2
  · subst y2
    refine x_tableIn F 46 dX4_tells_1 (by decide) (by decide) rfl (by decide) ?_
    refine x_aload_n F 0 dX4_tells_46 rfl ?_
    refine x_iload_n F 1 dX4_tells_47 rfl ?_
    refine x_callV F s_X4_122 hR.1 rfl rfl (c_X4_placedIn F.nt hR (by omega)) rfl dX4_tells_48 (by decide) (by decide) (Nat.le_of_ble_eq_true rfl) x_noX (ki fun r M2 hp => ?_)
    obtain ⟨rfl, rfl⟩ := hp
    rw [hQ]
    exact x_iret F dX4_tells_51 (by decide) ⟨_, rfl, by simp [tellsS, *], rfl⟩
  by_cases y3 : x0 = 3
  · subst y3
    refine x_tableIn F 52 dX4_tells_1 (by decide) (by decide) rfl (by decide) ?_
    refine x_aload_n F 0 dX4_tells_52 rfl ?_
    refine x_iload_n F 1 dX4_tells_53 rfl ?_
    refine x_callV F s_X4_126 hR.1 rfl rfl (c_X4_pot F.nt hR (by omega) (by omega)) rfl dX4_tells_54 (by decide) (by decide) (Nat.le_of_ble_eq_true rfl) x_noX (ki fun r_2 M2_2 hp_2 => ?_)
    obtain ⟨rfl, rfl⟩ := hp_2
    rw [hQ]
    exact x_iret F dX4_tells_57 (by decide) ⟨_, rfl, by simp [tellsS, *], rfl⟩
  · refine x_tableOut F 58 dX4_tells_1 (by have h0 := mt (Int32.toInt_inj (x := x0) (y := 0)).mp y0; have h1 := mt (Int32.toInt_inj (x := x0) (y := 1)).mp y1; have h2 := mt (Int32.toInt_inj (x := x0) (y := 2)).mp y2; have h3 := mt (Int32.toInt_inj (x := x0) (y := 3)).mp y3; have e0 : (0 : Int32).toInt = 0 := (by decide); have e1 : (1 : Int32).toInt = 1 := (by decide); have e2 : (2 : Int32).toInt = 2 := (by decide); have e3 : (3 : Int32).toInt = 3 := (by decide); omega) (by decide) ?_
    refine x_aload_n F 0 dX4_tells_58 rfl ?_
    refine x_fget F f_X4_50 hR.1 (v := .ref (rA m 16)) dX4_tells_59 rfl ?_
    refine x_iload_n F 1 dX4_tells_62 rfl ?_
    refine x_mldR F hR 16 rfl (fun _ _ => rfl) dX4_tells_63 (by show _ < 8; omega) ?_
    rw [hQ]
    exact x_iret F dX4_tells_64 (by decide) ⟨_, rfl, by simp [tellsS, *], rfl⟩
set_option maxHeartbeats 4000000 in
set_option maxRecDepth 100000 in
theorem c_X4_hasEntered {l : Launch} (hl : l.stackTraces = false) {g : GP} {M : MM} {m : Nat} {M0 : MM} {σ : ST} {r j : Nat} (hR : RM g m M0 σ M) (hr : r < 8) (hj : j < 1000) (he : σ.1 17 r ≤ 12) (hw : ∀ k, k < 96 → σ.1 19 k < 12) : CT l g yX4_hasEntered cX4_hasEntered 5 (some .boolean) 1 21 0 0 [.ref (m), .int (nI (r)), .int (nI (j))] M (pI (fun r9 M9 => nI (bz (hasE σ r j)) = r9 ∧ M = M9)) nX := by
  refine ct_of [(0, .ref (m)), (1, .int (nI (r))), (2, .int (nI (j)))] (by decide) hl (Nat.le_of_ble_eq_true rfl) rfl ?_
  intro K hK F
  subst hK
  have F : Fx K g cX4_hasEntered RX4 5 (some .boolean) [] 1 21 0 0 := F
  obtain ⟨Q, hQ⟩ : ∃ Q, Q = MQx K g (pI (fun r9 M9 => nI (bz (hasE σ r j)) = r9 ∧ M = M9)) nX 0 0 := ⟨_, rfl⟩
  rw [← hQ]
  refine x_iconst F (nI 0) dX4_hasEntered_0 (by decide) ?_
  refine x_istore_n F [(3, .int (nI (0))), (0, .ref (m)), (1, .int (nI (r))), (2, .int (nI (j)))] dX4_hasEntered_1 (by decide) rfl ?_
  refine x_iconst F (nI 0) dX4_hasEntered_2 (by decide) ?_
  refine x_istore F [(4, .int (nI (0))), (3, .int (nI (0))), (0, .ref (m)), (1, .int (nI (r))), (2, .int (nI (j)))] dX4_hasEntered_3 (by decide) rfl ?_
  have LP5 : ∀ i, i ≤ (σ.1 17 r) → ∀ (v5_3 : Int32) (v5_4 : Int32), v5_3 = nI (bz (anyB (fun k => decide (σ.1 19 (12 * r + k) = j)) i)) → v5_4 = nI (i) → XW K g 5 Q M 0 0 5 [(4, .int (v5_4)), (3, .int (v5_3)), (0, .ref (m)), (1, .int (nI (r))), (2, .int (nI (j)))] [] := by
    refine x_loop ((σ.1 17 r)) _ (fun i hi ihi => ?_)
    intro v5_3 v5_4 e5_3 e5_4
    subst e5_3
    subst e5_4
    refine x_iload F 0 dX4_hasEntered_5 rfl ?_
    refine x_aload_n F 2 dX4_hasEntered_7 rfl ?_
    refine x_fget F f_X4_53 hR.1 (v := .ref (rA m 17)) dX4_hasEntered_8 rfl ?_
    refine x_iload_n F 3 dX4_hasEntered_11 rfl ?_
    refine x_mld F hR 17 rfl (fun _ _ => rfl) dX4_hasEntered_12 (by show _ < 8; omega) ?_
    refine x_icmp_ge F 47 dX4_hasEntered_13 (by decide) (fun c13 => ?_) (fun c13 => ?_)
    · have c13 := (nI_leI (by omega) (by omega)).mp c13
      have c13b := Nat.not_lt.mpr c13
      refine x_iload_n F 1 dX4_hasEntered_47 rfl ?_
      rw [hQ]
      exact x_zret F dX4_hasEntered_48 (by decide) (bz_01 _) ⟨_, rfl, by have h9 : i = σ.1 17 r := (by omega); subst h9; rfl, rfl⟩
    · have c13 := mt (nI_leI (by omega) (by omega)).mpr c13
      have c13b := Nat.not_le.mp c13
      refine x_iload_n F 1 dX4_hasEntered_16 rfl ?_
      refine x_if_ne F 35 dX4_hasEntered_17 (by decide) (fun c17 => ?_) (fun c17 => ?_)
      · have c17 := nI_bz1.mp c17
        refine x_iconst F (nI 1) dX4_hasEntered_35 (by decide) ?_
        refine x_goto F 40 dX4_hasEntered_36 (by decide) ?_
        refine x_istore_n F [(3, .int (nI (1))), (4, .int (nI (i))), (0, .ref (m)), (1, .int (nI (r))), (2, .int (nI (j)))] dX4_hasEntered_40 (by decide) rfl ?_
        refine x_iinc F 1 [(4, .int (nI (i + 1))), (3, .int (nI (1))), (0, .ref (m)), (1, .int (nI (r))), (2, .int (nI (j)))] dX4_hasEntered_41 rfl (iincN (i) 1) (by decide) rfl ?_
        refine x_goto F 5 dX4_hasEntered_44 (by decide) ?_
        exact ihi (by omega) _ _ (by simp [anyB, bz, *]) (rfl)
      · have c17 := nI_bz0.mp c17
        refine x_aload_n F 2 dX4_hasEntered_20 rfl ?_
        refine x_fget F f_X4_56 hR.1 (v := .ref (rA m 19)) dX4_hasEntered_21 rfl ?_
        refine x_iload_n F 3 dX4_hasEntered_24 rfl ?_
        refine x_iload F 0 dX4_hasEntered_25 rfl ?_
        refine x_callS F s_X4_118 rfl (c_X4_at F.nt ) rfl dX4_hasEntered_27 (by decide) (by decide) (Nat.le_of_ble_eq_true rfl) x_noX (ki fun r M2 hp => ?_)
        obtain ⟨rfl, rfl⟩ := hp
        refine x_mld F hR 19 rfl (fun _ _ => rfl) dX4_hasEntered_30 (by show _ < 96; omega) ?_
        refine x_iload_n F 4 dX4_hasEntered_31 rfl ?_
        refine x_icmp_ne F 39 dX4_hasEntered_32 (by decide) (fun c32 => ?_) (fun c32 => ?_)
        · have c32 := mt (nI_eq (by have := hw (12 * r + i) (by omega); omega) (by omega)).mpr c32
          refine x_iconst F (nI 0) dX4_hasEntered_39 (by decide) ?_
          refine x_istore_n F [(3, .int (nI (0))), (4, .int (nI (i))), (0, .ref (m)), (1, .int (nI (r))), (2, .int (nI (j)))] dX4_hasEntered_40 (by decide) rfl ?_
          refine x_iinc F 1 [(4, .int (nI (i + 1))), (3, .int (nI (0))), (0, .ref (m)), (1, .int (nI (r))), (2, .int (nI (j)))] dX4_hasEntered_41 rfl (iincN (i) 1) (by decide) rfl ?_
          refine x_goto F 5 dX4_hasEntered_44 (by decide) ?_
          exact ihi (by omega) _ _ (by simp [anyB, bz, *]) (rfl)
        · have c32 := (nI_eq (by have := hw (12 * r + i) (by omega); omega) (by omega)).mp c32
          refine x_iconst F (nI 1) dX4_hasEntered_35 (by decide) ?_
          refine x_goto F 40 dX4_hasEntered_36 (by decide) ?_
          refine x_istore_n F [(3, .int (nI (1))), (4, .int (nI (i))), (0, .ref (m)), (1, .int (nI (r))), (2, .int (nI (j)))] dX4_hasEntered_40 (by decide) rfl ?_
          refine x_iinc F 1 [(4, .int (nI (i + 1))), (3, .int (nI (1))), (0, .ref (m)), (1, .int (nI (r))), (2, .int (nI (j)))] dX4_hasEntered_41 rfl (iincN (i) 1) (by decide) rfl ?_
          refine x_goto F 5 dX4_hasEntered_44 (by decide) ?_
          exact ihi (by omega) _ _ (by simp [anyB, bz, *]) (rfl)
  exact LP5 0 (by omega) _ _ (rfl) (rfl)
set_option maxHeartbeats 4000000 in
set_option maxRecDepth 100000 in
theorem c_X4_taken {l : Launch} (hl : l.stackTraces = false) {g : GP} {M : MM} {m : Nat} {M0 : MM} {σ : ST} {r : Nat} {x0 : Int32} (hR : RM g m M0 σ M) (hr : r < 8) : CT l g yX4_taken cX4_taken 5 (some .int) 1 21 0 0 [.ref (m), .int (nI (r)), .int (x0)] M (pI (fun r9 M9 => nI (takS σ r x0) = r9 ∧ M = M9)) nX := by
  refine ct_of [(0, .ref (m)), (1, .int (nI (r))), (2, .int (x0))] (by decide) hl (Nat.le_of_ble_eq_true rfl) rfl ?_
  intro K hK F
  subst hK
  have F : Fx K g cX4_taken RX4 5 (some .int) [] 1 21 0 0 := F
  obtain ⟨Q, hQ⟩ : ∃ Q, Q = MQx K g (pI (fun r9 M9 => nI (takS σ r x0) = r9 ∧ M = M9)) nX 0 0 := ⟨_, rfl⟩
  rw [← hQ]
  refine x_iconst F (nI 0) dX4_taken_0 (by decide) ?_
  refine x_istore_n F [(3, .int (nI (0))), (0, .ref (m)), (1, .int (nI (r))), (2, .int (x0))] dX4_taken_1 (by decide) rfl ?_
  refine x_iload_n F 2 dX4_taken_2 rfl ?_
  refine x_iconst F (nI 0) dX4_taken_3 (by decide) ?_
  refine x_callS F s_X4_118 rfl (c_X4_at F.nt ) rfl dX4_taken_4 (by decide) (by decide) (Nat.le_of_ble_eq_true rfl) x_noX (ki fun r M2 hp => ?_)
  obtain ⟨rfl, rfl⟩ := hp
  refine x_istore F [(4, .int (nI (12 * r + 0))), (3, .int (nI (0))), (0, .ref (m)), (1, .int (nI (r))), (2, .int (x0))] dX4_taken_7 (by decide) rfl ?_
  have LP9 : ∀ i, i ≤ 12 → ∀ (v9_3 : Int32) (v9_4 : Int32), v9_3 = nI (fb_ct (fun j => decide (σ.2.1 22 (12 * r + j) = x0)) i) → v9_4 = nI (12 * r + i) → XW K g 5 Q M 0 0 9 [(4, .int (v9_4)), (3, .int (v9_3)), (0, .ref (m)), (1, .int (nI (r))), (2, .int (x0))] [] := by
    refine x_loop 12 _ (fun i hi ihi => ?_)
    intro v9_3 v9_4 e9_3 e9_4
    subst e9_3
    subst e9_4
    refine x_iload F 0 dX4_taken_9 rfl ?_
    refine x_iload_n F 3 dX4_taken_11 rfl ?_
    refine x_iconst F (nI 1) dX4_taken_12 (by decide) ?_
    refine x_iaddN F dX4_taken_13 ?_
    refine x_iconst F (nI 0) dX4_taken_14 (by decide) ?_
    refine x_callS F s_X4_118 rfl (c_X4_at F.nt ) rfl dX4_taken_15 (by decide) (by decide) (Nat.le_of_ble_eq_true rfl) x_noX (ki fun r_2 M2_2 hp_2 => ?_)
    obtain ⟨rfl, rfl⟩ := hp_2
    refine x_icmp_ge F 46 dX4_taken_18 (by decide) (fun c18 => ?_) (fun c18 => ?_)
    · have c18 := (nI_leI (by omega) (by omega)).mp c18
      have c18b := Nat.not_lt.mpr c18
      refine x_iload_n F 1 dX4_taken_46 rfl ?_
      rw [hQ]
      exact x_iret F dX4_taken_47 (by decide) ⟨_, rfl, by have h9 : i = 12 := (by omega); subst h9; rfl, rfl⟩
    · have c18 := mt (nI_leI (by omega) (by omega)).mpr c18
      have c18b := Nat.not_le.mp c18
      refine x_iload_n F 1 dX4_taken_21 rfl ?_
      refine x_aload_n F 2 dX4_taken_22 rfl ?_
      refine x_fget F f_X4_65 hR.1 (v := .ref (rA m 22)) dX4_taken_23 rfl ?_
      refine x_iload F 0 dX4_taken_26 rfl ?_
      refine x_mldR F hR 22 rfl (fun _ _ => rfl) dX4_taken_28 (by show _ < 96; omega) ?_
      refine x_iload_n F 4 dX4_taken_29 rfl ?_
      refine x_icmp_ne F 37 dX4_taken_30 (by decide) (fun c30 => ?_) (fun c30 => ?_)
      · refine x_iconst F (nI 0) dX4_taken_37 (by decide) ?_
        refine x_iaddN F dX4_taken_38 ?_
        refine x_istore_n F [(3, .int (nI ((fb_ct (fun j => decide (σ.2.1 22 (12 * r + j) = x0)) i) + 0))), (4, .int (nI (12 * r + i))), (0, .ref (m)), (1, .int (nI (r))), (2, .int (x0))] dX4_taken_39 (by decide) rfl ?_
        refine x_iinc F 1 [(4, .int (nI (12 * r + i + 1))), (3, .int (nI ((fb_ct (fun j => decide (σ.2.1 22 (12 * r + j) = x0)) i) + 0))), (0, .ref (m)), (1, .int (nI (r))), (2, .int (x0))] dX4_taken_40 rfl (iincN (12 * r + i) 1) (by decide) rfl ?_
        refine x_goto F 9 dX4_taken_43 (by decide) ?_
        exact ihi (by omega) _ _ (by simp [fb_ct_succ, *]) (rfl)
      · refine x_iconst F (nI 1) dX4_taken_33 (by decide) ?_
        refine x_goto F 38 dX4_taken_34 (by decide) ?_
        refine x_iaddN F dX4_taken_38 ?_
        refine x_istore_n F [(3, .int (nI ((fb_ct (fun j => decide (σ.2.1 22 (12 * r + j) = x0)) i) + 1))), (4, .int (nI (12 * r + i))), (0, .ref (m)), (1, .int (nI (r))), (2, .int (x0))] dX4_taken_39 (by decide) rfl ?_
        refine x_iinc F 1 [(4, .int (nI (12 * r + i + 1))), (3, .int (nI ((fb_ct (fun j => decide (σ.2.1 22 (12 * r + j) = x0)) i) + 1))), (0, .ref (m)), (1, .int (nI (r))), (2, .int (x0))] dX4_taken_40 rfl (iincN (12 * r + i) 1) (by decide) rfl ?_
        refine x_goto F 9 dX4_taken_43 (by decide) ?_
        exact ihi (by omega) _ _ (by simp [fb_ct_succ, *]) (rfl)
  exact LP9 0 (by omega) _ _ (rfl) (rfl)
end
section
set_option maxHeartbeats 4000000 in
set_option maxRecDepth 100000 in
theorem c_X4_gets {l : Launch} (hl : l.stackTraces = false) {g : GP} {M : MM} {m : Nat} {M0 : MM} {σ : ST} {r j p : Nat} (hR : RM g m M0 σ M) (hB : Bd σ) (hr : r < 8) (hj : j < 12) (hp : p < 4) : CT l g yX4_gets cX4_gets 8 (some .boolean) 1 21 0 0 [.ref (m), .int (nI (r)), .int (nI (j)), .int (nI (p))] M (pI (fun r9 M9 => nI (bz (getsS σ r j p)) = r9 ∧ M = M9)) nX := by
  refine ct_of [(0, .ref (m)), (1, .int (nI (r))), (2, .int (nI (j))), (3, .int (nI (p)))] (by decide) hl (Nat.le_of_ble_eq_true rfl) rfl ?_
  intro K hK F
  subst hK
  have F : Fx K g cX4_gets RX4 8 (some .boolean) [] 1 21 0 0 := F
  obtain ⟨Q, hQ⟩ : ∃ Q, Q = MQx K g (pI (fun r9 M9 => nI (bz (getsS σ r j p)) = r9 ∧ M = M9)) nX 0 0 := ⟨_, rfl⟩
  rw [← hQ]
  have hB9 := hB
  obtain ⟨h6, h7, h18, hr8, hk96, hp96, hb16, hh⟩ := hB9
  have b1 := hr8 r hr
  refine x_iconst F (nI 1) dX4_gets_0 (by decide) ?_
  refine x_istore F [(4, .int (nI (1))), (0, .ref (m)), (1, .int (nI (r))), (2, .int (nI (j))), (3, .int (nI (p)))] dX4_gets_1 (by decide) rfl ?_
  refine x_iconst F (nI 0) dX4_gets_3 (by decide) ?_
  refine x_istore F [(5, .int (nI (0))), (4, .int (nI (1))), (0, .ref (m)), (1, .int (nI (r))), (2, .int (nI (j))), (3, .int (nI (p)))] dX4_gets_4 (by decide) rfl ?_
  have LP6 : ∀ i, i ≤ (σ.1 18 0) → ∀ (v6_4 : Int32) (v6_5 : Int32), v6_4 = nI (bz (allB (getO σ r j p) i)) → v6_5 = nI (i) → XW K g 8 Q M 0 0 6 [(5, .int (v6_5)), (4, .int (v6_4)), (0, .ref (m)), (1, .int (nI (r))), (2, .int (nI (j))), (3, .int (nI (p)))] [] := by
    refine x_loop ((σ.1 18 0)) _ (fun i hi ihi => ?_)
    intro v6_4 v6_5 e6_4 e6_5
    subst e6_4
    subst e6_5
    refine x_iload F 0 dX4_gets_6 rfl ?_
    refine x_aload_n F 2 dX4_gets_8 rfl ?_
    refine x_fget F f_X4_110 hR.1 (v := .int (nI (σ.1 18 0))) dX4_gets_9 rfl ?_
    refine x_icmp_ge F 111 dX4_gets_12 (by decide) (fun c12 => ?_) (fun c12 => ?_)
    · have c12 := (nI_leI (by omega) (by omega)).mp c12
      have c12b := Nat.not_lt.mpr c12
      refine x_iload F 1 dX4_gets_111 rfl ?_
      rw [hQ]
      exact x_zret F dX4_gets_113 (by decide) (bz_01 _) ⟨_, rfl, by have h9 : i = σ.1 18 0 := (by omega); subst h9; rfl, rfl⟩
    · have c12 := mt (nI_leI (by omega) (by omega)).mpr c12
      have c12b := Nat.not_le.mp c12
      have b2 := hr8 i (by omega)
      have b3 := hp96 (12 * i + j) (by omega)
      refine x_aload_n F 2 dX4_gets_15 rfl ?_
      refine x_fget F f_X4_65 hR.1 (v := .ref (rA m 22)) dX4_gets_16 rfl ?_
      refine x_iload F 0 dX4_gets_19 rfl ?_
      refine x_iload_n F 4 dX4_gets_21 rfl ?_
      refine x_callS F s_X4_118 rfl (c_X4_at F.nt ) rfl dX4_gets_22 (by decide) (by decide) (Nat.le_of_ble_eq_true rfl) x_noX (ki fun r M2 hp => ?_)
      obtain ⟨rfl, rfl⟩ := hp
      refine x_mldR F hR 22 rfl (fun _ _ => rfl) dX4_gets_25 (by show _ < 96; omega) ?_
      refine x_istore F [(6, .int (σ.2.1 22 (12 * i + j))), (5, .int (nI (i))), (4, .int (nI (bz (allB (getO σ r j p) i)))), (0, .ref (m)), (1, .int (nI (r))), (2, .int (nI (j))), (3, .int (nI (p)))] dX4_gets_26 (by decide) rfl ?_
      refine x_iload F 1 dX4_gets_28 rfl ?_
      refine x_iload_n F 4 dX4_gets_30 rfl ?_
      refine x_icmp_eq F 105 dX4_gets_31 (by decide) (fun c31 => ?_) (fun c31 => ?_)
      · have c31 := (nI_eq (by omega) (by omega)).mp c31
        refine x_iinc F 1 [(5, .int (nI (i + 1))), (6, .int (σ.2.1 22 (12 * i + j))), (4, .int (nI (bz (allB (getO σ r j p) i)))), (0, .ref (m)), (1, .int (nI (r))), (2, .int (nI (j))), (3, .int (nI (p)))] dX4_gets_105 rfl (iincN (i) 1) (by decide) rfl ?_
        refine x_goto F 6 dX4_gets_108 (by decide) ?_
        refine x_sub [0, 2, 3, 4, 5, 6] rfl (L' := [(5, .int (nI (i + 1))), (4, .int (nI (bz (allB (getO σ r j p) i)))), (0, .ref (m)), (1, .int (nI (r))), (2, .int (nI (j))), (3, .int (nI (p)))]) ?_
        exact ihi (by omega) _ _ (by (try clear b4); simp [allB, getO, bz, *]) (rfl)
      · have c31 := mt (nI_eq (by omega) (by omega)).mpr c31
        refine x_iload F 0 dX4_gets_34 rfl ?_
        refine x_iconst F ((-1)) dX4_gets_36 (by decide) ?_
        refine x_icmp_eq F 105 dX4_gets_37 (by decide) (fun c37 => ?_) (fun c37 => ?_)
        · refine x_iinc F 1 [(5, .int (nI (i + 1))), (6, .int (σ.2.1 22 (12 * i + j))), (4, .int (nI (bz (allB (getO σ r j p) i)))), (0, .ref (m)), (1, .int (nI (r))), (2, .int (nI (j))), (3, .int (nI (p)))] dX4_gets_105 rfl (iincN (i) 1) (by decide) rfl ?_
          refine x_goto F 6 dX4_gets_108 (by decide) ?_
          refine x_sub [0, 2, 3, 4, 5, 6] rfl (L' := [(5, .int (nI (i + 1))), (4, .int (nI (bz (allB (getO σ r j p) i)))), (0, .ref (m)), (1, .int (nI (r))), (2, .int (nI (j))), (3, .int (nI (p)))]) ?_
          exact ihi (by omega) _ _ (by (try clear b4); simp [allB, getO, bz, *]) (rfl)
        · have b4 := pl_cl (by decide) b3.1 c37
          refine x_aload_n F 3 dX4_gets_40 rfl ?_
          refine x_fget F f_X4_32 hR.1 (v := .ref (rA m 10)) dX4_gets_41 rfl ?_
          refine x_iload_n F 4 dX4_gets_44 rfl ?_
          refine x_mld F hR 10 rfl (fun _ _ => rfl) dX4_gets_45 (by show _ < 8; omega) ?_
          refine x_iload_n F 6 dX4_gets_46 rfl ?_
          refine x_iaddN F dX4_gets_47 ?_
          refine x_aload_n F 3 dX4_gets_48 rfl ?_
          refine x_fget F f_X4_32 hR.1 (v := .ref (rA m 10)) dX4_gets_49 rfl ?_
          refine x_iload F 1 dX4_gets_52 rfl ?_
          refine x_mld F hR 10 rfl (fun _ _ => rfl) dX4_gets_54 (by show _ < 8; omega) ?_
          refine x_iload F 0 dX4_gets_55 rfl ?_
          refine x_ri0 (y := nI (cl (σ.2.1 22 (12 * i + j)))) (b4.1) ?_
          refine x_iaddN F dX4_gets_57 ?_
          refine x_callS F s_X4_142 rfl (c_X4_apart F.nt (by omega) (by omega)) rfl dX4_gets_58 (by decide) (by decide) (Nat.le_of_ble_eq_true rfl) x_noX (ki fun r_2 M2_2 hp_2 => ?_)
          obtain ⟨rfl, rfl⟩ := hp_2
          refine x_istore F [(7, .int (nI (adst ((σ.1 10 (r)) + p) ((σ.1 10 (i)) + (cl (σ.2.1 22 (12 * i + j))))))), (6, .int (σ.2.1 22 (12 * i + j))), (5, .int (nI (i))), (4, .int (nI (bz (allB (getO σ r j p) i)))), (0, .ref (m)), (1, .int (nI (r))), (2, .int (nI (j))), (3, .int (nI (p)))] dX4_gets_61 (by decide) rfl ?_
          refine x_iload F 3 dX4_gets_63 rfl ?_
          refine x_if_eq F 102 dX4_gets_65 (by decide) (fun c65 => ?_) (fun c65 => ?_)
          · have c65 := nI_bz0.mp c65
            refine x_iconst F (nI 0) dX4_gets_102 (by decide) ?_
            refine x_istore F [(4, .int (nI (0))), (7, .int (nI (adst ((σ.1 10 (r)) + p) ((σ.1 10 (i)) + (cl (σ.2.1 22 (12 * i + j))))))), (6, .int (σ.2.1 22 (12 * i + j))), (5, .int (nI (i))), (0, .ref (m)), (1, .int (nI (r))), (2, .int (nI (j))), (3, .int (nI (p)))] dX4_gets_103 (by decide) rfl ?_
            refine x_iinc F 3 [(5, .int (nI (i + 1))), (4, .int (nI (0))), (7, .int (nI (adst ((σ.1 10 (r)) + p) ((σ.1 10 (i)) + (cl (σ.2.1 22 (12 * i + j))))))), (6, .int (σ.2.1 22 (12 * i + j))), (0, .ref (m)), (1, .int (nI (r))), (2, .int (nI (j))), (3, .int (nI (p)))] dX4_gets_105 rfl (iincN (i) 1) (by decide) rfl ?_
            refine x_goto F 6 dX4_gets_108 (by decide) ?_
            refine x_sub [0, 1, 4, 5, 6, 7] rfl (L' := [(5, .int (nI (i + 1))), (4, .int (nI (0))), (0, .ref (m)), (1, .int (nI (r))), (2, .int (nI (j))), (3, .int (nI (p)))]) ?_
            exact ihi (by omega) _ _ (by (try clear b4); simp [allB, getO, bz, *]) (rfl)
          · have c65 := nI_bz1.mp c65
            refine x_iload F 0 dX4_gets_68 rfl ?_
            refine x_if_le F 102 dX4_gets_70 (by decide) (fun c70 => ?_) (fun c70 => ?_)
            · have c70 := (nI_le0 (by have := adst_le (σ.1 10 r + p) (σ.1 10 i + cl (σ.2.1 22 (12 * i + j))); omega)).mp c70
              have c70b := Nat.not_lt.mpr (Nat.le_zero.mpr c70)
              refine x_iconst F (nI 0) dX4_gets_102 (by decide) ?_
              refine x_istore F [(4, .int (nI (0))), (7, .int (nI (adst ((σ.1 10 (r)) + p) ((σ.1 10 (i)) + (cl (σ.2.1 22 (12 * i + j))))))), (6, .int (σ.2.1 22 (12 * i + j))), (5, .int (nI (i))), (0, .ref (m)), (1, .int (nI (r))), (2, .int (nI (j))), (3, .int (nI (p)))] dX4_gets_103 (by decide) rfl ?_
              refine x_iinc F 3 [(5, .int (nI (i + 1))), (4, .int (nI (0))), (7, .int (nI (adst ((σ.1 10 (r)) + p) ((σ.1 10 (i)) + (cl (σ.2.1 22 (12 * i + j))))))), (6, .int (σ.2.1 22 (12 * i + j))), (0, .ref (m)), (1, .int (nI (r))), (2, .int (nI (j))), (3, .int (nI (p)))] dX4_gets_105 rfl (iincN (i) 1) (by decide) rfl ?_
              refine x_goto F 6 dX4_gets_108 (by decide) ?_
              refine x_sub [0, 1, 4, 5, 6, 7] rfl (L' := [(5, .int (nI (i + 1))), (4, .int (nI (0))), (0, .ref (m)), (1, .int (nI (r))), (2, .int (nI (j))), (3, .int (nI (p)))]) ?_
              exact ihi (by omega) _ _ (by (try clear b4); simp [allB, getO, bz, *]) (rfl)
            · have c70 := mt (nI_le0 (by have := adst_le (σ.1 10 r + p) (σ.1 10 i + cl (σ.2.1 22 (12 * i + j))); omega)).mpr c70
              have c70b := Nat.pos_of_ne_zero c70
              refine x_sipush F (nI 400) dX4_gets_73 (by decide) ?_
              refine x_iload F 0 dX4_gets_76 rfl ?_
              refine x_imulN F dX4_gets_78 ?_
              refine x_aload_n F 4 dX4_gets_79 rfl ?_
              refine x_fget F f_X4_29 hR.1 (v := .ref (rA m 9)) dX4_gets_80 rfl ?_
              refine x_iload_n F 5 dX4_gets_83 rfl ?_
              refine x_mld F hR 9 rfl (fun _ _ => rfl) dX4_gets_84 (by show _ < 8; omega) ?_
              refine x_aload_n F 4 dX4_gets_85 rfl ?_
              refine x_fget F f_X4_29 hR.1 (v := .ref (rA m 9)) dX4_gets_86 rfl ?_
              refine x_iload F 2 dX4_gets_89 rfl ?_
              refine x_mld F hR 9 rfl (fun _ _ => rfl) dX4_gets_91 (by show _ < 8; omega) ?_
              refine x_callS F s_X4_142 rfl (c_X4_apart F.nt (by omega) (by omega)) rfl dX4_gets_92 (by decide) (by decide) (Nat.le_of_ble_eq_true rfl) x_noX (ki fun r_3 M2_3 hp_3 => ?_)
              obtain ⟨rfl, rfl⟩ := hp_3
              refine x_icmp_lt F 102 dX4_gets_95 (by decide) (fun c95 => ?_) (fun c95 => ?_)
              · have c95 := (nI_ltI (by have := adst_le (σ.1 10 r + p) (σ.1 10 i + cl (σ.2.1 22 (12 * i + j))); omega) (by have := adst_le (σ.1 9 r) (σ.1 9 i); omega)).mp c95
                have c95b := Nat.not_le.mpr c95
                refine x_iconst F (nI 0) dX4_gets_102 (by decide) ?_
                refine x_istore F [(4, .int (nI (0))), (7, .int (nI (adst ((σ.1 10 (r)) + p) ((σ.1 10 (i)) + (cl (σ.2.1 22 (12 * i + j))))))), (6, .int (σ.2.1 22 (12 * i + j))), (5, .int (nI (i))), (0, .ref (m)), (1, .int (nI (r))), (2, .int (nI (j))), (3, .int (nI (p)))] dX4_gets_103 (by decide) rfl ?_
                refine x_iinc F 3 [(5, .int (nI (i + 1))), (4, .int (nI (0))), (7, .int (nI (adst ((σ.1 10 (r)) + p) ((σ.1 10 (i)) + (cl (σ.2.1 22 (12 * i + j))))))), (6, .int (σ.2.1 22 (12 * i + j))), (0, .ref (m)), (1, .int (nI (r))), (2, .int (nI (j))), (3, .int (nI (p)))] dX4_gets_105 rfl (iincN (i) 1) (by decide) rfl ?_
                refine x_goto F 6 dX4_gets_108 (by decide) ?_
                refine x_sub [0, 1, 4, 5, 6, 7] rfl (L' := [(5, .int (nI (i + 1))), (4, .int (nI (0))), (0, .ref (m)), (1, .int (nI (r))), (2, .int (nI (j))), (3, .int (nI (p)))]) ?_
                exact ihi (by omega) _ _ (by (try clear b4); simp [allB, getO, bz, *]) (rfl)
              · have c95 := mt (nI_ltI (by have := adst_le (σ.1 10 r + p) (σ.1 10 i + cl (σ.2.1 22 (12 * i + j))); omega) (by have := adst_le (σ.1 9 r) (σ.1 9 i); omega)).mpr c95
                have c95b := Nat.not_lt.mp c95
                refine x_iconst F (nI 1) dX4_gets_98 (by decide) ?_
                refine x_goto F 103 dX4_gets_99 (by decide) ?_
                refine x_istore F [(4, .int (nI (1))), (7, .int (nI (adst ((σ.1 10 (r)) + p) ((σ.1 10 (i)) + (cl (σ.2.1 22 (12 * i + j))))))), (6, .int (σ.2.1 22 (12 * i + j))), (5, .int (nI (i))), (0, .ref (m)), (1, .int (nI (r))), (2, .int (nI (j))), (3, .int (nI (p)))] dX4_gets_103 (by decide) rfl ?_
                refine x_iinc F 3 [(5, .int (nI (i + 1))), (4, .int (nI (1))), (7, .int (nI (adst ((σ.1 10 (r)) + p) ((σ.1 10 (i)) + (cl (σ.2.1 22 (12 * i + j))))))), (6, .int (σ.2.1 22 (12 * i + j))), (0, .ref (m)), (1, .int (nI (r))), (2, .int (nI (j))), (3, .int (nI (p)))] dX4_gets_105 rfl (iincN (i) 1) (by decide) rfl ?_
                refine x_goto F 6 dX4_gets_108 (by decide) ?_
                refine x_sub [0, 1, 4, 5, 6, 7] rfl (L' := [(5, .int (nI (i + 1))), (4, .int (nI (1))), (0, .ref (m)), (1, .int (nI (r))), (2, .int (nI (j))), (3, .int (nI (p)))]) ?_
                exact ihi (by omega) _ _ (by (try clear b4); simp [allB, getO, bz, *]) (rfl)
  exact LP6 0 (by omega) _ _ (rfl) (rfl)
set_option maxHeartbeats 4000000 in
set_option maxRecDepth 100000 in
theorem c_X4_fits {l : Launch} (hl : l.stackTraces = false) {g : GP} {M : MM} {m : Nat} {M0 : MM} {σ : ST} {r j p : Nat} (hR : RM g m M0 σ M) (hB : Bd σ) (hr : r < 8) (hj : j < 12) (hp : p < 4) : CT l g yX4_fits cX4_fits 4 (some .boolean) 2 48 0 0 [.ref (m), .int (nI (r)), .int (nI (j)), .int (nI (p))] M (pI (fun r9 M9 => nI (bz (fitS σ r j p)) = r9 ∧ M = M9)) nX := by
  refine ct_of [(0, .ref (m)), (1, .int (nI (r))), (2, .int (nI (j))), (3, .int (nI (p)))] (by decide) hl (Nat.le_of_ble_eq_true rfl) rfl ?_
  intro K hK F
  subst hK
  have F : Fx K g cX4_fits RX4 4 (some .boolean) [] 2 48 0 0 := F
  obtain ⟨Q, hQ⟩ : ∃ Q, Q = MQx K g (pI (fun r9 M9 => nI (bz (fitS σ r j p)) = r9 ∧ M = M9)) nX 0 0 := ⟨_, rfl⟩
  rw [← hQ]
  have hB9 := hB
  obtain ⟨h6, h7, h18, hr8, hk96, hp96, hb16, hh⟩ := hB9
  have b1 := hr8 r hr
  have b2 := hk96 (12 * r + j) (by omega)
  refine x_aload_n F 0 dX4_fits_0 rfl ?_
  refine x_fget F f_X4_59 hR.1 (v := .ref (rA m 20)) dX4_fits_1 rfl ?_
  refine x_iload_n F 1 dX4_fits_4 rfl ?_
  refine x_iload_n F 2 dX4_fits_5 rfl ?_
  refine x_callS F s_X4_118 rfl (c_X4_at F.nt ) rfl dX4_fits_6 (by decide) (by decide) (Nat.le_of_ble_eq_true rfl) x_noX (ki fun r M2 hp => ?_)
  obtain ⟨rfl, rfl⟩ := hp
  refine x_mld F hR 20 rfl (fun _ _ => rfl) dX4_fits_9 (by show _ < 96; omega) ?_
  refine x_iload_n F 3 dX4_fits_10 rfl ?_
  refine x_ishr F dX4_fits_11 ?_
  refine x_iconst F (nI 1) dX4_fits_12 (by decide) ?_
  refine x_iand F dX4_fits_13 ?_
  refine x_ri0 (y := nI (bz ((σ.1 20 (12 * r + j)).testBit p))) (tb_sh (by omega) (by omega)) ?_
  refine x_iconst F (nI 1) dX4_fits_14 (by decide) ?_
  refine x_icmp_ne F 47 dX4_fits_15 (by decide) (fun c15 => ?_) (fun c15 => ?_)
  · have c15 := nI_bzO.mp c15
    refine x_iconst F (nI 0) dX4_fits_47 (by decide) ?_
    rw [hQ]
    exact x_zret F dX4_fits_48 (by decide) (Or.inl rfl) ⟨_, rfl, by simp [fitS, bz, *], rfl⟩
  · have c15 := nI_bzI.mp c15
    refine x_aload_n F 0 dX4_fits_18 rfl ?_
    refine x_iload_n F 1 dX4_fits_19 rfl ?_
    refine x_iload_n F 3 dX4_fits_20 rfl ?_
    refine x_callV F s_X4_145 hR.1 rfl rfl (c_X4_taken F.nt hR (by omega)) rfl dX4_fits_21 (by decide) (by decide) (Nat.le_of_ble_eq_true rfl) x_noX (ki fun r_2 M2_2 hp_2 => ?_)
    obtain ⟨rfl, rfl⟩ := hp_2
    refine x_aload_n F 0 dX4_fits_24 rfl ?_
    refine x_fget F f_X4_38 hR.1 (v := .ref (rA m 12)) dX4_fits_25 rfl ?_
    refine x_iload_n F 1 dX4_fits_28 rfl ?_
    refine x_mld F hR 12 rfl (fun _ _ => rfl) dX4_fits_29 (by show _ < 8; omega) ?_
    refine x_icmp_ge F 47 dX4_fits_30 (by decide) (fun c30 => ?_) (fun c30 => ?_)
    · have c30 := (nI_leI (by omega) (by have := fb_ct_le (fun j => decide (σ.2.1 22 (12 * r + j) = nI p)) 12; show fb_ct _ _ < _; omega)).mp c30
      have c30b := Nat.not_lt.mpr c30
      refine x_iconst F (nI 0) dX4_fits_47 (by decide) ?_
      rw [hQ]
      exact x_zret F dX4_fits_48 (by decide) (Or.inl rfl) ⟨_, rfl, by simp [fitS, bz, *], rfl⟩
    · have c30 := mt (nI_leI (by omega) (by have := fb_ct_le (fun j => decide (σ.2.1 22 (12 * r + j) = nI p)) 12; show fb_ct _ _ < _; omega)).mpr c30
      have c30b := Nat.not_le.mp c30
      refine x_aload_n F 0 dX4_fits_33 rfl ?_
      refine x_iload_n F 1 dX4_fits_34 rfl ?_
      refine x_iload_n F 2 dX4_fits_35 rfl ?_
      refine x_iload_n F 3 dX4_fits_36 rfl ?_
      refine x_callV F s_X4_148 hR.1 rfl rfl (c_X4_gets F.nt hR hB (by omega) (by omega) (by omega)) rfl dX4_fits_37 (by decide) (by decide) (Nat.le_of_ble_eq_true rfl) x_noX (ki fun r_3 M2_3 hp_3 => ?_)
      obtain ⟨rfl, rfl⟩ := hp_3
      refine x_if_eq F 47 dX4_fits_40 (by decide) (fun c40 => ?_) (fun c40 => ?_)
      · have c40 := nI_bz0.mp c40
        refine x_iconst F (nI 0) dX4_fits_47 (by decide) ?_
        rw [hQ]
        exact x_zret F dX4_fits_48 (by decide) (Or.inl rfl) ⟨_, rfl, by simp [fitS, bz, *], rfl⟩
      · have c40 := nI_bz1.mp c40
        refine x_iconst F (nI 1) dX4_fits_43 (by decide) ?_
        refine x_goto F 48 dX4_fits_44 (by decide) ?_
        rw [hQ]
        exact x_zret F dX4_fits_48 (by decide) (Or.inr rfl) ⟨_, rfl, by simp [fitS, bz, *], rfl⟩
set_option maxHeartbeats 4000000 in
set_option maxRecDepth 100000 in
theorem c_X4_places {l : Launch} (hl : l.stackTraces = false) {g : GP} {M : MM} {m : Nat} {M0 : MM} {σ : ST} {r j : Nat} (hR : RM g m M0 σ M) (hB : Bd σ) (hr : r < 8) (hj : j < 12) : CT l g yX4_places cX4_places 5 (none : Option Jvm.ClassFile.FieldType) 3 71 0 0 [.ref (m), .int (nI (r)), .int (nI (j))] M (pV (fun M9 => RM g m M0 (plU σ r j) M9)) nX := by
  refine ct_of [(0, .ref (m)), (1, .int (nI (r))), (2, .int (nI (j)))] (by decide) hl (Nat.le_of_ble_eq_true rfl) rfl ?_
  intro K hK F
  subst hK
  have F : Fx K g cX4_places RX4 5 (none : Option Jvm.ClassFile.FieldType) [] 3 71 0 0 := F
  obtain ⟨Q, hQ⟩ : ∃ Q, Q = MQx K g (pV (fun M9 => RM g m M0 (plU σ r j) M9)) nX 0 0 := ⟨_, rfl⟩
  rw [← hQ]
  have hB9 := hB
  obtain ⟨h6, h7, h18, hr8, hk96, hp96, hb16, hh⟩ := hB9
  have b1 := hr8 r hr
  have b2 := hk96 (12 * r + j) (by omega)
  refine x_iconst F ((-1)) dX4_places_0 (by decide) ?_
  refine x_istore_n F [(3, .int ((-1))), (0, .ref (m)), (1, .int (nI (r))), (2, .int (nI (j)))] dX4_places_1 (by decide) rfl ?_
  refine x_aload_n F 1 dX4_places_2 rfl ?_
  refine x_fget F f_X4_35 hR.1 (v := .ref (rA m 11)) dX4_places_3 rfl ?_
  refine x_iload_n F 2 dX4_places_6 rfl ?_
  refine x_mld F hR 11 rfl (fun _ _ => rfl) dX4_places_7 (by show _ < 8; omega) ?_
  refine x_iconst F (nI 1) dX4_places_8 (by decide) ?_
  refine x_isub F dX4_places_9 ?_
  refine x_istore F [(4, .int (nI (σ.1 11 (r)) - nI 1)), (3, .int ((-1))), (0, .ref (m)), (1, .int (nI (r))), (2, .int (nI (j)))] dX4_places_10 (by decide) rfl ?_
  have LP12 : ∀ i, i ≤ (σ.1 11 r) → ∀ (v12_3 : Int32) (v12_4 : Int32), v12_3 = fF (fitS σ r j) (σ.1 11 r - i) i → v12_4 = nI (σ.1 11 r - i) - nI 1 → XW K g 5 Q M 0 0 12 [(4, .int (v12_4)), (3, .int (v12_3)), (0, .ref (m)), (1, .int (nI (r))), (2, .int (nI (j)))] [] := by
    refine x_loop ((σ.1 11 r)) _ (fun i hi ihi => ?_)
    intro v12_3 v12_4 e12_3 e12_4
    subst e12_3
    subst e12_4
    refine x_iload F 0 dX4_places_12 rfl ?_
    refine x_if_lt F 41 dX4_places_14 (by decide) (fun c14 => ?_) (fun c14 => ?_)
    · have h9 : i = σ.1 11 r := by have := (nI_dn (by omega)).mp c14; omega
      have e3 : fF (fitS σ r j) (σ.1 11 r - i) i = fF (fitS σ r j) 0 (σ.1 11 r) := by rw [h9, Nat.sub_self]
      rw [e3]
      refine x_aload_n F 2 dX4_places_41 rfl ?_
      refine x_fget F f_X4_62 hR.1 (v := .ref (rA m 21)) dX4_places_42 rfl ?_
      refine x_iload_n F 3 dX4_places_45 rfl ?_
      refine x_iload_n F 4 dX4_places_46 rfl ?_
      refine x_callS F s_X4_118 rfl (c_X4_at F.nt ) rfl dX4_places_47 (by decide) (by decide) (Nat.le_of_ble_eq_true rfl) x_noX (ki fun r M2 hp => ?_)
      obtain ⟨rfl, rfl⟩ := hp
      refine x_mld F hR 21 rfl (fun _ _ => rfl) dX4_places_50 (by show _ < 96; omega) ?_
      refine x_istore F [(4, .int (nI (σ.1 21 (12 * r + j)))), (3, .int (fF (fitS σ r j) 0 (σ.1 11 r))), (0, .ref (m)), (1, .int (nI (r))), (2, .int (nI (j)))] dX4_places_51 (by decide) rfl ?_
      refine x_aload_n F 2 dX4_places_53 rfl ?_
      refine x_fget F f_X4_65 hR.1 (v := .ref (rA m 22)) dX4_places_54 rfl ?_
      refine x_iload_n F 3 dX4_places_57 rfl ?_
      refine x_iload_n F 4 dX4_places_58 rfl ?_
      refine x_callS F s_X4_118 rfl (c_X4_at F.nt ) rfl dX4_places_59 (by decide) (by decide) (Nat.le_of_ble_eq_true rfl) x_noX (ki fun r_2 M2_2 hp_2 => ?_)
      obtain ⟨rfl, rfl⟩ := hp_2
      refine x_aload_n F 2 dX4_places_62 rfl ?_
      refine x_iload_n F 3 dX4_places_63 rfl ?_
      refine x_iload_n F 4 dX4_places_64 rfl ?_
      refine x_iload F 0 dX4_places_65 rfl ?_
      refine x_callV F s_X4_151 hR.1 rfl rfl (c_X4_fits F.nt hR hB (by omega) (by omega) (by omega)) rfl dX4_places_67 (by decide) (by decide) (Nat.le_of_ble_eq_true rfl) x_noX (ki fun r_3 M2_3 hp_3 => ?_)
      obtain ⟨rfl, rfl⟩ := hp_3
      refine x_if_eq F 78 dX4_places_70 (by decide) (fun c70 => ?_) (fun c70 => ?_)
      · have c70 := nI_bz0.mp c70
        refine x_iload_n F 1 dX4_places_78 rfl ?_
        refine x_mstR F hR 22 rfl (fun _ _ => rfl) dX4_places_79 (by show _ < 96; omega) (fun M1 hR1 => ?_)
        rw [hQ]
        exact x_vret F dX4_places_80 (by decide) ⟨rfl, (show (uR σ 22 (12 * r + j) ((fF (fitS σ r j) 0 (σ.1 11 r)))) = plU σ r j by simp [plU, plcS, *]) ▸ hR1⟩
      · have c70 := nI_bz1.mp c70
        refine x_iload F 0 dX4_places_73 rfl ?_
        refine x_goto F 79 dX4_places_75 (by decide) ?_
        refine x_mstR F hR 22 rfl (fun _ _ => rfl) dX4_places_79 (by show _ < 96; omega) (fun M1_2 hR1_2 => ?_)
        rw [hQ]
        exact x_vret F dX4_places_80 (by decide) ⟨rfl, (show (uR σ 22 (12 * r + j) (nI (σ.1 21 (12 * r + j)))) = plU σ r j by simp [plU, plcS, *]) ▸ hR1_2⟩
    · have h9 : i < σ.1 11 r := by have := mt (nI_dn (by omega)).mpr c14; omega
      have e4 : nI (σ.1 11 r - i) - nI 1 = nI (σ.1 11 r - i - 1) := pk_sub (by omega)
      rw [e4]
      refine x_aload_n F 2 dX4_places_17 rfl ?_
      refine x_iload_n F 3 dX4_places_18 rfl ?_
      refine x_iload_n F 4 dX4_places_19 rfl ?_
      refine x_iload F 0 dX4_places_20 rfl ?_
      refine x_callV F s_X4_151 hR.1 rfl rfl (c_X4_fits F.nt hR hB (by omega) (by omega) (by omega)) rfl dX4_places_22 (by decide) (by decide) (Nat.le_of_ble_eq_true rfl) x_noX (ki fun r_4 M2_4 hp_4 => ?_)
      obtain ⟨rfl, rfl⟩ := hp_4
      refine x_if_eq F 33 dX4_places_25 (by decide) (fun c25 => ?_) (fun c25 => ?_)
      · have c25 := nI_bz0.mp c25
        refine x_iload_n F 1 dX4_places_33 rfl ?_
        refine x_istore_n F [(3, .int (fF (fitS σ r j) (σ.1 11 r - i) i)), (4, .int (nI (σ.1 11 r - i - 1))), (0, .ref (m)), (1, .int (nI (r))), (2, .int (nI (j)))] dX4_places_34 (by decide) rfl ?_
        refine x_iinc F 1 [(4, .int (nI (σ.1 11 r - i - 1) - nI 1)), (3, .int (fF (fitS σ r j) (σ.1 11 r - i) i)), (0, .ref (m)), (1, .int (nI (r))), (2, .int (nI (j)))] dX4_places_35 rfl (by rw [Int32.sub_eq_add_neg]; rfl) (by decide) rfl ?_
        refine x_goto F 12 dX4_places_38 (by decide) ?_
        exact ihi (by omega) _ _ (by rw [fF_down (by omega)]; simp [*]) (rfl)
      · have c25 := nI_bz1.mp c25
        refine x_iload F 0 dX4_places_28 rfl ?_
        refine x_goto F 34 dX4_places_30 (by decide) ?_
        refine x_istore_n F [(3, .int (nI (σ.1 11 r - i - 1))), (4, .int (nI (σ.1 11 r - i - 1))), (0, .ref (m)), (1, .int (nI (r))), (2, .int (nI (j)))] dX4_places_34 (by decide) rfl ?_
        refine x_iinc F 1 [(4, .int (nI (σ.1 11 r - i - 1) - nI 1)), (3, .int (nI (σ.1 11 r - i - 1))), (0, .ref (m)), (1, .int (nI (r))), (2, .int (nI (j)))] dX4_places_35 rfl (by rw [Int32.sub_eq_add_neg]; rfl) (by decide) rfl ?_
        refine x_goto F 12 dX4_places_38 (by decide) ?_
        exact ihi (by omega) _ _ (by rw [fF_down (by omega)]; simp [*]) (rfl)
  exact LP12 0 (by omega) _ _ (rfl) (rfl)
set_option maxHeartbeats 4000000 in
set_option maxRecDepth 100000 in
theorem c_X4_holds {l : Launch} (hl : l.stackTraces = false) {g : GP} {M : MM} {m : Nat} {M0 : MM} {σ : ST} {x : Nat} (hR : RM g m M0 σ M) (hx : x < 1000) : CT l g yX4_holds cX4_holds 2 (some .boolean) 0 0 0 0 [.ref (m), .int (nI (x))] M (pI (fun r9 M9 => nI (bz (decide (x = 0))) = r9 ∧ RM g m M0 (uN σ 0 0 x) M9)) nX := by
  refine ct_of [(0, .ref (m)), (1, .int (nI (x)))] (by decide) hl (Nat.le_of_ble_eq_true rfl) rfl ?_
  intro K hK F
  subst hK
  have F : Fx K g cX4_holds RX4 2 (some .boolean) [] 0 0 0 0 := F
  obtain ⟨Q, hQ⟩ : ∃ Q, Q = MQx K g (pI (fun r9 M9 => nI (bz (decide (x = 0))) = r9 ∧ RM g m M0 (uN σ 0 0 x) M9)) nX 0 0 := ⟨_, rfl⟩
  rw [← hQ]
  refine x_aload_n F 0 dX4_holds_0 rfl ?_
  refine x_iload_n F 1 dX4_holds_1 rfl ?_
  refine x_mput F hR p_X4_97 (by decide) dX4_holds_2 (fun M1 hR1 => ?_)
  refine x_iload_n F 1 dX4_holds_5 rfl ?_
  refine x_if_ne F 13 dX4_holds_6 (by decide) (fun c6 => ?_) (fun c6 => ?_)
  · have c6 := mt (nI_z (by omega)).mpr c6
    refine x_iconst F (nI 0) dX4_holds_13 (by decide) ?_
    rw [hQ]
    exact x_zret F dX4_holds_14 (by decide) (Or.inl rfl) ⟨_, rfl, by simp [bz, *], hR1⟩
  · have c6 := (nI_z (by omega)).mp c6
    refine x_iconst F (nI 1) dX4_holds_9 (by decide) ?_
    refine x_goto F 14 dX4_holds_10 (by decide) ?_
    rw [hQ]
    exact x_zret F dX4_holds_14 (by decide) (Or.inr rfl) ⟨_, rfl, by simp [bz, *], hR1⟩
end
section
set_option maxHeartbeats 4000000 in
set_option maxRecDepth 100000 in
theorem c_X4_placed {l : Launch} (hl : l.stackTraces = false) {g : GP} {M : MM} {m : Nat} {M0 : MM} {σ : ST} {x0 y0 : Int32} (hR : RM g m M0 σ M) (hB : Bd σ) : CT l g yX4_placed cX4_placed 3 (some .int) 2 43 0 0 [.ref (m), .int (x0), .int (y0)] M (pI (fun r9 M9 => RM g m M0 (uN σ 0 0 (cdRR σ x0 y0)) M9 ∧ (cdRR σ x0 y0 = 0 → r9 = σ.2.1 22 (12 * cl x0 + cl y0)))) nX := by
  refine ct_of [(0, .ref (m)), (1, .int (x0)), (2, .int (y0))] (by decide) hl (Nat.le_of_ble_eq_true rfl) rfl ?_
  intro K hK F
  subst hK
  have F : Fx K g cX4_placed RX4 3 (some .int) [] 2 43 0 0 := F
  obtain ⟨Q, hQ⟩ : ∃ Q, Q = MQx K g (pI (fun r9 M9 => RM g m M0 (uN σ 0 0 (cdRR σ x0 y0)) M9 ∧ (cdRR σ x0 y0 = 0 → r9 = σ.2.1 22 (12 * cl x0 + cl y0)))) nX 0 0 := ⟨_, rfl⟩
  rw [← hQ]
  have hB9 := hB
  obtain ⟨h6, h7, h18, hr8, hk96, hp96, hb16, hh⟩ := hB9
  refine x_aload_n F 0 dX4_placed_0 rfl ?_
  have J22 : ∀ (vj : Int32), vj = nI (cdRR σ x0 y0) → XW K g 3 Q M 0 0 22 [(0, .ref (m)), (1, .int (x0)), (2, .int (y0))] [.int (vj), .ref (m)] := by
    intro vj ej22_vj
    subst ej22_vj
    refine x_callV F s_X4_113 hR.1 rfl rfl (c_X4_holds F.nt hR (lt_cdRR)) rfl dX4_placed_22 (by decide) (by decide) (Nat.le_of_ble_eq_true rfl) x_noX (ki fun r M2 hp => ?_)
    obtain ⟨rfl, hR0⟩ := hp
    obtain ⟨σ0, eσ0⟩ : ∃ z, z = uN σ 0 0 ((cdRR σ x0 y0)) := ⟨_, rfl⟩
    rw [← eσ0] at hR0
    have hBσ0 : Bd σ0 := eσ0 ▸ Bd_u0 hB
    refine x_if_eq F 41 dX4_placed_25 (by decide) (fun c25 => ?_) (fun c25 => ?_)
    · have c25 := nI_bz0.mp c25
      have c25 := of_decide_eq_false c25
      refine x_iconst F (nI 0) dX4_placed_41 (by decide) ?_
      rw [hQ]
      exact x_iret F dX4_placed_42 (by decide) ⟨_, rfl, eσ0 ▸ hR0, fun h9 => (by first | exact absurd h9 c25 | (rw [cl_nI (by omega), cl_nI (by omega), eσ0]; rfl))⟩
    · have c25 := nI_bz1.mp c25
      have c25 := of_decide_eq_true c25
      obtain ⟨r, j, hr, hj, rfl, rfl⟩ := cdRR_0 hB c25
      refine x_aload_n F 0 dX4_placed_28 rfl ?_
      refine x_fget F f_X4_65 hR0.1 (v := .ref (rA m 22)) dX4_placed_29 rfl ?_
      refine x_iload_n F 1 dX4_placed_32 rfl ?_
      refine x_iload_n F 2 dX4_placed_33 rfl ?_
      refine x_callS F s_X4_118 rfl (c_X4_at F.nt ) rfl dX4_placed_34 (by decide) (by decide) (Nat.le_of_ble_eq_true rfl) x_noX (ki fun r_2 M2_2 hp_2 => ?_)
      obtain ⟨rfl, rfl⟩ := hp_2
      refine x_mldR F hR0 22 rfl (fun _ _ => rfl) dX4_placed_37 (by show _ < 96; omega) ?_
      refine x_goto F 42 dX4_placed_38 (by decide) ?_
      rw [hQ]
      exact x_iret F dX4_placed_42 (by decide) ⟨_, rfl, eσ0 ▸ hR0, fun h9 => (by first | exact absurd h9 c25 | (rw [cl_nI (by omega), cl_nI (by omega), eσ0]; rfl))⟩
  refine x_aload_n F 0 dX4_placed_1 rfl ?_
  refine x_iload_n F 1 dX4_placed_2 rfl ?_
  refine x_callV F s_X4_129 hR.1 rfl rfl (c_X4_isRodeo F.nt hR (by omega)) rfl dX4_placed_3 (by decide) (by decide) (Nat.le_of_ble_eq_true rfl) x_noX (ki fun r_3 M2_3 hp_3 => ?_)
  obtain ⟨rfl, rfl⟩ := hp_3
  refine x_if_eq F 21 dX4_placed_6 (by decide) (fun c6 => ?_) (fun c6 => ?_)
  · have c6 := nI_bz0.mp c6
    refine x_iconst F (nI 1) dX4_placed_21 (by decide) ?_
    exact J22 _ (by simp [cdRR, *])
  · have c6 := nI_bz1.mp c6
    refine x_aload_n F 0 dX4_placed_9 rfl ?_
    refine x_iload_n F 2 dX4_placed_10 rfl ?_
    refine x_callV F s_X4_135 hR.1 rfl rfl (c_X4_isRider F.nt hR (by omega)) rfl dX4_placed_11 (by decide) (by decide) (Nat.le_of_ble_eq_true rfl) x_noX (ki fun r_4 M2_4 hp_4 => ?_)
    obtain ⟨rfl, rfl⟩ := hp_4
    refine x_if_eq F 21 dX4_placed_14 (by decide) (fun c14 => ?_) (fun c14 => ?_)
    · have c14 := nI_bz0.mp c14
      refine x_iconst F (nI 1) dX4_placed_21 (by decide) ?_
      exact J22 _ (by simp [cdRR, *])
    · have c14 := nI_bz1.mp c14
      refine x_iconst F (nI 0) dX4_placed_17 (by decide) ?_
      refine x_goto F 22 dX4_placed_18 (by decide) ?_
      exact J22 _ (by simp [cdRR, *])
set_option maxHeartbeats 4000000 in
set_option maxRecDepth 100000 in
theorem c_X4_drawn_ {l : Launch} (hl : l.stackTraces = false) {g : GP} {M : MM} {m : Nat} {M0 : MM} {σ : ST} {x0 y0 : Int32} (hR : RM g m M0 σ M) (hB : Bd σ) : CT l g yX4_drawn_ cX4_drawn_ 3 (some .int) 2 43 0 0 [.ref (m), .int (x0), .int (y0)] M (pI (fun r9 M9 => RM g m M0 (uN σ 0 0 (cdRR σ x0 y0)) M9 ∧ (cdRR σ x0 y0 = 0 → r9 = σ.2.1 23 (12 * cl x0 + cl y0)))) nX := by
  refine ct_of [(0, .ref (m)), (1, .int (x0)), (2, .int (y0))] (by decide) hl (Nat.le_of_ble_eq_true rfl) rfl ?_
  intro K hK F
  subst hK
  have F : Fx K g cX4_drawn_ RX4 3 (some .int) [] 2 43 0 0 := F
  obtain ⟨Q, hQ⟩ : ∃ Q, Q = MQx K g (pI (fun r9 M9 => RM g m M0 (uN σ 0 0 (cdRR σ x0 y0)) M9 ∧ (cdRR σ x0 y0 = 0 → r9 = σ.2.1 23 (12 * cl x0 + cl y0)))) nX 0 0 := ⟨_, rfl⟩
  rw [← hQ]
  have hB9 := hB
  obtain ⟨h6, h7, h18, hr8, hk96, hp96, hb16, hh⟩ := hB9
  refine x_aload_n F 0 dX4_drawn__0 rfl ?_
  have J22 : ∀ (vj : Int32), vj = nI (cdRR σ x0 y0) → XW K g 3 Q M 0 0 22 [(0, .ref (m)), (1, .int (x0)), (2, .int (y0))] [.int (vj), .ref (m)] := by
    intro vj ej22_vj
    subst ej22_vj
    refine x_callV F s_X4_113 hR.1 rfl rfl (c_X4_holds F.nt hR (lt_cdRR)) rfl dX4_drawn__22 (by decide) (by decide) (Nat.le_of_ble_eq_true rfl) x_noX (ki fun r M2 hp => ?_)
    obtain ⟨rfl, hR0⟩ := hp
    obtain ⟨σ0, eσ0⟩ : ∃ z, z = uN σ 0 0 ((cdRR σ x0 y0)) := ⟨_, rfl⟩
    rw [← eσ0] at hR0
    have hBσ0 : Bd σ0 := eσ0 ▸ Bd_u0 hB
    refine x_if_eq F 41 dX4_drawn__25 (by decide) (fun c25 => ?_) (fun c25 => ?_)
    · have c25 := nI_bz0.mp c25
      have c25 := of_decide_eq_false c25
      refine x_iconst F (nI 0) dX4_drawn__41 (by decide) ?_
      rw [hQ]
      exact x_iret F dX4_drawn__42 (by decide) ⟨_, rfl, eσ0 ▸ hR0, fun h9 => (by first | exact absurd h9 c25 | (rw [cl_nI (by omega), cl_nI (by omega), eσ0]; rfl))⟩
    · have c25 := nI_bz1.mp c25
      have c25 := of_decide_eq_true c25
      obtain ⟨r, j, hr, hj, rfl, rfl⟩ := cdRR_0 hB c25
      refine x_aload_n F 0 dX4_drawn__28 rfl ?_
      refine x_fget F f_X4_68 hR0.1 (v := .ref (rA m 23)) dX4_drawn__29 rfl ?_
      refine x_iload_n F 1 dX4_drawn__32 rfl ?_
      refine x_iload_n F 2 dX4_drawn__33 rfl ?_
      refine x_callS F s_X4_118 rfl (c_X4_at F.nt ) rfl dX4_drawn__34 (by decide) (by decide) (Nat.le_of_ble_eq_true rfl) x_noX (ki fun r_2 M2_2 hp_2 => ?_)
      obtain ⟨rfl, rfl⟩ := hp_2
      refine x_mldR F hR0 23 rfl (fun _ _ => rfl) dX4_drawn__37 (by show _ < 96; omega) ?_
      refine x_goto F 42 dX4_drawn__38 (by decide) ?_
      rw [hQ]
      exact x_iret F dX4_drawn__42 (by decide) ⟨_, rfl, eσ0 ▸ hR0, fun h9 => (by first | exact absurd h9 c25 | (rw [cl_nI (by omega), cl_nI (by omega), eσ0]; rfl))⟩
  refine x_aload_n F 0 dX4_drawn__1 rfl ?_
  refine x_iload_n F 1 dX4_drawn__2 rfl ?_
  refine x_callV F s_X4_129 hR.1 rfl rfl (c_X4_isRodeo F.nt hR (by omega)) rfl dX4_drawn__3 (by decide) (by decide) (Nat.le_of_ble_eq_true rfl) x_noX (ki fun r_3 M2_3 hp_3 => ?_)
  obtain ⟨rfl, rfl⟩ := hp_3
  refine x_if_eq F 21 dX4_drawn__6 (by decide) (fun c6 => ?_) (fun c6 => ?_)
  · have c6 := nI_bz0.mp c6
    refine x_iconst F (nI 1) dX4_drawn__21 (by decide) ?_
    exact J22 _ (by simp [cdRR, *])
  · have c6 := nI_bz1.mp c6
    refine x_aload_n F 0 dX4_drawn__9 rfl ?_
    refine x_iload_n F 2 dX4_drawn__10 rfl ?_
    refine x_callV F s_X4_135 hR.1 rfl rfl (c_X4_isRider F.nt hR (by omega)) rfl dX4_drawn__11 (by decide) (by decide) (Nat.le_of_ble_eq_true rfl) x_noX (ki fun r_4 M2_4 hp_4 => ?_)
    obtain ⟨rfl, rfl⟩ := hp_4
    refine x_if_eq F 21 dX4_drawn__14 (by decide) (fun c14 => ?_) (fun c14 => ?_)
    · have c14 := nI_bz0.mp c14
      refine x_iconst F (nI 1) dX4_drawn__21 (by decide) ?_
      exact J22 _ (by simp [cdRR, *])
    · have c14 := nI_bz1.mp c14
      refine x_iconst F (nI 0) dX4_drawn__17 (by decide) ?_
      refine x_goto F 22 dX4_drawn__18 (by decide) ?_
      exact J22 _ (by simp [cdRR, *])
set_option maxHeartbeats 4000000 in
set_option maxRecDepth 100000 in
theorem c_X4_score {l : Launch} (hl : l.stackTraces = false) {g : GP} {M : MM} {m : Nat} {M0 : MM} {σ : ST} {x0 y0 : Int32} (hR : RM g m M0 σ M) (hB : Bd σ) : CT l g yX4_score cX4_score 3 (some .int) 2 43 0 0 [.ref (m), .int (x0), .int (y0)] M (pI (fun r9 M9 => RM g m M0 (uN σ 0 0 (cdRR σ x0 y0)) M9 ∧ (cdRR σ x0 y0 = 0 → r9 = σ.2.1 28 (12 * cl x0 + cl y0)))) nX := by
  refine ct_of [(0, .ref (m)), (1, .int (x0)), (2, .int (y0))] (by decide) hl (Nat.le_of_ble_eq_true rfl) rfl ?_
  intro K hK F
  subst hK
  have F : Fx K g cX4_score RX4 3 (some .int) [] 2 43 0 0 := F
  obtain ⟨Q, hQ⟩ : ∃ Q, Q = MQx K g (pI (fun r9 M9 => RM g m M0 (uN σ 0 0 (cdRR σ x0 y0)) M9 ∧ (cdRR σ x0 y0 = 0 → r9 = σ.2.1 28 (12 * cl x0 + cl y0)))) nX 0 0 := ⟨_, rfl⟩
  rw [← hQ]
  have hB9 := hB
  obtain ⟨h6, h7, h18, hr8, hk96, hp96, hb16, hh⟩ := hB9
  refine x_aload_n F 0 dX4_score_0 rfl ?_
  have J22 : ∀ (vj : Int32), vj = nI (cdRR σ x0 y0) → XW K g 3 Q M 0 0 22 [(0, .ref (m)), (1, .int (x0)), (2, .int (y0))] [.int (vj), .ref (m)] := by
    intro vj ej22_vj
    subst ej22_vj
    refine x_callV F s_X4_113 hR.1 rfl rfl (c_X4_holds F.nt hR (lt_cdRR)) rfl dX4_score_22 (by decide) (by decide) (Nat.le_of_ble_eq_true rfl) x_noX (ki fun r M2 hp => ?_)
    obtain ⟨rfl, hR0⟩ := hp
    obtain ⟨σ0, eσ0⟩ : ∃ z, z = uN σ 0 0 ((cdRR σ x0 y0)) := ⟨_, rfl⟩
    rw [← eσ0] at hR0
    have hBσ0 : Bd σ0 := eσ0 ▸ Bd_u0 hB
    refine x_if_eq F 41 dX4_score_25 (by decide) (fun c25 => ?_) (fun c25 => ?_)
    · have c25 := nI_bz0.mp c25
      have c25 := of_decide_eq_false c25
      refine x_iconst F (nI 0) dX4_score_41 (by decide) ?_
      rw [hQ]
      exact x_iret F dX4_score_42 (by decide) ⟨_, rfl, eσ0 ▸ hR0, fun h9 => (by first | exact absurd h9 c25 | (rw [cl_nI (by omega), cl_nI (by omega), eσ0]; rfl))⟩
    · have c25 := nI_bz1.mp c25
      have c25 := of_decide_eq_true c25
      obtain ⟨r, j, hr, hj, rfl, rfl⟩ := cdRR_0 hB c25
      refine x_aload_n F 0 dX4_score_28 rfl ?_
      refine x_fget F f_X4_84 hR0.1 (v := .ref (rA m 28)) dX4_score_29 rfl ?_
      refine x_iload_n F 1 dX4_score_32 rfl ?_
      refine x_iload_n F 2 dX4_score_33 rfl ?_
      refine x_callS F s_X4_118 rfl (c_X4_at F.nt ) rfl dX4_score_34 (by decide) (by decide) (Nat.le_of_ble_eq_true rfl) x_noX (ki fun r_2 M2_2 hp_2 => ?_)
      obtain ⟨rfl, rfl⟩ := hp_2
      refine x_mldR F hR0 28 rfl (fun _ _ => rfl) dX4_score_37 (by show _ < 96; omega) ?_
      refine x_goto F 42 dX4_score_38 (by decide) ?_
      rw [hQ]
      exact x_iret F dX4_score_42 (by decide) ⟨_, rfl, eσ0 ▸ hR0, fun h9 => (by first | exact absurd h9 c25 | (rw [cl_nI (by omega), cl_nI (by omega), eσ0]; rfl))⟩
  refine x_aload_n F 0 dX4_score_1 rfl ?_
  refine x_iload_n F 1 dX4_score_2 rfl ?_
  refine x_callV F s_X4_129 hR.1 rfl rfl (c_X4_isRodeo F.nt hR (by omega)) rfl dX4_score_3 (by decide) (by decide) (Nat.le_of_ble_eq_true rfl) x_noX (ki fun r_3 M2_3 hp_3 => ?_)
  obtain ⟨rfl, rfl⟩ := hp_3
  refine x_if_eq F 21 dX4_score_6 (by decide) (fun c6 => ?_) (fun c6 => ?_)
  · have c6 := nI_bz0.mp c6
    refine x_iconst F (nI 1) dX4_score_21 (by decide) ?_
    exact J22 _ (by simp [cdRR, *])
  · have c6 := nI_bz1.mp c6
    refine x_aload_n F 0 dX4_score_9 rfl ?_
    refine x_iload_n F 2 dX4_score_10 rfl ?_
    refine x_callV F s_X4_135 hR.1 rfl rfl (c_X4_isRider F.nt hR (by omega)) rfl dX4_score_11 (by decide) (by decide) (Nat.le_of_ble_eq_true rfl) x_noX (ki fun r_4 M2_4 hp_4 => ?_)
    obtain ⟨rfl, rfl⟩ := hp_4
    refine x_if_eq F 21 dX4_score_14 (by decide) (fun c14 => ?_) (fun c14 => ?_)
    · have c14 := nI_bz0.mp c14
      refine x_iconst F (nI 1) dX4_score_21 (by decide) ?_
      exact J22 _ (by simp [cdRR, *])
    · have c14 := nI_bz1.mp c14
      refine x_iconst F (nI 0) dX4_score_17 (by decide) ?_
      refine x_goto F 22 dX4_score_18 (by decide) ?_
      exact J22 _ (by simp [cdRR, *])
set_option maxHeartbeats 4000000 in
set_option maxRecDepth 100000 in
theorem c_X4_got {l : Launch} (hl : l.stackTraces = false) {g : GP} {M : MM} {m : Nat} {M0 : MM} {σ : ST} {x0 y0 : Int32} (hR : RM g m M0 σ M) (hB : Bd σ) : CT l g yX4_got cX4_got 3 (some .int) 2 43 0 0 [.ref (m), .int (x0), .int (y0)] M (pI (fun r9 M9 => RM g m M0 (uN σ 0 0 (cdRR σ x0 y0)) M9 ∧ (cdRR σ x0 y0 = 0 → r9 = nI (σ.1 29 (12 * cl x0 + cl y0))))) nX := by
  refine ct_of [(0, .ref (m)), (1, .int (x0)), (2, .int (y0))] (by decide) hl (Nat.le_of_ble_eq_true rfl) rfl ?_
  intro K hK F
  subst hK
  have F : Fx K g cX4_got RX4 3 (some .int) [] 2 43 0 0 := F
  obtain ⟨Q, hQ⟩ : ∃ Q, Q = MQx K g (pI (fun r9 M9 => RM g m M0 (uN σ 0 0 (cdRR σ x0 y0)) M9 ∧ (cdRR σ x0 y0 = 0 → r9 = nI (σ.1 29 (12 * cl x0 + cl y0))))) nX 0 0 := ⟨_, rfl⟩
  rw [← hQ]
  have hB9 := hB
  obtain ⟨h6, h7, h18, hr8, hk96, hp96, hb16, hh⟩ := hB9
  refine x_aload_n F 0 dX4_got_0 rfl ?_
  have J22 : ∀ (vj : Int32), vj = nI (cdRR σ x0 y0) → XW K g 3 Q M 0 0 22 [(0, .ref (m)), (1, .int (x0)), (2, .int (y0))] [.int (vj), .ref (m)] := by
    intro vj ej22_vj
    subst ej22_vj
    refine x_callV F s_X4_113 hR.1 rfl rfl (c_X4_holds F.nt hR (lt_cdRR)) rfl dX4_got_22 (by decide) (by decide) (Nat.le_of_ble_eq_true rfl) x_noX (ki fun r M2 hp => ?_)
    obtain ⟨rfl, hR0⟩ := hp
    obtain ⟨σ0, eσ0⟩ : ∃ z, z = uN σ 0 0 ((cdRR σ x0 y0)) := ⟨_, rfl⟩
    rw [← eσ0] at hR0
    have hBσ0 : Bd σ0 := eσ0 ▸ Bd_u0 hB
    refine x_if_eq F 41 dX4_got_25 (by decide) (fun c25 => ?_) (fun c25 => ?_)
    · have c25 := nI_bz0.mp c25
      have c25 := of_decide_eq_false c25
      refine x_iconst F (nI 0) dX4_got_41 (by decide) ?_
      rw [hQ]
      exact x_iret F dX4_got_42 (by decide) ⟨_, rfl, eσ0 ▸ hR0, fun h9 => (by first | exact absurd h9 c25 | (rw [cl_nI (by omega), cl_nI (by omega), eσ0]; rfl))⟩
    · have c25 := nI_bz1.mp c25
      have c25 := of_decide_eq_true c25
      obtain ⟨r, j, hr, hj, rfl, rfl⟩ := cdRR_0 hB c25
      refine x_aload_n F 0 dX4_got_28 rfl ?_
      refine x_fget F f_X4_87 hR0.1 (v := .ref (rA m 29)) dX4_got_29 rfl ?_
      refine x_iload_n F 1 dX4_got_32 rfl ?_
      refine x_iload_n F 2 dX4_got_33 rfl ?_
      refine x_callS F s_X4_118 rfl (c_X4_at F.nt ) rfl dX4_got_34 (by decide) (by decide) (Nat.le_of_ble_eq_true rfl) x_noX (ki fun r_2 M2_2 hp_2 => ?_)
      obtain ⟨rfl, rfl⟩ := hp_2
      refine x_mld F hR0 29 rfl (fun _ _ => rfl) dX4_got_37 (by show _ < 96; omega) ?_
      refine x_goto F 42 dX4_got_38 (by decide) ?_
      rw [hQ]
      exact x_iret F dX4_got_42 (by decide) ⟨_, rfl, eσ0 ▸ hR0, fun h9 => (by first | exact absurd h9 c25 | (rw [cl_nI (by omega), cl_nI (by omega), eσ0]; rfl))⟩
  refine x_aload_n F 0 dX4_got_1 rfl ?_
  refine x_iload_n F 1 dX4_got_2 rfl ?_
  refine x_callV F s_X4_129 hR.1 rfl rfl (c_X4_isRodeo F.nt hR (by omega)) rfl dX4_got_3 (by decide) (by decide) (Nat.le_of_ble_eq_true rfl) x_noX (ki fun r_3 M2_3 hp_3 => ?_)
  obtain ⟨rfl, rfl⟩ := hp_3
  refine x_if_eq F 21 dX4_got_6 (by decide) (fun c6 => ?_) (fun c6 => ?_)
  · have c6 := nI_bz0.mp c6
    refine x_iconst F (nI 1) dX4_got_21 (by decide) ?_
    exact J22 _ (by simp [cdRR, *])
  · have c6 := nI_bz1.mp c6
    refine x_aload_n F 0 dX4_got_9 rfl ?_
    refine x_iload_n F 2 dX4_got_10 rfl ?_
    refine x_callV F s_X4_135 hR.1 rfl rfl (c_X4_isRider F.nt hR (by omega)) rfl dX4_got_11 (by decide) (by decide) (Nat.le_of_ble_eq_true rfl) x_noX (ki fun r_4 M2_4 hp_4 => ?_)
    obtain ⟨rfl, rfl⟩ := hp_4
    refine x_if_eq F 21 dX4_got_14 (by decide) (fun c14 => ?_) (fun c14 => ?_)
    · have c14 := nI_bz0.mp c14
      refine x_iconst F (nI 1) dX4_got_21 (by decide) ?_
      exact J22 _ (by simp [cdRR, *])
    · have c14 := nI_bz1.mp c14
      refine x_iconst F (nI 0) dX4_got_17 (by decide) ?_
      refine x_goto F 22 dX4_got_18 (by decide) ?_
      exact J22 _ (by simp [cdRR, *])
set_option maxHeartbeats 4000000 in
set_option maxRecDepth 100000 in
theorem c_X4_isOffered {l : Launch} (hl : l.stackTraces = false) {g : GP} {M : MM} {m : Nat} {M0 : MM} {σ : ST} {x0 y0 : Int32} (hR : RM g m M0 σ M) (hB : Bd σ) : CT l g yX4_isOffered cX4_isOffered 3 (some .boolean) 2 43 0 0 [.ref (m), .int (x0), .int (y0)] M (pI (fun r9 M9 => RM g m M0 (uN σ 0 0 (cdRR σ x0 y0)) M9 ∧ (cdRR σ x0 y0 = 0 → r9 = nI (bz (decide (¬ σ.1 26 (12 * cl x0 + cl y0) = 0)))))) nX := by
  refine ct_of [(0, .ref (m)), (1, .int (x0)), (2, .int (y0))] (by decide) hl (Nat.le_of_ble_eq_true rfl) rfl ?_
  intro K hK F
  subst hK
  have F : Fx K g cX4_isOffered RX4 3 (some .boolean) [] 2 43 0 0 := F
  obtain ⟨Q, hQ⟩ : ∃ Q, Q = MQx K g (pI (fun r9 M9 => RM g m M0 (uN σ 0 0 (cdRR σ x0 y0)) M9 ∧ (cdRR σ x0 y0 = 0 → r9 = nI (bz (decide (¬ σ.1 26 (12 * cl x0 + cl y0) = 0)))))) nX 0 0 := ⟨_, rfl⟩
  rw [← hQ]
  have hB9 := hB
  obtain ⟨h6, h7, h18, hr8, hk96, hp96, hb16, hh⟩ := hB9
  refine x_aload_n F 0 dX4_isOffered_0 rfl ?_
  have J22 : ∀ (vj : Int32), vj = nI (cdRR σ x0 y0) → XW K g 3 Q M 0 0 22 [(0, .ref (m)), (1, .int (x0)), (2, .int (y0))] [.int (vj), .ref (m)] := by
    intro vj ej22_vj
    subst ej22_vj
    refine x_callV F s_X4_113 hR.1 rfl rfl (c_X4_holds F.nt hR (lt_cdRR)) rfl dX4_isOffered_22 (by decide) (by decide) (Nat.le_of_ble_eq_true rfl) x_noX (ki fun r M2 hp => ?_)
    obtain ⟨rfl, hR0⟩ := hp
    obtain ⟨σ0, eσ0⟩ : ∃ z, z = uN σ 0 0 ((cdRR σ x0 y0)) := ⟨_, rfl⟩
    rw [← eσ0] at hR0
    have hBσ0 : Bd σ0 := eσ0 ▸ Bd_u0 hB
    refine x_if_eq F 45 dX4_isOffered_25 (by decide) (fun c25 => ?_) (fun c25 => ?_)
    · have c25 := nI_bz0.mp c25
      have c25 := of_decide_eq_false c25
      refine x_iconst F (nI 0) dX4_isOffered_45 (by decide) ?_
      rw [hQ]
      exact x_zret F dX4_isOffered_46 (by decide) (Or.inl rfl) ⟨_, rfl, eσ0 ▸ hR0, fun h9 => (by first | exact absurd h9 c25 | (rw [cl_nI (by omega), cl_nI (by omega)]; rw [eσ0] at c38; have c38 : _ := c38; simp [uN] at c38; simp [bz, c38]))⟩
    · have c25 := nI_bz1.mp c25
      have c25 := of_decide_eq_true c25
      obtain ⟨r, j, hr, hj, rfl, rfl⟩ := cdRR_0 hB c25
      refine x_aload_n F 0 dX4_isOffered_28 rfl ?_
      refine x_fget F f_X4_78 hR0.1 (v := .ref (rA m 26)) dX4_isOffered_29 rfl ?_
      refine x_iload_n F 1 dX4_isOffered_32 rfl ?_
      refine x_iload_n F 2 dX4_isOffered_33 rfl ?_
      refine x_callS F s_X4_118 rfl (c_X4_at F.nt ) rfl dX4_isOffered_34 (by decide) (by decide) (Nat.le_of_ble_eq_true rfl) x_noX (ki fun r_2 M2_2 hp_2 => ?_)
      obtain ⟨rfl, rfl⟩ := hp_2
      refine x_mldZ F hR0 26 rfl (fun _ _ => rfl) dX4_isOffered_37 (by show _ < 96; omega) ?_
      refine x_if_eq F 45 dX4_isOffered_38 (by decide) (fun c38 => ?_) (fun c38 => ?_)
      · have c38 := (nI_z (by have := (hBσ0.2.2.2.2.1 (12 * r + j) (by omega)).2.2.2.2.2.1; omega)).mp c38
        refine x_iconst F (nI 0) dX4_isOffered_45 (by decide) ?_
        rw [hQ]
        exact x_zret F dX4_isOffered_46 (by decide) (Or.inl rfl) ⟨_, rfl, eσ0 ▸ hR0, fun h9 => (by first | exact absurd h9 c25 | (rw [cl_nI (by omega), cl_nI (by omega)]; rw [eσ0] at c38; have c38 : _ := c38; simp [uN] at c38; simp [bz, c38]))⟩
      · have c38 := mt (nI_z (by have := (hBσ0.2.2.2.2.1 (12 * r + j) (by omega)).2.2.2.2.2.1; omega)).mpr c38
        refine x_iconst F (nI 1) dX4_isOffered_41 (by decide) ?_
        refine x_goto F 46 dX4_isOffered_42 (by decide) ?_
        rw [hQ]
        exact x_zret F dX4_isOffered_46 (by decide) (Or.inr rfl) ⟨_, rfl, eσ0 ▸ hR0, fun h9 => (by first | exact absurd h9 c25 | (rw [cl_nI (by omega), cl_nI (by omega)]; rw [eσ0] at c38; have c38 : _ := c38; simp [uN] at c38; simp [bz, c38]))⟩
  refine x_aload_n F 0 dX4_isOffered_1 rfl ?_
  refine x_iload_n F 1 dX4_isOffered_2 rfl ?_
  refine x_callV F s_X4_129 hR.1 rfl rfl (c_X4_isRodeo F.nt hR (by omega)) rfl dX4_isOffered_3 (by decide) (by decide) (Nat.le_of_ble_eq_true rfl) x_noX (ki fun r_3 M2_3 hp_3 => ?_)
  obtain ⟨rfl, rfl⟩ := hp_3
  refine x_if_eq F 21 dX4_isOffered_6 (by decide) (fun c6 => ?_) (fun c6 => ?_)
  · have c6 := nI_bz0.mp c6
    refine x_iconst F (nI 1) dX4_isOffered_21 (by decide) ?_
    exact J22 _ (by simp [cdRR, *])
  · have c6 := nI_bz1.mp c6
    refine x_aload_n F 0 dX4_isOffered_9 rfl ?_
    refine x_iload_n F 2 dX4_isOffered_10 rfl ?_
    refine x_callV F s_X4_135 hR.1 rfl rfl (c_X4_isRider F.nt hR (by omega)) rfl dX4_isOffered_11 (by decide) (by decide) (Nat.le_of_ble_eq_true rfl) x_noX (ki fun r_4 M2_4 hp_4 => ?_)
    obtain ⟨rfl, rfl⟩ := hp_4
    refine x_if_eq F 21 dX4_isOffered_14 (by decide) (fun c14 => ?_) (fun c14 => ?_)
    · have c14 := nI_bz0.mp c14
      refine x_iconst F (nI 1) dX4_isOffered_21 (by decide) ?_
      exact J22 _ (by simp [cdRR, *])
    · have c14 := nI_bz1.mp c14
      refine x_iconst F (nI 0) dX4_isOffered_17 (by decide) ?_
      refine x_goto F 22 dX4_isOffered_18 (by decide) ?_
      exact J22 _ (by simp [cdRR, *])
set_option maxHeartbeats 4000000 in
set_option maxRecDepth 100000 in
theorem c_X4_hide {l : Launch} (hl : l.stackTraces = false) {g : GP} {M : MM} {m : Nat} {M0 : MM} {σ : ST} {x0 : Int32} (hR : RM g m M0 σ M) (hB : Bd σ) : CT l g yX4_hide cX4_hide 2 (none : Option Jvm.ClassFile.FieldType) 1 22 0 0 [.ref (m), .int (x0)] M (pV (fun M9 => RM g m M0 (if cdHi x0 = 0 then uN (uN σ 0 0 (cdHi x0)) 30 0 (cl x0) else uN σ 0 0 (cdHi x0)) M9)) nX := by
  refine ct_of [(0, .ref (m)), (1, .int (x0))] (by decide) hl (Nat.le_of_ble_eq_true rfl) rfl ?_
  intro K hK F
  subst hK
  have F : Fx K g cX4_hide RX4 2 (none : Option Jvm.ClassFile.FieldType) [] 1 22 0 0 := F
  obtain ⟨Q, hQ⟩ : ∃ Q, Q = MQx K g (pV (fun M9 => RM g m M0 (if cdHi x0 = 0 then uN (uN σ 0 0 (cdHi x0)) 30 0 (cl x0) else uN σ 0 0 (cdHi x0)) M9)) nX 0 0 := ⟨_, rfl⟩
  rw [← hQ]
  have hB9 := hB
  obtain ⟨h6, h7, h18, hr8, hk96, hp96, hb16, hh⟩ := hB9
  refine x_aload_n F 0 dX4_hide_0 rfl ?_
  have J16 : ∀ (vj : Int32), vj = nI (cdHi x0) → XW K g 2 Q M 0 0 16 [(0, .ref (m)), (1, .int (x0))] [.int (vj), .ref (m)] := by
    intro vj ej16_vj
    subst ej16_vj
    refine x_callV F s_X4_113 hR.1 rfl rfl (c_X4_holds F.nt hR (lt_cdHi)) rfl dX4_hide_16 (by decide) (by decide) (Nat.le_of_ble_eq_true rfl) x_noX (ki fun r M2 hp => ?_)
    obtain ⟨rfl, hR0⟩ := hp
    obtain ⟨σ0, eσ0⟩ : ∃ z, z = uN σ 0 0 ((cdHi x0)) := ⟨_, rfl⟩
    rw [← eσ0] at hR0
    have hBσ0 : Bd σ0 := eσ0 ▸ Bd_u0 hB
    refine x_if_eq F 27 dX4_hide_19 (by decide) (fun c19 => ?_) (fun c19 => ?_)
    · have c19 := nI_bz0.mp c19
      have c19 := of_decide_eq_false c19
      rw [hQ]
      exact x_vret F dX4_hide_27 (by decide) ⟨rfl, by first | (rw [if_pos c19, cl_nI (by omega), ← eσ0]; exact hR0) | (rw [if_neg c19, ← eσ0]; exact hR0)⟩
    · have c19 := nI_bz1.mp c19
      have c19 := of_decide_eq_true c19
      obtain ⟨j, -, hj, rfl⟩ := inR_t (by decide) (by decide) (show inR x0 (nI 0) (nI 65536) = true by simpa [cdHi] using c19)
      refine x_aload_n F 0 dX4_hide_22 rfl ?_
      refine x_iload_n F 1 dX4_hide_23 rfl ?_
      refine x_mput F hR0 p_X4_90 (by decide) dX4_hide_24 (fun M1 hR1 => ?_)
      rw [hQ]
      exact x_vret F dX4_hide_27 (by decide) ⟨rfl, by first | (rw [if_pos c19, cl_nI (by omega), ← eσ0]; exact hR1) | (rw [if_neg c19, ← eσ0]; exact hR1)⟩
  refine x_iload_n F 1 dX4_hide_1 rfl ?_
  refine x_iconst F (nI 0) dX4_hide_2 (by decide) ?_
  refine x_ldc F (nI 65536) k_X4_163 dX4_hide_3 ?_
  refine x_callS F s_X4_103 rfl (c_X4_isIn F.nt ) rfl dX4_hide_5 (by decide) (by decide) (Nat.le_of_ble_eq_true rfl) x_noX (ki fun r_2 M2_2 hp_2 => ?_)
  obtain ⟨rfl, rfl⟩ := hp_2
  refine x_if_eq F 15 dX4_hide_8 (by decide) (fun c8 => ?_) (fun c8 => ?_)
  · have c8 := nI_bz0.mp c8
    refine x_iconst F (nI 1) dX4_hide_15 (by decide) ?_
    exact J16 _ (by simp [cdHi, *])
  · have c8 := nI_bz1.mp c8
    refine x_iconst F (nI 0) dX4_hide_11 (by decide) ?_
    refine x_goto F 16 dX4_hide_12 (by decide) ?_
    exact J16 _ (by simp [cdHi, *])
set_option maxHeartbeats 4000000 in
set_option maxRecDepth 100000 in
theorem c_X4_rodeoIs {l : Launch} (hl : l.stackTraces = false) {g : GP} {M : MM} {m : Nat} {M0 : MM} {σ : ST} {x0 y0 : Int32} (hR : RM g m M0 σ M) (hB : Bd σ) : CT l g yX4_rodeoIs cX4_rodeoIs 4 (some .int) 4 87 0 0 [.ref (m), .int (x0), .int (y0)] M (pI (fun r9 M9 => RM g m M0 (uN σ 0 0 (cdRI σ x0 y0)) M9 ∧ (cdRI σ x0 y0 = 0 → r9 = tellsS σ (cl x0) y0))) nX := by
  refine ct_of [(0, .ref (m)), (1, .int (x0)), (2, .int (y0))] (by decide) hl (Nat.le_of_ble_eq_true rfl) rfl ?_
  intro K hK F
  subst hK
  have F : Fx K g cX4_rodeoIs RX4 4 (some .int) [] 4 87 0 0 := F
  obtain ⟨Q, hQ⟩ : ∃ Q, Q = MQx K g (pI (fun r9 M9 => RM g m M0 (uN σ 0 0 (cdRI σ x0 y0)) M9 ∧ (cdRI σ x0 y0 = 0 → r9 = tellsS σ (cl x0) y0))) nX 0 0 := ⟨_, rfl⟩
  rw [← hQ]
  have hB9 := hB
  obtain ⟨h6, h7, h18, hr8, hk96, hp96, hb16, hh⟩ := hB9
  refine x_aload_n F 0 dX4_rodeoIs_0 rfl ?_
  refine x_iload_n F 1 dX4_rodeoIs_1 rfl ?_
  refine x_callV F s_X4_129 hR.1 rfl rfl (c_X4_isRodeo F.nt hR (by omega)) rfl dX4_rodeoIs_2 (by decide) (by decide) (Nat.le_of_ble_eq_true rfl) x_noX (ki fun r M2 hp => ?_)
  obtain ⟨rfl, rfl⟩ := hp
  refine x_istore_n F [(3, .int (nI (bz (inN x0 (σ.1 18 0))))), (0, .ref (m)), (1, .int (x0)), (2, .int (y0))] dX4_rodeoIs_5 (by decide) rfl ?_
  refine x_aload_n F 1 dX4_rodeoIs_6 rfl ?_
  have J29 : ∀ (vj : Int32), vj = nI (cdRI σ x0 y0) → XW K g 4 Q M 0 0 29 [(3, .int (nI (bz (inN x0 (σ.1 18 0))))), (0, .ref (m)), (1, .int (x0)), (2, .int (y0))] [.int (vj), .ref (m)] := by
    intro vj ej29_vj
    subst ej29_vj
    refine x_callV F s_X4_113 hR.1 rfl rfl (c_X4_holds F.nt hR (lt_cdRI)) rfl dX4_rodeoIs_29 (by decide) (by decide) (Nat.le_of_ble_eq_true rfl) x_noX (ki fun r_2 M2_2 hp_2 => ?_)
    obtain ⟨rfl, hR0⟩ := hp_2
    obtain ⟨σ0, eσ0⟩ : ∃ z, z = uN σ 0 0 ((cdRI σ x0 y0)) := ⟨_, rfl⟩
    rw [← eσ0] at hR0
    have hBσ0 : Bd σ0 := eσ0 ▸ Bd_u0 hB
    refine x_if_eq F 44 dX4_rodeoIs_32 (by decide) (fun c32 => ?_) (fun c32 => ?_)
    · have c32 := nI_bz0.mp c32
      have c32 := of_decide_eq_false c32
      refine x_iconst F (nI 0) dX4_rodeoIs_44 (by decide) ?_
      rw [hQ]
      exact x_iret F dX4_rodeoIs_45 (by decide) ⟨_, rfl, eσ0 ▸ hR0, fun h9 => (by first | exact absurd h9 c32 | (rw [cl_nI (by omega), eσ0]; rfl))⟩
    · have c32 := nI_bz1.mp c32
      have c32 := of_decide_eq_true c32
      obtain ⟨r, hr, rfl⟩ := inN_t (n := σ.1 18 0) (by omega) (show inN x0 (σ.1 18 0) = true by (unfold cdRI at c32; by_cases z : inN x0 (σ.1 18 0) = true; exact z; simp [z] at c32))
      refine x_aload_n F 1 dX4_rodeoIs_35 rfl ?_
      refine x_iload_n F 2 dX4_rodeoIs_36 rfl ?_
      refine x_iload_n F 3 dX4_rodeoIs_37 rfl ?_
      refine x_callV F s_X4_132 hR0.1 rfl rfl (c_X4_tells F.nt hR0 (by omega) (by have := (hBσ0.2.2.2.1 r (by omega)).2.2.2.2.2.2.1; omega)) rfl dX4_rodeoIs_38 (by decide) (by decide) (Nat.le_of_ble_eq_true rfl) x_noX (ki fun r_3 M2_3 hp_3 => ?_)
      obtain ⟨rfl, rfl⟩ := hp_3
      refine x_goto F 45 dX4_rodeoIs_41 (by decide) ?_
      rw [hQ]
      exact x_iret F dX4_rodeoIs_45 (by decide) ⟨_, rfl, eσ0 ▸ hR0, fun h9 => (by first | exact absurd h9 c32 | (rw [cl_nI (by omega), eσ0]; rfl))⟩
  refine x_iload_n F 0 dX4_rodeoIs_7 rfl ?_
  refine x_if_ne F 15 dX4_rodeoIs_8 (by decide) (fun c8 => ?_) (fun c8 => ?_)
  · have c8 := nI_bz1.mp c8
    refine x_iload_n F 3 dX4_rodeoIs_15 rfl ?_
    refine x_iconst F (nI 0) dX4_rodeoIs_16 (by decide) ?_
    refine x_iconst F (nI 4) dX4_rodeoIs_17 (by decide) ?_
    refine x_callS F s_X4_103 rfl (c_X4_isIn F.nt ) rfl dX4_rodeoIs_18 (by decide) (by decide) (Nat.le_of_ble_eq_true rfl) x_noX (ki fun r_4 M2_4 hp_4 => ?_)
    obtain ⟨rfl, rfl⟩ := hp_4
    refine x_if_ne F 28 dX4_rodeoIs_21 (by decide) (fun c21 => ?_) (fun c21 => ?_)
    · have c21 := nI_bz1.mp c21
      refine x_iconst F (nI 0) dX4_rodeoIs_28 (by decide) ?_
      exact J29 _ (by simp [cdRI, *])
    · have c21 := nI_bz0.mp c21
      refine x_iconst F (nI 2) dX4_rodeoIs_24 (by decide) ?_
      refine x_goto F 29 dX4_rodeoIs_25 (by decide) ?_
      exact J29 _ (by simp [cdRI, *])
  · have c8 := nI_bz0.mp c8
    refine x_iconst F (nI 1) dX4_rodeoIs_11 (by decide) ?_
    refine x_goto F 29 dX4_rodeoIs_12 (by decide) ?_
    exact J29 _ (by simp [cdRI, *])
end
section
theorem zz_last : (1:Nat) = 1 := rfl
end
