-- ===== PART A: goes FIRST, ahead of the names: the tables' words, and 'selects' of the private methods out of them =====
def lw_okq (q : MethodName × Nat) : Prop := (q.1.cls ≠ "java/lang/invoke/MethodHandle" ∧ q.1.cls ≠ "java/lang/invoke/VarHandle") ∧ Cond.instantiable q.1.cls q.2 ∈ tables_1 ∧ Cond.privateMethod q.1 ∈ tables_1 ∧ Cond.instanceMethod q.1 ∈ tables_1
theorem lw_p0 : lw_okq (⟨"Loopdefaults", "isWalkCounted", "(LLoopdefaults$Row;)Z"⟩, 9) := ⟨⟨by decide +kernel, by decide +kernel⟩, List.mem_of_getElem? (i := 38) (by decide +kernel), List.mem_of_getElem? (i := 184) (by decide +kernel), List.mem_of_getElem? (i := 185) (by decide +kernel)⟩
theorem lw_p1 : lw_okq (⟨"Loopdefaults", "isTakingPlain", "(LLoopdefaults$Row;)Z"⟩, 9) := ⟨⟨by decide +kernel, by decide +kernel⟩, List.mem_of_getElem? (i := 38) (by decide +kernel), List.mem_of_getElem? (i := 294) (by decide +kernel), List.mem_of_getElem? (i := 295) (by decide +kernel)⟩
theorem lw_p2 : lw_okq (⟨"Loopdefaults", "areCopiesLike", "(LLoopdefaults$Table;)Z"⟩, 9) := ⟨⟨by decide +kernel, by decide +kernel⟩, List.mem_of_getElem? (i := 38) (by decide +kernel), List.mem_of_getElem? (i := 332) (by decide +kernel), List.mem_of_getElem? (i := 333) (by decide +kernel)⟩
theorem lw_p3 : lw_okq (⟨"Loopdefaults$Table", "sortKeys", "()V"⟩, 5) := ⟨⟨by decide +kernel, by decide +kernel⟩, List.mem_of_getElem? (i := 83) (by decide +kernel), List.mem_of_getElem? (i := 341) (by decide +kernel), List.mem_of_getElem? (i := 342) (by decide +kernel)⟩
theorem lw_p4 : lw_okq (⟨"Loopdefaults", "areCallsLike", "(LLoopdefaults$Table;)Z"⟩, 9) := ⟨⟨by decide +kernel, by decide +kernel⟩, List.mem_of_getElem? (i := 38) (by decide +kernel), List.mem_of_getElem? (i := 350) (by decide +kernel), List.mem_of_getElem? (i := 351) (by decide +kernel)⟩
theorem lw_p5 : lw_okq (⟨"Loopdefaults", "isCallLike", "(LLoopdefaults$Table;III)Z"⟩, 9) := ⟨⟨by decide +kernel, by decide +kernel⟩, List.mem_of_getElem? (i := 38) (by decide +kernel), List.mem_of_getElem? (i := 354) (by decide +kernel), List.mem_of_getElem? (i := 355) (by decide +kernel)⟩
theorem lw_p6 : lw_okq (⟨"Loopdefaults$Table", "addKey", "(I)V"⟩, 5) := ⟨⟨by decide +kernel, by decide +kernel⟩, List.mem_of_getElem? (i := 83) (by decide +kernel), List.mem_of_getElem? (i := 373) (by decide +kernel), List.mem_of_getElem? (i := 374) (by decide +kernel)⟩
theorem lw_p7 : lw_okq (⟨"Loopdefaults$Table", "takeKey", "(I)V"⟩, 5) := ⟨⟨by decide +kernel, by decide +kernel⟩, List.mem_of_getElem? (i := 83) (by decide +kernel), List.mem_of_getElem? (i := 385) (by decide +kernel), List.mem_of_getElem? (i := 386) (by decide +kernel)⟩
theorem lw_p8 : lw_okq (⟨"java/lang/Throwable", "fillInStackTrace", "(I)Ljava/lang/Throwable;"⟩, 6) := ⟨⟨by decide +kernel, by decide +kernel⟩, List.mem_of_getElem? (i := 452) (by decide +kernel), List.mem_of_getElem? (i := 450) (by decide +kernel), List.mem_of_getElem? (i := 451) (by decide +kernel)⟩
theorem lw_p9 : lw_okq (⟨"Loopdefaults", "valuesOfRows", "()I"⟩, 9) := ⟨⟨by decide +kernel, by decide +kernel⟩, List.mem_of_getElem? (i := 38) (by decide +kernel), List.mem_of_getElem? (i := 482) (by decide +kernel), List.mem_of_getElem? (i := 483) (by decide +kernel)⟩
theorem lw_p10 : lw_okq (⟨"Loopdefaults", "pairsOfTables", "()I"⟩, 9) := ⟨⟨by decide +kernel, by decide +kernel⟩, List.mem_of_getElem? (i := 38) (by decide +kernel), List.mem_of_getElem? (i := 486) (by decide +kernel), List.mem_of_getElem? (i := 487) (by decide +kernel)⟩
theorem lw_p11 : lw_okq (⟨"Loopdefaults", "numbersHeard", "()I"⟩, 9) := ⟨⟨by decide +kernel, by decide +kernel⟩, List.mem_of_getElem? (i := 38) (by decide +kernel), List.mem_of_getElem? (i := 490) (by decide +kernel), List.mem_of_getElem? (i := 491) (by decide +kernel)⟩
theorem lw_p12 : lw_okq (⟨"Loopdefaults", "rowFor", "(I)LLoopdefaults$Row;"⟩, 9) := ⟨⟨by decide +kernel, by decide +kernel⟩, List.mem_of_getElem? (i := 38) (by decide +kernel), List.mem_of_getElem? (i := 810) (by decide +kernel), List.mem_of_getElem? (i := 811) (by decide +kernel)⟩
theorem lw_p13 : lw_okq (⟨"Loopdefaults", "hearerFor", "(I)LLoopdefaults$Hearer;"⟩, 9) := ⟨⟨by decide +kernel, by decide +kernel⟩, List.mem_of_getElem? (i := 38) (by decide +kernel), List.mem_of_getElem? (i := 882) (by decide +kernel), List.mem_of_getElem? (i := 883) (by decide +kernel)⟩
theorem lw_p14 : lw_okq (⟨"Loopdefaults$Hearer", "keep", "(I)V"⟩, 6) := ⟨⟨by decide +kernel, by decide +kernel⟩, List.mem_of_getElem? (i := 113) (by decide +kernel), List.mem_of_getElem? (i := 894) (by decide +kernel), List.mem_of_getElem? (i := 895) (by decide +kernel)⟩
theorem lw_p15 : lw_okq (⟨"Loopdefaults$Hearer", "dropOldest", "()V"⟩, 6) := ⟨⟨by decide +kernel, by decide +kernel⟩, List.mem_of_getElem? (i := 113) (by decide +kernel), List.mem_of_getElem? (i := 898) (by decide +kernel), List.mem_of_getElem? (i := 899) (by decide +kernel)⟩
def lw_privs_1 : List (MethodName × Nat) := [(⟨"Loopdefaults", "isWalkCounted", "(LLoopdefaults$Row;)Z"⟩, 9), (⟨"Loopdefaults", "isTakingPlain", "(LLoopdefaults$Row;)Z"⟩, 9), (⟨"Loopdefaults", "areCopiesLike", "(LLoopdefaults$Table;)Z"⟩, 9), (⟨"Loopdefaults$Table", "sortKeys", "()V"⟩, 5), (⟨"Loopdefaults", "areCallsLike", "(LLoopdefaults$Table;)Z"⟩, 9), (⟨"Loopdefaults", "isCallLike", "(LLoopdefaults$Table;III)Z"⟩, 9), (⟨"Loopdefaults$Table", "addKey", "(I)V"⟩, 5), (⟨"Loopdefaults$Table", "takeKey", "(I)V"⟩, 5), (⟨"java/lang/Throwable", "fillInStackTrace", "(I)Ljava/lang/Throwable;"⟩, 6), (⟨"Loopdefaults", "valuesOfRows", "()I"⟩, 9), (⟨"Loopdefaults", "pairsOfTables", "()I"⟩, 9), (⟨"Loopdefaults", "numbersHeard", "()I"⟩, 9), (⟨"Loopdefaults", "rowFor", "(I)LLoopdefaults$Row;"⟩, 9), (⟨"Loopdefaults", "hearerFor", "(I)LLoopdefaults$Hearer;"⟩, 9), (⟨"Loopdefaults$Hearer", "keep", "(I)V"⟩, 6), (⟨"Loopdefaults$Hearer", "dropOldest", "()V"⟩, 6)]
theorem lw_r1 : ∀ q ∈ lw_privs_1, lw_okq q := List.forall_mem_cons.mpr ⟨lw_p0, List.forall_mem_cons.mpr ⟨lw_p1, List.forall_mem_cons.mpr ⟨lw_p2, List.forall_mem_cons.mpr ⟨lw_p3, List.forall_mem_cons.mpr ⟨lw_p4, List.forall_mem_cons.mpr ⟨lw_p5, List.forall_mem_cons.mpr ⟨lw_p6, List.forall_mem_cons.mpr ⟨lw_p7, List.forall_mem_cons.mpr ⟨lw_p8, List.forall_mem_cons.mpr ⟨lw_p9, List.forall_mem_cons.mpr ⟨lw_p10, List.forall_mem_cons.mpr ⟨lw_p11, List.forall_mem_cons.mpr ⟨lw_p12, List.forall_mem_cons.mpr ⟨lw_p13, List.forall_mem_cons.mpr ⟨lw_p14, List.forall_mem_cons.mpr ⟨lw_p15, fun _ h => absurd h List.not_mem_nil⟩⟩⟩⟩⟩⟩⟩⟩⟩⟩⟩⟩⟩⟩⟩⟩
theorem lw_p16 : lw_okq (⟨"Loopdefaults", "answer", "(I)I"⟩, 9) := ⟨⟨by decide +kernel, by decide +kernel⟩, List.mem_of_getElem? (i := 38) (by decide +kernel), List.mem_of_getElem? (i := 902) (by decide +kernel), List.mem_of_getElem? (i := 903) (by decide +kernel)⟩
theorem lw_p17 : lw_okq (⟨"Loopdefaults", "refused", "()I"⟩, 9) := ⟨⟨by decide +kernel, by decide +kernel⟩, List.mem_of_getElem? (i := 38) (by decide +kernel), List.mem_of_getElem? (i := 906) (by decide +kernel), List.mem_of_getElem? (i := 907) (by decide +kernel)⟩
theorem lw_p18 : lw_okq (⟨"Loopdefaults", "tableFor", "(II)LLoopdefaults$Table;"⟩, 9) := ⟨⟨by decide +kernel, by decide +kernel⟩, List.mem_of_getElem? (i := 38) (by decide +kernel), List.mem_of_getElem? (i := 974) (by decide +kernel), List.mem_of_getElem? (i := 975) (by decide +kernel)⟩
theorem lw_p19 : lw_okq (⟨"Loopdefaults", "tableFor", "(I)LLoopdefaults$Table;"⟩, 9) := ⟨⟨by decide +kernel, by decide +kernel⟩, List.mem_of_getElem? (i := 38) (by decide +kernel), List.mem_of_getElem? (i := 978) (by decide +kernel), List.mem_of_getElem? (i := 979) (by decide +kernel)⟩
theorem lw_p20 : lw_okq (⟨"Loopdefaults", "tableToReckon", "(IIII)LLoopdefaults$Table;"⟩, 9) := ⟨⟨by decide +kernel, by decide +kernel⟩, List.mem_of_getElem? (i := 38) (by decide +kernel), List.mem_of_getElem? (i := 1030) (by decide +kernel), List.mem_of_getElem? (i := 1031) (by decide +kernel)⟩
theorem lw_p21 : lw_okq (⟨"java/util/ArrayList", "add", "(Ljava/lang/Object;[Ljava/lang/Object;I)V"⟩, 3) := ⟨⟨by decide +kernel, by decide +kernel⟩, List.mem_of_getElem? (i := 1297) (by decide +kernel), List.mem_of_getElem? (i := 1362) (by decide +kernel), List.mem_of_getElem? (i := 1363) (by decide +kernel)⟩
theorem lw_p22 : lw_okq (⟨"java/util/ArrayList", "grow", "()[Ljava/lang/Object;"⟩, 3) := ⟨⟨by decide +kernel, by decide +kernel⟩, List.mem_of_getElem? (i := 1297) (by decide +kernel), List.mem_of_getElem? (i := 1366) (by decide +kernel), List.mem_of_getElem? (i := 1367) (by decide +kernel)⟩
theorem lw_p23 : lw_okq (⟨"java/util/ArrayList", "grow", "(I)[Ljava/lang/Object;"⟩, 3) := ⟨⟨by decide +kernel, by decide +kernel⟩, List.mem_of_getElem? (i := 1297) (by decide +kernel), List.mem_of_getElem? (i := 1370) (by decide +kernel), List.mem_of_getElem? (i := 1371) (by decide +kernel)⟩
theorem lw_p24 : lw_okq (⟨"LoopdefaultsModel", "start", "(ZI)Z"⟩, 8) := ⟨⟨by decide +kernel, by decide +kernel⟩, List.mem_of_getElem? (i := 1291) (by decide +kernel), List.mem_of_getElem? (i := 1448) (by decide +kernel), List.mem_of_getElem? (i := 1449) (by decide +kernel)⟩
theorem lw_p25 : lw_okq (⟨"LoopdefaultsModel", "refuse", "(ZI)Z"⟩, 8) := ⟨⟨by decide +kernel, by decide +kernel⟩, List.mem_of_getElem? (i := 1291) (by decide +kernel), List.mem_of_getElem? (i := 1452) (by decide +kernel), List.mem_of_getElem? (i := 1453) (by decide +kernel)⟩
theorem lw_p26 : lw_okq (⟨"java/util/ArrayList", "fastRemove", "([Ljava/lang/Object;I)V"⟩, 3) := ⟨⟨by decide +kernel, by decide +kernel⟩, List.mem_of_getElem? (i := 1297) (by decide +kernel), List.mem_of_getElem? (i := 1503) (by decide +kernel), List.mem_of_getElem? (i := 1504) (by decide +kernel)⟩
theorem lw_p27 : lw_okq (⟨"LoopdefaultsModel", "hearRow", "(III)I"⟩, 8) := ⟨⟨by decide +kernel, by decide +kernel⟩, List.mem_of_getElem? (i := 1291) (by decide +kernel), List.mem_of_getElem? (i := 1519) (by decide +kernel), List.mem_of_getElem? (i := 1520) (by decide +kernel)⟩
theorem lw_p28 : lw_okq (⟨"LoopdefaultsModel$Hearer", "refuses", "(I)Z"⟩, 5) := ⟨⟨by decide +kernel, by decide +kernel⟩, List.mem_of_getElem? (i := 1329) (by decide +kernel), List.mem_of_getElem? (i := 1528) (by decide +kernel), List.mem_of_getElem? (i := 1529) (by decide +kernel)⟩
theorem lw_p29 : lw_okq (⟨"LoopdefaultsModel", "nine", "()I"⟩, 8) := ⟨⟨by decide +kernel, by decide +kernel⟩, List.mem_of_getElem? (i := 1291) (by decide +kernel), List.mem_of_getElem? (i := 1536) (by decide +kernel), List.mem_of_getElem? (i := 1537) (by decide +kernel)⟩
theorem lw_p30 : lw_okq (⟨"LoopdefaultsModel", "isNoPair", "(III)Z"⟩, 8) := ⟨⟨by decide +kernel, by decide +kernel⟩, List.mem_of_getElem? (i := 1291) (by decide +kernel), List.mem_of_getElem? (i := 1601) (by decide +kernel), List.mem_of_getElem? (i := 1602) (by decide +kernel)⟩
theorem lw_p31 : lw_okq (⟨"LoopdefaultsModel", "valueOf", "(II)I"⟩, 8) := ⟨⟨by decide +kernel, by decide +kernel⟩, List.mem_of_getElem? (i := 1291) (by decide +kernel), List.mem_of_getElem? (i := 1611) (by decide +kernel), List.mem_of_getElem? (i := 1612) (by decide +kernel)⟩
def lw_privs_2 : List (MethodName × Nat) := [(⟨"Loopdefaults", "answer", "(I)I"⟩, 9), (⟨"Loopdefaults", "refused", "()I"⟩, 9), (⟨"Loopdefaults", "tableFor", "(II)LLoopdefaults$Table;"⟩, 9), (⟨"Loopdefaults", "tableFor", "(I)LLoopdefaults$Table;"⟩, 9), (⟨"Loopdefaults", "tableToReckon", "(IIII)LLoopdefaults$Table;"⟩, 9), (⟨"java/util/ArrayList", "add", "(Ljava/lang/Object;[Ljava/lang/Object;I)V"⟩, 3), (⟨"java/util/ArrayList", "grow", "()[Ljava/lang/Object;"⟩, 3), (⟨"java/util/ArrayList", "grow", "(I)[Ljava/lang/Object;"⟩, 3), (⟨"LoopdefaultsModel", "start", "(ZI)Z"⟩, 8), (⟨"LoopdefaultsModel", "refuse", "(ZI)Z"⟩, 8), (⟨"java/util/ArrayList", "fastRemove", "([Ljava/lang/Object;I)V"⟩, 3), (⟨"LoopdefaultsModel", "hearRow", "(III)I"⟩, 8), (⟨"LoopdefaultsModel$Hearer", "refuses", "(I)Z"⟩, 5), (⟨"LoopdefaultsModel", "nine", "()I"⟩, 8), (⟨"LoopdefaultsModel", "isNoPair", "(III)Z"⟩, 8), (⟨"LoopdefaultsModel", "valueOf", "(II)I"⟩, 8)]
theorem lw_r2 : ∀ q ∈ lw_privs_2, lw_okq q := List.forall_mem_cons.mpr ⟨lw_p16, List.forall_mem_cons.mpr ⟨lw_p17, List.forall_mem_cons.mpr ⟨lw_p18, List.forall_mem_cons.mpr ⟨lw_p19, List.forall_mem_cons.mpr ⟨lw_p20, List.forall_mem_cons.mpr ⟨lw_p21, List.forall_mem_cons.mpr ⟨lw_p22, List.forall_mem_cons.mpr ⟨lw_p23, List.forall_mem_cons.mpr ⟨lw_p24, List.forall_mem_cons.mpr ⟨lw_p25, List.forall_mem_cons.mpr ⟨lw_p26, List.forall_mem_cons.mpr ⟨lw_p27, List.forall_mem_cons.mpr ⟨lw_p28, List.forall_mem_cons.mpr ⟨lw_p29, List.forall_mem_cons.mpr ⟨lw_p30, List.forall_mem_cons.mpr ⟨lw_p31, fun _ h => absurd h List.not_mem_nil⟩⟩⟩⟩⟩⟩⟩⟩⟩⟩⟩⟩⟩⟩⟩⟩
theorem lw_p32 : lw_okq (⟨"LoopdefaultsModel", "place", "(II)I"⟩, 8) := ⟨⟨by decide +kernel, by decide +kernel⟩, List.mem_of_getElem? (i := 1291) (by decide +kernel), List.mem_of_getElem? (i := 1615) (by decide +kernel), List.mem_of_getElem? (i := 1616) (by decide +kernel)⟩
theorem lw_p33 : lw_okq (⟨"LoopdefaultsModel", "lay", "(III)V"⟩, 8) := ⟨⟨by decide +kernel, by decide +kernel⟩, List.mem_of_getElem? (i := 1291) (by decide +kernel), List.mem_of_getElem? (i := 1620) (by decide +kernel), List.mem_of_getElem? (i := 1621) (by decide +kernel)⟩
theorem lw_p34 : lw_okq (⟨"java/util/ArrayList", "rangeCheckForAdd", "(I)V"⟩, 3) := ⟨⟨by decide +kernel, by decide +kernel⟩, List.mem_of_getElem? (i := 1297) (by decide +kernel), List.mem_of_getElem? (i := 1628) (by decide +kernel), List.mem_of_getElem? (i := 1629) (by decide +kernel)⟩
theorem lw_p35 : lw_okq (⟨"java/util/ArrayList", "outOfBoundsMsg", "(I)Ljava/lang/String;"⟩, 3) := ⟨⟨by decide +kernel, by decide +kernel⟩, List.mem_of_getElem? (i := 1297) (by decide +kernel), List.mem_of_getElem? (i := 1633) (by decide +kernel), List.mem_of_getElem? (i := 1634) (by decide +kernel)⟩
theorem lw_p36 : lw_okq (⟨"LoopdefaultsModel", "go", "(II)V"⟩, 8) := ⟨⟨by decide +kernel, by decide +kernel⟩, List.mem_of_getElem? (i := 1291) (by decide +kernel), List.mem_of_getElem? (i := 1649) (by decide +kernel), List.mem_of_getElem? (i := 1650) (by decide +kernel)⟩
theorem lw_p37 : lw_okq (⟨"LoopdefaultsModel", "isNoRule", "(IIII)Z"⟩, 8) := ⟨⟨by decide +kernel, by decide +kernel⟩, List.mem_of_getElem? (i := 1291) (by decide +kernel), List.mem_of_getElem? (i := 1673) (by decide +kernel), List.mem_of_getElem? (i := 1674) (by decide +kernel)⟩
theorem lw_p38 : lw_okq (⟨"LoopdefaultsModel", "become", "(III)I"⟩, 8) := ⟨⟨by decide +kernel, by decide +kernel⟩, List.mem_of_getElem? (i := 1291) (by decide +kernel), List.mem_of_getElem? (i := 1677) (by decide +kernel), List.mem_of_getElem? (i := 1678) (by decide +kernel)⟩
theorem lw_p39 : lw_okq (⟨"LoopdefaultsModel", "span", "(IIIII)I"⟩, 8) := ⟨⟨by decide +kernel, by decide +kernel⟩, List.mem_of_getElem? (i := 1291) (by decide +kernel), List.mem_of_getElem? (i := 1765) (by decide +kernel), List.mem_of_getElem? (i := 1766) (by decide +kernel)⟩
theorem lw_p40 : lw_okq (⟨"LoopdefaultsModel$Hearer", "forget", "()V"⟩, 5) := ⟨⟨by decide +kernel, by decide +kernel⟩, List.mem_of_getElem? (i := 1329) (by decide +kernel), List.mem_of_getElem? (i := 1786) (by decide +kernel), List.mem_of_getElem? (i := 1787) (by decide +kernel)⟩
theorem lw_p41 : lw_okq (⟨"LoopdefaultsModel", "heardTold", "(II)I"⟩, 8) := ⟨⟨by decide +kernel, by decide +kernel⟩, List.mem_of_getElem? (i := 1291) (by decide +kernel), List.mem_of_getElem? (i := 1795) (by decide +kernel), List.mem_of_getElem? (i := 1796) (by decide +kernel)⟩
theorem lw_p42 : lw_okq (⟨"LoopdefaultsModel$Hearer", "text", "()Ljava/lang/String;"⟩, 5) := ⟨⟨by decide +kernel, by decide +kernel⟩, List.mem_of_getElem? (i := 1329) (by decide +kernel), List.mem_of_getElem? (i := 1804) (by decide +kernel), List.mem_of_getElem? (i := 1805) (by decide +kernel)⟩
theorem lw_p43 : lw_okq (⟨"LoopdefaultsModel", "houseTold", "(I)I"⟩, 8) := ⟨⟨by decide +kernel, by decide +kernel⟩, List.mem_of_getElem? (i := 1291) (by decide +kernel), List.mem_of_getElem? (i := 1899) (by decide +kernel), List.mem_of_getElem? (i := 1900) (by decide +kernel)⟩
theorem lw_p44 : lw_okq (⟨"LoopdefaultsModel", "isTrue", "()Z"⟩, 8) := ⟨⟨by decide +kernel, by decide +kernel⟩, List.mem_of_getElem? (i := 1291) (by decide +kernel), List.mem_of_getElem? (i := 1907) (by decide +kernel), List.mem_of_getElem? (i := 1908) (by decide +kernel)⟩
def lw_privs_3 : List (MethodName × Nat) := [(⟨"LoopdefaultsModel", "place", "(II)I"⟩, 8), (⟨"LoopdefaultsModel", "lay", "(III)V"⟩, 8), (⟨"java/util/ArrayList", "rangeCheckForAdd", "(I)V"⟩, 3), (⟨"java/util/ArrayList", "outOfBoundsMsg", "(I)Ljava/lang/String;"⟩, 3), (⟨"LoopdefaultsModel", "go", "(II)V"⟩, 8), (⟨"LoopdefaultsModel", "isNoRule", "(IIII)Z"⟩, 8), (⟨"LoopdefaultsModel", "become", "(III)I"⟩, 8), (⟨"LoopdefaultsModel", "span", "(IIIII)I"⟩, 8), (⟨"LoopdefaultsModel$Hearer", "forget", "()V"⟩, 5), (⟨"LoopdefaultsModel", "heardTold", "(II)I"⟩, 8), (⟨"LoopdefaultsModel$Hearer", "text", "()Ljava/lang/String;"⟩, 5), (⟨"LoopdefaultsModel", "houseTold", "(I)I"⟩, 8), (⟨"LoopdefaultsModel", "isTrue", "()Z"⟩, 8)]
theorem lw_r3 : ∀ q ∈ lw_privs_3, lw_okq q := List.forall_mem_cons.mpr ⟨lw_p32, List.forall_mem_cons.mpr ⟨lw_p33, List.forall_mem_cons.mpr ⟨lw_p34, List.forall_mem_cons.mpr ⟨lw_p35, List.forall_mem_cons.mpr ⟨lw_p36, List.forall_mem_cons.mpr ⟨lw_p37, List.forall_mem_cons.mpr ⟨lw_p38, List.forall_mem_cons.mpr ⟨lw_p39, List.forall_mem_cons.mpr ⟨lw_p40, List.forall_mem_cons.mpr ⟨lw_p41, List.forall_mem_cons.mpr ⟨lw_p42, List.forall_mem_cons.mpr ⟨lw_p43, List.forall_mem_cons.mpr ⟨lw_p44, fun _ h => absurd h List.not_mem_nil⟩⟩⟩⟩⟩⟩⟩⟩⟩⟩⟩⟩⟩
def lw_privs : List (MethodName × Nat) := lw_privs_1 ++ (lw_privs_2 ++ (lw_privs_3))
def lw_tbl : List Cond := k2_sels lw_privs ++ tables_1
theorem lw_privs_ok : ∀ q ∈ lw_privs, lw_okq q := by
  show ∀ q ∈ lw_privs_1 ++ (lw_privs_2 ++ (lw_privs_3)), lw_okq q
  exact List.forall_mem_append.mpr ⟨lw_r1, List.forall_mem_append.mpr ⟨lw_r2, lw_r3⟩⟩
-- ===== end of PART A; then your names; then what follows =====
def RX0 : String := "Loopdefaults$Hearer"
def TX0 : u_T := fun k => match k with
  | 0 => ("Loopdefaults$Hearer", "latest", "[I", true)
  | 1 => ("Loopdefaults$Hearer", "kept", "I", false)
  | 2 => ("Loopdefaults$Hearer", "many", "I", false)
  | 3 => ("Loopdefaults$Hearer", "sum", "I", false)
  | 4 => ("Loopdefaults$Hearer", "last", "I", false)
  | _ => ("Loopdefaults$Hearer", "barred", "I", false)
def tyX0 : Nat → FieldType := fun k => match k with
  | 0 => .array .int
  | 1 => .int
  | 2 => .int
  | 3 => .int
  | 4 => .int
  | _ => .int
theorem nmX0 : ∀ a, a < 6 → ∀ b, b < 6 → a ≠ b → (TX0 a).2.1 ≠ (TX0 b).2.1 := by decide +kernel
theorem tyX0_ok : ∀ k, k < 6 → parseFieldDescriptor (TX0 k).2.2.1 = some (tyX0 k) := by decide +kernel
abbrev cX0_init : ByteArray := prog_2_method_1_code
def yX0_init : MethodName := ⟨RX0, "<init>", "()V"⟩
abbrev cX0_takesIn : ByteArray := prog_2_method_2_code
def yX0_takesIn : MethodName := ⟨RX0, "takesIn", "(I)Z"⟩
abbrev cX0_keep : ByteArray := prog_2_method_3_code
def yX0_keep : MethodName := ⟨RX0, "keep", "(I)V"⟩
abbrev cX0_dropOldest : ByteArray := prog_2_method_4_code
def yX0_dropOldest : MethodName := ⟨RX0, "dropOldest", "()V"⟩
abbrev cX0_beginAnew : ByteArray := prog_2_method_5_code
def yX0_beginAnew : MethodName := ⟨RX0, "beginAnew", "()V"⟩
abbrev cX0_tells : ByteArray := prog_2_method_6_code
def yX0_tells : MethodName := ⟨RX0, "tells", "(I)I"⟩
abbrev cX0_recent : ByteArray := prog_2_method_7_code
def yX0_recent : MethodName := ⟨RX0, "recent", "()Ljava/lang/String;"⟩
def RX1 : String := "Loopdefaults$Row"
def TX1 : u_T := fun k => match k with
  | 0 => ("Loopdefaults$Row", "values", "[I", true)
  | 1 => ("Loopdefaults$Row", "tally", "LLoopdefaults$Tally;", true)
  | 2 => ("Loopdefaults$Row", "many", "I", false)
  | _ => ("Loopdefaults$Row", "fixed", "Z", false)
def tyX1 : Nat → FieldType := fun k => match k with
  | 0 => .array .int
  | 1 => .object "Loopdefaults$Tally"
  | 2 => .int
  | _ => .boolean
theorem nmX1 : ∀ a, a < 4 → ∀ b, b < 4 → a ≠ b → (TX1 a).2.1 ≠ (TX1 b).2.1 := by decide +kernel
theorem tyX1_ok : ∀ k, k < 4 → parseFieldDescriptor (TX1 k).2.2.1 = some (tyX1 k) := by decide +kernel
abbrev cX1_init : ByteArray := prog_3_method_1_code
def yX1_init : MethodName := ⟨RX1, "<init>", "()V"⟩
abbrev cX1_isFull : ByteArray := prog_3_method_2_code
def yX1_isFull : MethodName := ⟨RX1, "isFull", "()Z"⟩
abbrev cX1_isPlace : ByteArray := prog_3_method_3_code
def yX1_isPlace : MethodName := ⟨RX1, "isPlace", "(I)Z"⟩
abbrev cX1_valueAt : ByteArray := prog_3_method_4_code
def yX1_valueAt : MethodName := ⟨RX1, "valueAt", "(I)I"⟩
abbrev cX1_setAt : ByteArray := prog_3_method_5_code
def yX1_setAt : MethodName := ⟨RX1, "setAt", "(II)V"⟩
abbrev cX1_append : ByteArray := prog_3_method_6_code
def yX1_append : MethodName := ⟨RX1, "append", "(I)V"⟩
abbrev cX1_shorten : ByteArray := prog_3_method_7_code
def yX1_shorten : MethodName := ⟨RX1, "shorten", "(I)V"⟩
abbrev cX1_takeOut : ByteArray := prog_3_method_8_code
def yX1_takeOut : MethodName := ⟨RX1, "takeOut", "(I)V"⟩
abbrev cX1_become : ByteArray := prog_3_method_9_code
def yX1_become : MethodName := ⟨RX1, "become", "(LLoopdefaults$Row;)V"⟩
def RX2 : String := "Loopdefaults$RowWalk"
def TX2 : u_T := fun k => match k with
  | 0 => ("Loopdefaults$Walk", "tally", "LLoopdefaults$Tally;", true)
  | 1 => ("Loopdefaults$Walk", "key", "I", false)
  | 2 => ("Loopdefaults$Walk", "value", "I", false)
  | 3 => ("Loopdefaults$RowWalk", "row", "LLoopdefaults$Row;", true)
  | _ => ("Loopdefaults$RowWalk", "place", "I", false)
def tyX2 : Nat → FieldType := fun k => match k with
  | 0 => .object "Loopdefaults$Tally"
  | 1 => .int
  | 2 => .int
  | 3 => .object "Loopdefaults$Row"
  | _ => .int
theorem nmX2 : ∀ a, a < 5 → ∀ b, b < 5 → a ≠ b → (TX2 a).2.1 ≠ (TX2 b).2.1 := by decide +kernel
theorem tyX2_ok : ∀ k, k < 5 → parseFieldDescriptor (TX2 k).2.2.1 = some (tyX2 k) := by decide +kernel
abbrev cX2_init : ByteArray := prog_4_method_1_code
def yX2_init : MethodName := ⟨RX2, "<init>", "(LLoopdefaults$Row;)V"⟩
abbrev cX2_isMore : ByteArray := prog_4_method_2_code
def yX2_isMore : MethodName := ⟨RX2, "isMore", "()Z"⟩
abbrev cX2_next : ByteArray := prog_4_method_3_code
def yX2_next : MethodName := ⟨RX2, "next", "()I"⟩
abbrev cX2_putInPlace : ByteArray := prog_4_method_4_code
def yX2_putInPlace : MethodName := ⟨RX2, "putInPlace", "(I)Z"⟩
abbrev cX2_takeAway : ByteArray := prog_4_method_5_code
def yX2_takeAway : MethodName := ⟨RX2, "takeAway", "()Z"⟩
def RX3 : String := "Loopdefaults$SpanWalk"
def TX3 : u_T := fun k => match k with
  | 0 => ("Loopdefaults$Walk", "tally", "LLoopdefaults$Tally;", true)
  | 1 => ("Loopdefaults$Walk", "key", "I", false)
  | 2 => ("Loopdefaults$Walk", "value", "I", false)
  | 3 => ("Loopdefaults$SpanWalk", "to", "I", true)
  | 4 => ("Loopdefaults$SpanWalk", "by", "I", true)
  | _ => ("Loopdefaults$SpanWalk", "ahead", "I", false)
def tyX3 : Nat → FieldType := fun k => match k with
  | 0 => .object "Loopdefaults$Tally"
  | 1 => .int
  | 2 => .int
  | 3 => .int
  | 4 => .int
  | _ => .int
theorem nmX3 : ∀ a, a < 6 → ∀ b, b < 6 → a ≠ b → (TX3 a).2.1 ≠ (TX3 b).2.1 := by decide +kernel
theorem tyX3_ok : ∀ k, k < 6 → parseFieldDescriptor (TX3 k).2.2.1 = some (tyX3 k) := by decide +kernel
abbrev cX3_init : ByteArray := prog_5_method_1_code
def yX3_init : MethodName := ⟨RX3, "<init>", "(III)V"⟩
abbrev cX3_isMore : ByteArray := prog_5_method_2_code
def yX3_isMore : MethodName := ⟨RX3, "isMore", "()Z"⟩
abbrev cX3_next : ByteArray := prog_5_method_3_code
def yX3_next : MethodName := ⟨RX3, "next", "()I"⟩
def RX4 : String := "Loopdefaults$Table"
def TX4 : u_T := fun k => match k with
  | 0 => ("Loopdefaults$Table", "isSorted", "Z", true)
  | 1 => ("Loopdefaults$Table", "values", "[I", true)
  | 2 => ("Loopdefaults$Table", "sequence", "[I", true)
  | 3 => ("Loopdefaults$Table", "tally", "LLoopdefaults$Tally;", true)
  | _ => ("Loopdefaults$Table", "many", "I", false)
def tyX4 : Nat → FieldType := fun k => match k with
  | 0 => .boolean
  | 1 => .array .int
  | 2 => .array .int
  | 3 => .object "Loopdefaults$Tally"
  | _ => .int
theorem nmX4 : ∀ a, a < 5 → ∀ b, b < 5 → a ≠ b → (TX4 a).2.1 ≠ (TX4 b).2.1 := by decide +kernel
theorem tyX4_ok : ∀ k, k < 5 → parseFieldDescriptor (TX4 k).2.2.1 = some (tyX4 k) := by decide +kernel
abbrev cX4_init : ByteArray := prog_6_method_1_code
def yX4_init : MethodName := ⟨RX4, "<init>", "(Z)V"⟩
abbrev cX4_look : ByteArray := prog_6_method_2_code
def yX4_look : MethodName := ⟨RX4, "look", "(I)I"⟩
abbrev cX4_keyAt : ByteArray := prog_6_method_3_code
def yX4_keyAt : MethodName := ⟨RX4, "keyAt", "(I)I"⟩
abbrev cX4_store : ByteArray := prog_6_method_4_code
def yX4_store : MethodName := ⟨RX4, "store", "(II)I"⟩
abbrev cX4_setValue : ByteArray := prog_6_method_5_code
def yX4_setValue : MethodName := ⟨RX4, "setValue", "(II)V"⟩
abbrev cX4_sendAway : ByteArray := prog_6_method_6_code
def yX4_sendAway : MethodName := ⟨RX4, "sendAway", "(I)I"⟩
abbrev cX4_addKey : ByteArray := prog_6_method_7_code
def yX4_addKey : MethodName := ⟨RX4, "addKey", "(I)V"⟩
abbrev cX4_takeKey : ByteArray := prog_6_method_8_code
def yX4_takeKey : MethodName := ⟨RX4, "takeKey", "(I)V"⟩
abbrev cX4_makeEmpty : ByteArray := prog_6_method_9_code
def yX4_makeEmpty : MethodName := ⟨RX4, "makeEmpty", "()I"⟩
abbrev cX4_become : ByteArray := prog_6_method_10_code
def yX4_become : MethodName := ⟨RX4, "become", "(LLoopdefaults$Table;)V"⟩
abbrev cX4_sortKeys : ByteArray := prog_6_method_11_code
def yX4_sortKeys : MethodName := ⟨RX4, "sortKeys", "()V"⟩
abbrev cX4_hasPairsOf : ByteArray := prog_6_method_12_code
def yX4_hasPairsOf : MethodName := ⟨RX4, "hasPairsOf", "(LLoopdefaults$Table;)Z"⟩
abbrev cX4_reckonAbsent : ByteArray := prog_6_method_13_code
def yX4_reckonAbsent : MethodName := ⟨RX4, "reckonAbsent", "(III)I"⟩
abbrev cX4_reckonPresent : ByteArray := prog_6_method_14_code
def yX4_reckonPresent : MethodName := ⟨RX4, "reckonPresent", "(III)I"⟩
abbrev cX4_reckon : ByteArray := prog_6_method_15_code
def yX4_reckon : MethodName := ⟨RX4, "reckon", "(III)I"⟩
abbrev cX4_join : ByteArray := prog_6_method_16_code
def yX4_join : MethodName := ⟨RX4, "join", "(III)I"⟩
abbrev cX4_pairs : ByteArray := prog_6_method_17_code
def yX4_pairs : MethodName := ⟨RX4, "pairs", "()Ljava/lang/String;"⟩
def RX5 : String := "Loopdefaults$TableWalk"
def TX5 : u_T := fun k => match k with
  | 0 => ("Loopdefaults$Walk", "tally", "LLoopdefaults$Tally;", true)
  | 1 => ("Loopdefaults$Walk", "key", "I", false)
  | 2 => ("Loopdefaults$Walk", "value", "I", false)
  | 3 => ("Loopdefaults$TableWalk", "table", "LLoopdefaults$Table;", true)
  | _ => ("Loopdefaults$TableWalk", "place", "I", false)
def tyX5 : Nat → FieldType := fun k => match k with
  | 0 => .object "Loopdefaults$Tally"
  | 1 => .int
  | 2 => .int
  | 3 => .object "Loopdefaults$Table"
  | _ => .int
theorem nmX5 : ∀ a, a < 5 → ∀ b, b < 5 → a ≠ b → (TX5 a).2.1 ≠ (TX5 b).2.1 := by decide +kernel
theorem tyX5_ok : ∀ k, k < 5 → parseFieldDescriptor (TX5 k).2.2.1 = some (tyX5 k) := by decide +kernel
abbrev cX5_init : ByteArray := prog_7_method_1_code
def yX5_init : MethodName := ⟨RX5, "<init>", "(LLoopdefaults$Table;)V"⟩
abbrev cX5_isMore : ByteArray := prog_7_method_2_code
def yX5_isMore : MethodName := ⟨RX5, "isMore", "()Z"⟩
abbrev cX5_next : ByteArray := prog_7_method_3_code
def yX5_next : MethodName := ⟨RX5, "next", "()I"⟩
abbrev cX5_putInPlace : ByteArray := prog_7_method_4_code
def yX5_putInPlace : MethodName := ⟨RX5, "putInPlace", "(I)Z"⟩
def RX6 : String := "Loopdefaults$Tally"
def TX6 : u_T := fun k => match k with
  | _ => ("Loopdefaults$Tally", "counted", "[I", true)
def tyX6 : Nat → FieldType := fun k => match k with
  | _ => .array .int
theorem nmX6 : ∀ a, a < 1 → ∀ b, b < 1 → a ≠ b → (TX6 a).2.1 ≠ (TX6 b).2.1 := by decide +kernel
theorem tyX6_ok : ∀ k, k < 1 → parseFieldDescriptor (TX6 k).2.2.1 = some (tyX6 k) := by decide +kernel
abbrev cX6_init : ByteArray := prog_8_method_1_code
def yX6_init : MethodName := ⟨RX6, "<init>", "()V"⟩
abbrev cX6_add : ByteArray := prog_8_method_2_code
def yX6_add : MethodName := ⟨RX6, "add", "(I)V"⟩
abbrev cX6_of : ByteArray := prog_8_method_3_code
def yX6_of : MethodName := ⟨RX6, "of", "(I)I"⟩
abbrev cX6_startAnew : ByteArray := prog_8_method_4_code
def yX6_startAnew : MethodName := ⟨RX6, "startAnew", "()I"⟩
def RX7 : String := "Loopdefaults$Walk"
abbrev cX7_init : ByteArray := prog_9_method_1_code
def yX7_init : MethodName := ⟨RX7, "<init>", "(LLoopdefaults$Tally;)V"⟩
abbrev cX7_ask : ByteArray := prog_9_method_5_code
def yX7_ask : MethodName := ⟨RX7, "ask", "()Z"⟩
abbrev cX7_give : ByteArray := prog_9_method_6_code
def yX7_give : MethodName := ⟨RX7, "give", "()I"⟩
def RX8 : String := "Loopdefaults"
def TX8 : u_T := fun k => match k with
  | 0 => ("Loopdefaults", "rows", "[LLoopdefaults$Row;", true)
  | 1 => ("Loopdefaults", "shelf", "LLoopdefaults$Table;", true)
  | 2 => ("Loopdefaults", "tables", "[LLoopdefaults$Table;", true)
  | 3 => ("Loopdefaults", "hearers", "[LLoopdefaults$Hearer;", true)
  | 4 => ("Loopdefaults", "trialRow", "LLoopdefaults$Row;", true)
  | 5 => ("Loopdefaults", "trialShelf", "LLoopdefaults$Table;", true)
  | 6 => ("Loopdefaults", "trialTables", "[LLoopdefaults$Table;", true)
  | 7 => ("Loopdefaults", "refusals", "I", false)
  | _ => ("Loopdefaults", "knocks", "I", false)
def tyX8 : Nat → FieldType := fun k => match k with
  | 0 => .array (.object "Loopdefaults$Row")
  | 1 => .object "Loopdefaults$Table"
  | 2 => .array (.object "Loopdefaults$Table")
  | 3 => .array (.object "Loopdefaults$Hearer")
  | 4 => .object "Loopdefaults$Row"
  | 5 => .object "Loopdefaults$Table"
  | 6 => .array (.object "Loopdefaults$Table")
  | 7 => .int
  | _ => .int
theorem nmX8 : ∀ a, a < 9 → ∀ b, b < 9 → a ≠ b → (TX8 a).2.1 ≠ (TX8 b).2.1 := by decide +kernel
theorem tyX8_ok : ∀ k, k < 9 → parseFieldDescriptor (TX8 k).2.2.1 = some (tyX8 k) := by decide +kernel
abbrev cX8_init : ByteArray := prog_1_method_1_code
def yX8_init : MethodName := ⟨RX8, "<init>", "()V"⟩
abbrev cX8_type : ByteArray := prog_1_method_2_code
def yX8_type : MethodName := ⟨RX8, "type", "(II)I"⟩
abbrev cX8_drop : ByteArray := prog_1_method_3_code
def yX8_drop : MethodName := ⟨RX8, "drop", "(II)I"⟩
abbrev cX8_fix : ByteArray := prog_1_method_4_code
def yX8_fix : MethodName := ⟨RX8, "fix", "(IZ)I"⟩
abbrev cX8_hear : ByteArray := prog_1_method_5_code
def yX8_hear : MethodName := ⟨RX8, "hear", "(II)I"⟩
abbrev cX8_rest : ByteArray := prog_1_method_6_code
def yX8_rest : MethodName := ⟨RX8, "rest", "(III)I"⟩
abbrev cX8_removeIf : ByteArray := prog_1_method_7_code
def yX8_removeIf : MethodName := ⟨RX8, "removeIf", "(III)I"⟩
abbrev cX8_replaceAll : ByteArray := prog_1_method_8_code
def yX8_replaceAll : MethodName := ⟨RX8, "replaceAll", "(III)I"⟩
abbrev cX8_copy : ByteArray := prog_1_method_9_code
def yX8_copy : MethodName := ⟨RX8, "copy", "(I)I"⟩
abbrev cX8_put : ByteArray := prog_1_method_10_code
def yX8_put : MethodName := ⟨RX8, "put", "(III)I"⟩
abbrev cX8_remove : ByteArray := prog_1_method_11_code
def yX8_remove : MethodName := ⟨RX8, "remove", "(II)I"⟩
abbrev cX8_putIfAbsent : ByteArray := prog_1_method_12_code
def yX8_putIfAbsent : MethodName := ⟨RX8, "putIfAbsent", "(III)I"⟩
abbrev cX8_replace : ByteArray := prog_1_method_13_code
def yX8_replace : MethodName := ⟨RX8, "replace", "(III)I"⟩
abbrev cX8_replaceIf : ByteArray := prog_1_method_14_code
def yX8_replaceIf : MethodName := ⟨RX8, "replaceIf", "(IIII)Z"⟩
abbrev cX8_removePair : ByteArray := prog_1_method_15_code
def yX8_removePair : MethodName := ⟨RX8, "removePair", "(III)Z"⟩
abbrev cX8_computeIfAbsent : ByteArray := prog_1_method_16_code
def yX8_computeIfAbsent : MethodName := ⟨RX8, "computeIfAbsent", "(IIII)I"⟩
abbrev cX8_computeIfPresent : ByteArray := prog_1_method_17_code
def yX8_computeIfPresent : MethodName := ⟨RX8, "computeIfPresent", "(IIII)I"⟩
abbrev cX8_compute : ByteArray := prog_1_method_18_code
def yX8_compute : MethodName := ⟨RX8, "compute", "(IIII)I"⟩
abbrev cX8_merge : ByteArray := prog_1_method_19_code
def yX8_merge : MethodName := ⟨RX8, "merge", "(IIII)I"⟩
abbrev cX8_hearTable : ByteArray := prog_1_method_20_code
def yX8_hearTable : MethodName := ⟨RX8, "hearTable", "(II)I"⟩
abbrev cX8_replaceTable : ByteArray := prog_1_method_21_code
def yX8_replaceTable : MethodName := ⟨RX8, "replaceTable", "(III)I"⟩
abbrev cX8_clear : ByteArray := prog_1_method_22_code
def yX8_clear : MethodName := ⟨RX8, "clear", "(I)I"⟩
abbrev cX8_hearSpan : ByteArray := prog_1_method_23_code
def yX8_hearSpan : MethodName := ⟨RX8, "hearSpan", "(IIII)I"⟩
abbrev cX8_hearSteps : ByteArray := prog_1_method_24_code
def yX8_hearSteps : MethodName := ⟨RX8, "hearSteps", "(IIIII)I"⟩
abbrev cX8_takeStep : ByteArray := prog_1_method_25_code
def yX8_takeStep : MethodName := ⟨RX8, "takeStep", "(II)I"⟩
abbrev cX8_stop : ByteArray := prog_1_method_26_code
def yX8_stop : MethodName := ⟨RX8, "stop", "(II)I"⟩
abbrev cX8_forget : ByteArray := prog_1_method_27_code
def yX8_forget : MethodName := ⟨RX8, "forget", "(I)I"⟩
abbrev cX8_heard : ByteArray := prog_1_method_28_code
def yX8_heard : MethodName := ⟨RX8, "heard", "(II)I"⟩
abbrev cX8_heardText : ByteArray := prog_1_method_29_code
def yX8_heardText : MethodName := ⟨RX8, "heardText", "(I)Ljava/lang/String;"⟩
abbrev cX8_length : ByteArray := prog_1_method_30_code
def yX8_length : MethodName := ⟨RX8, "length", "(I)I"⟩
abbrev cX8_at : ByteArray := prog_1_method_31_code
def yX8_at : MethodName := ⟨RX8, "at", "(II)I"⟩
abbrev cX8_rowText : ByteArray := prog_1_method_32_code
def yX8_rowText : MethodName := ⟨RX8, "rowText", "(I)Ljava/lang/String;"⟩
abbrev cX8_isFixed : ByteArray := prog_1_method_33_code
def yX8_isFixed : MethodName := ⟨RX8, "isFixed", "(I)Z"⟩
abbrev cX8_counts : ByteArray := prog_1_method_34_code
def yX8_counts : MethodName := ⟨RX8, "counts", "(II)I"⟩
abbrev cX8_shelfCounts : ByteArray := prog_1_method_35_code
def yX8_shelfCounts : MethodName := ⟨RX8, "shelfCounts", "(I)I"⟩
abbrev cX8_forgetCounts : ByteArray := prog_1_method_36_code
def yX8_forgetCounts : MethodName := ⟨RX8, "forgetCounts", "()I"⟩
abbrev cX8_get : ByteArray := prog_1_method_37_code
def yX8_get : MethodName := ⟨RX8, "get", "(II)I"⟩
abbrev cX8_getOr : ByteArray := prog_1_method_38_code
def yX8_getOr : MethodName := ⟨RX8, "getOr", "(III)I"⟩
abbrev cX8_has : ByteArray := prog_1_method_39_code
def yX8_has : MethodName := ⟨RX8, "has", "(II)Z"⟩
abbrev cX8_size : ByteArray := prog_1_method_40_code
def yX8_size : MethodName := ⟨RX8, "size", "(I)I"⟩
abbrev cX8_text : ByteArray := prog_1_method_41_code
def yX8_text : MethodName := ⟨RX8, "text", "(I)Ljava/lang/String;"⟩
abbrev cX8_areLike : ByteArray := prog_1_method_42_code
def yX8_areLike : MethodName := ⟨RX8, "areLike", "(II)Z"⟩
abbrev cX8_given : ByteArray := prog_1_method_43_code
def yX8_given : MethodName := ⟨RX8, "given", "(IIII)I"⟩
abbrev cX8_tested : ByteArray := prog_1_method_44_code
def yX8_tested : MethodName := ⟨RX8, "tested", "(III)I"⟩
abbrev cX8_knock : ByteArray := prog_1_method_45_code
def yX8_knock : MethodName := ⟨RX8, "knock", "()I"⟩
abbrev cX8_house : ByteArray := prog_1_method_46_code
def yX8_house : MethodName := ⟨RX8, "house", "(I)I"⟩
abbrev cX8_isSound : ByteArray := prog_1_method_47_code
def yX8_isSound : MethodName := ⟨RX8, "isSound", "()Z"⟩
abbrev cX8_digest : ByteArray := prog_1_method_48_code
def yX8_digest : MethodName := ⟨RX8, "digest", "()J"⟩
abbrev cX8_rowFor : ByteArray := prog_1_method_49_code
def yX8_rowFor : MethodName := ⟨RX8, "rowFor", "(I)LLoopdefaults$Row;"⟩
abbrev cX8_tableFor : ByteArray := prog_1_method_50_code
def yX8_tableFor : MethodName := ⟨RX8, "tableFor", "(I)LLoopdefaults$Table;"⟩
abbrev cX8_tableFor_ : ByteArray := prog_1_method_51_code
def yX8_tableFor_ : MethodName := ⟨RX8, "tableFor", "(II)LLoopdefaults$Table;"⟩
abbrev cX8_tableToReckon : ByteArray := prog_1_method_52_code
def yX8_tableToReckon : MethodName := ⟨RX8, "tableToReckon", "(IIII)LLoopdefaults$Table;"⟩
abbrev cX8_hearerFor : ByteArray := prog_1_method_53_code
def yX8_hearerFor : MethodName := ⟨RX8, "hearerFor", "(I)LLoopdefaults$Hearer;"⟩
abbrev cX8_checkRange : ByteArray := prog_1_method_54_code
def yX8_checkRange : MethodName := ⟨RX8, "checkRange", "(III)V"⟩
abbrev cX8_checkValue : ByteArray := prog_1_method_55_code
def yX8_checkValue : MethodName := ⟨RX8, "checkValue", "(I)V"⟩
abbrev cX8_checkKey : ByteArray := prog_1_method_56_code
def yX8_checkKey : MethodName := ⟨RX8, "checkKey", "(I)V"⟩
abbrev cX8_checkRule : ByteArray := prog_1_method_57_code
def yX8_checkRule : MethodName := ⟨RX8, "checkRule", "(Z)V"⟩
abbrev cX8_checkSpan : ByteArray := prog_1_method_58_code
def yX8_checkSpan : MethodName := ⟨RX8, "checkSpan", "(III)V"⟩
abbrev cX8_spanLength : ByteArray := prog_1_method_59_code
def yX8_spanLength : MethodName := ⟨RX8, "spanLength", "(III)I"⟩
abbrev cX8_refused : ByteArray := prog_1_method_60_code
def yX8_refused : MethodName := ⟨RX8, "refused", "()I"⟩
abbrev cX8_answer : ByteArray := prog_1_method_61_code
def yX8_answer : MethodName := ⟨RX8, "answer", "(I)I"⟩
abbrev cX8_ruleTells : ByteArray := prog_1_method_62_code
def yX8_ruleTells : MethodName := ⟨RX8, "ruleTells", "(IIII)I"⟩
abbrev cX8_testTells : ByteArray := prog_1_method_63_code
def yX8_testTells : MethodName := ⟨RX8, "testTells", "(III)I"⟩
abbrev cX8_bounded : ByteArray := prog_1_method_64_code
def yX8_bounded : MethodName := ⟨RX8, "bounded", "(I)I"⟩
abbrev cX8_isEven : ByteArray := prog_1_method_65_code
def yX8_isEven : MethodName := ⟨RX8, "isEven", "(I)Z"⟩
abbrev cX8_oneIf : ByteArray := prog_1_method_66_code
def yX8_oneIf : MethodName := ⟨RX8, "oneIf", "(Z)I"⟩
abbrev cX8_passBy : ByteArray := prog_1_method_67_code
def yX8_passBy : MethodName := ⟨RX8, "passBy", "(LLoopdefaults$Walk;I)V"⟩
abbrev cX8_hearOut : ByteArray := prog_1_method_68_code
def yX8_hearOut : MethodName := ⟨RX8, "hearOut", "(LLoopdefaults$Walk;LLoopdefaults$Hearer;)I"⟩
abbrev cX8_changeEach : ByteArray := prog_1_method_69_code
def yX8_changeEach : MethodName := ⟨RX8, "changeEach", "(LLoopdefaults$Walk;II)Z"⟩
abbrev cX8_takeEach : ByteArray := prog_1_method_70_code
def yX8_takeEach : MethodName := ⟨RX8, "takeEach", "(LLoopdefaults$RowWalk;II)I"⟩
abbrev cX8_valuesOfRows : ByteArray := prog_1_method_71_code
def yX8_valuesOfRows : MethodName := ⟨RX8, "valuesOfRows", "()I"⟩
abbrev cX8_pairsOfTables : ByteArray := prog_1_method_72_code
def yX8_pairsOfTables : MethodName := ⟨RX8, "pairsOfTables", "()I"⟩
abbrev cX8_numbersHeard : ByteArray := prog_1_method_73_code
def yX8_numbersHeard : MethodName := ⟨RX8, "numbersHeard", "()I"⟩
abbrev cX8_isWalkCounted : ByteArray := prog_1_method_74_code
def yX8_isWalkCounted : MethodName := ⟨RX8, "isWalkCounted", "(LLoopdefaults$Row;)Z"⟩
abbrev cX8_isTakingPlain : ByteArray := prog_1_method_75_code
def yX8_isTakingPlain : MethodName := ⟨RX8, "isTakingPlain", "(LLoopdefaults$Row;)Z"⟩
abbrev cX8_isWhatIsLeft : ByteArray := prog_1_method_76_code
def yX8_isWhatIsLeft : MethodName := ⟨RX8, "isWhatIsLeft", "(LLoopdefaults$Row;LLoopdefaults$Row;I)Z"⟩
abbrev cX8_areCopiesLike : ByteArray := prog_1_method_77_code
def yX8_areCopiesLike : MethodName := ⟨RX8, "areCopiesLike", "(LLoopdefaults$Table;)Z"⟩
abbrev cX8_areCallsLike : ByteArray := prog_1_method_78_code
def yX8_areCallsLike : MethodName := ⟨RX8, "areCallsLike", "(LLoopdefaults$Table;)Z"⟩
abbrev cX8_isCallLike : ByteArray := prog_1_method_79_code
def yX8_isCallLike : MethodName := ⟨RX8, "isCallLike", "(LLoopdefaults$Table;III)Z"⟩
abbrev cX8_mixed : ByteArray := prog_1_method_80_code
def yX8_mixed : MethodName := ⟨RX8, "mixed", "(JI)J"⟩
abbrev cX8_mixedRow : ByteArray := prog_1_method_81_code
def yX8_mixedRow : MethodName := ⟨RX8, "mixedRow", "(JLLoopdefaults$Row;)J"⟩
abbrev cX8_mixedTable : ByteArray := prog_1_method_82_code
def yX8_mixedTable : MethodName := ⟨RX8, "mixedTable", "(JLLoopdefaults$Table;)J"⟩
abbrev cX8_mixedHearer : ByteArray := prog_1_method_83_code
def yX8_mixedHearer : MethodName := ⟨RX8, "mixedHearer", "(JLLoopdefaults$Hearer;)J"⟩
abbrev cX8_takeOver : ByteArray := prog_1_method_84_code
def yX8_takeOver : MethodName := ⟨RX8, "takeOver", "([I[I)V"⟩
abbrev cX8_joined : ByteArray := prog_1_method_85_code
def yX8_joined : MethodName := ⟨RX8, "joined", "([II)Ljava/lang/String;"⟩
def RX9 : String := "LoopdefaultsLaw$Out"
def TX9 : u_T := fun k => match k with
  | 0 => ("LoopdefaultsLaw$Out", "n", "J", false)
  | _ => ("LoopdefaultsLaw$Out", "s", "Ljava/lang/String;", false)
def tyX9 : Nat → FieldType := fun k => match k with
  | 0 => .long
  | _ => .object "java/lang/String"
theorem nmX9 : ∀ a, a < 2 → ∀ b, b < 2 → a ≠ b → (TX9 a).2.1 ≠ (TX9 b).2.1 := by decide +kernel
theorem tyX9_ok : ∀ k, k < 2 → parseFieldDescriptor (TX9 k).2.2.1 = some (tyX9 k) := by decide +kernel
abbrev cX9_init : ByteArray := prog_11_method_1_code
def yX9_init : MethodName := ⟨RX9, "<init>", "()V"⟩
def RX10 : String := "LoopdefaultsModel$Hearer"
def TX10 : u_T := fun k => match k with
  | 0 => ("LoopdefaultsModel$Hearer", "stop", "I", false)
  | 1 => ("LoopdefaultsModel$Hearer", "heard", "I", false)
  | 2 => ("LoopdefaultsModel$Hearer", "sum", "I", false)
  | 3 => ("LoopdefaultsModel$Hearer", "last", "I", false)
  | _ => ("LoopdefaultsModel$Hearer", "all", "Ljava/util/ArrayList;", true)
def tyX10 : Nat → FieldType := fun k => match k with
  | 0 => .int
  | 1 => .int
  | 2 => .int
  | 3 => .int
  | _ => .object "java/util/ArrayList"
theorem nmX10 : ∀ a, a < 5 → ∀ b, b < 5 → a ≠ b → (TX10 a).2.1 ≠ (TX10 b).2.1 := by decide +kernel
theorem tyX10_ok : ∀ k, k < 5 → parseFieldDescriptor (TX10 k).2.2.1 = some (tyX10 k) := by decide +kernel
abbrev cX10_init : ByteArray := prog_13_method_1_code
def yX10_init : MethodName := ⟨RX10, "<init>", "()V"⟩
abbrev cX10_refuses : ByteArray := prog_13_method_2_code
def yX10_refuses : MethodName := ⟨RX10, "refuses", "(I)Z"⟩
abbrev cX10_forget : ByteArray := prog_13_method_3_code
def yX10_forget : MethodName := ⟨RX10, "forget", "()V"⟩
abbrev cX10_text : ByteArray := prog_13_method_4_code
def yX10_text : MethodName := ⟨RX10, "text", "()Ljava/lang/String;"⟩
def RX11 : String := "LoopdefaultsModel"
def TX11 : u_T := fun k => match k with
  | 0 => ("LoopdefaultsModel", "thrown", "I", false)
  | 1 => ("LoopdefaultsModel", "rows", "Ljava/util/ArrayList;", true)
  | 2 => ("LoopdefaultsModel", "areFixed", "[Z", true)
  | 3 => ("LoopdefaultsModel", "counts", "[[I", true)
  | 4 => ("LoopdefaultsModel", "tables", "Ljava/util/ArrayList;", true)
  | 5 => ("LoopdefaultsModel", "hearers", "[LLoopdefaultsModel$Hearer;", true)
  | 6 => ("LoopdefaultsModel", "refused", "I", false)
  | _ => ("LoopdefaultsModel", "knocks", "I", false)
def tyX11 : Nat → FieldType := fun k => match k with
  | 0 => .int
  | 1 => .object "java/util/ArrayList"
  | 2 => .array .boolean
  | 3 => .array (.array .int)
  | 4 => .object "java/util/ArrayList"
  | 5 => .array (.object "LoopdefaultsModel$Hearer")
  | 6 => .int
  | _ => .int
theorem nmX11 : ∀ a, a < 8 → ∀ b, b < 8 → a ≠ b → (TX11 a).2.1 ≠ (TX11 b).2.1 := by decide +kernel
theorem tyX11_ok : ∀ k, k < 8 → parseFieldDescriptor (TX11 k).2.2.1 = some (tyX11 k) := by decide +kernel
abbrev cX11_isIn : ByteArray := prog_12_method_1_code
def yX11_isIn : MethodName := ⟨RX11, "isIn", "(III)Z"⟩
abbrev cX11_one : ByteArray := prog_12_method_2_code
def yX11_one : MethodName := ⟨RX11, "one", "(Z)I"⟩
abbrev cX11_bounded : ByteArray := prog_12_method_3_code
def yX11_bounded : MethodName := ⟨RX11, "bounded", "(I)I"⟩
abbrev cX11_init : ByteArray := prog_12_method_4_code
def yX11_init : MethodName := ⟨RX11, "<init>", "()V"⟩
abbrev cX11_thrown : ByteArray := prog_12_method_5_code
def yX11_thrown : MethodName := ⟨RX11, "thrown", "()I"⟩
abbrev cX11_refuse : ByteArray := prog_12_method_6_code
def yX11_refuse : MethodName := ⟨RX11, "refuse", "(ZI)Z"⟩
abbrev cX11_start : ByteArray := prog_12_method_7_code
def yX11_start : MethodName := ⟨RX11, "start", "(ZI)Z"⟩
abbrev cX11_nine : ByteArray := prog_12_method_8_code
def yX11_nine : MethodName := ⟨RX11, "nine", "()I"⟩
abbrev cX11_isNoTwo : ByteArray := prog_12_method_9_code
def yX11_isNoTwo : MethodName := ⟨RX11, "isNoTwo", "(I)Z"⟩
abbrev cX11_isNoTable : ByteArray := prog_12_method_10_code
def yX11_isNoTable : MethodName := ⟨RX11, "isNoTable", "(I)Z"⟩
abbrev cX11_isNoKey : ByteArray := prog_12_method_11_code
def yX11_isNoKey : MethodName := ⟨RX11, "isNoKey", "(I)Z"⟩
abbrev cX11_isNoValue : ByteArray := prog_12_method_12_code
def yX11_isNoValue : MethodName := ⟨RX11, "isNoValue", "(I)Z"⟩
abbrev cX11_rule : ByteArray := prog_12_method_13_code
def yX11_rule : MethodName := ⟨RX11, "rule", "(IIII)I"⟩
abbrev cX11_test : ByteArray := prog_12_method_14_code
def yX11_test : MethodName := ⟨RX11, "test", "(III)I"⟩
abbrev cX11_type : ByteArray := prog_12_method_15_code
def yX11_type : MethodName := ⟨RX11, "type", "(II)I"⟩
abbrev cX11_drop : ByteArray := prog_12_method_16_code
def yX11_drop : MethodName := ⟨RX11, "drop", "(II)I"⟩
abbrev cX11_fix : ByteArray := prog_12_method_17_code
def yX11_fix : MethodName := ⟨RX11, "fix", "(IZ)I"⟩
abbrev cX11_hearRow : ByteArray := prog_12_method_18_code
def yX11_hearRow : MethodName := ⟨RX11, "hearRow", "(III)I"⟩
abbrev cX11_hear : ByteArray := prog_12_method_19_code
def yX11_hear : MethodName := ⟨RX11, "hear", "(II)I"⟩
abbrev cX11_rest : ByteArray := prog_12_method_20_code
def yX11_rest : MethodName := ⟨RX11, "rest", "(III)I"⟩
abbrev cX11_removeIf : ByteArray := prog_12_method_21_code
def yX11_removeIf : MethodName := ⟨RX11, "removeIf", "(III)I"⟩
abbrev cX11_replaceAll : ByteArray := prog_12_method_22_code
def yX11_replaceAll : MethodName := ⟨RX11, "replaceAll", "(III)I"⟩
abbrev cX11_copy : ByteArray := prog_12_method_23_code
def yX11_copy : MethodName := ⟨RX11, "copy", "(I)I"⟩
abbrev cX11_place : ByteArray := prog_12_method_24_code
def yX11_place : MethodName := ⟨RX11, "place", "(II)I"⟩
abbrev cX11_valueOf : ByteArray := prog_12_method_25_code
def yX11_valueOf : MethodName := ⟨RX11, "valueOf", "(II)I"⟩
abbrev cX11_lay : ByteArray := prog_12_method_26_code
def yX11_lay : MethodName := ⟨RX11, "lay", "(III)V"⟩
abbrev cX11_go : ByteArray := prog_12_method_27_code
def yX11_go : MethodName := ⟨RX11, "go", "(II)V"⟩
abbrev cX11_isNoPair : ByteArray := prog_12_method_28_code
def yX11_isNoPair : MethodName := ⟨RX11, "isNoPair", "(III)Z"⟩
abbrev cX11_put : ByteArray := prog_12_method_29_code
def yX11_put : MethodName := ⟨RX11, "put", "(III)I"⟩
abbrev cX11_remove : ByteArray := prog_12_method_30_code
def yX11_remove : MethodName := ⟨RX11, "remove", "(II)I"⟩
abbrev cX11_putIfAbsent : ByteArray := prog_12_method_31_code
def yX11_putIfAbsent : MethodName := ⟨RX11, "putIfAbsent", "(III)I"⟩
abbrev cX11_replace : ByteArray := prog_12_method_32_code
def yX11_replace : MethodName := ⟨RX11, "replace", "(III)I"⟩
abbrev cX11_replaceIf : ByteArray := prog_12_method_33_code
def yX11_replaceIf : MethodName := ⟨RX11, "replaceIf", "(IIII)Z"⟩
abbrev cX11_removePair : ByteArray := prog_12_method_34_code
def yX11_removePair : MethodName := ⟨RX11, "removePair", "(III)Z"⟩
abbrev cX11_isNoRule : ByteArray := prog_12_method_35_code
def yX11_isNoRule : MethodName := ⟨RX11, "isNoRule", "(IIII)Z"⟩
abbrev cX11_become : ByteArray := prog_12_method_36_code
def yX11_become : MethodName := ⟨RX11, "become", "(III)I"⟩
abbrev cX11_computeIfAbsent : ByteArray := prog_12_method_37_code
def yX11_computeIfAbsent : MethodName := ⟨RX11, "computeIfAbsent", "(IIII)I"⟩
abbrev cX11_computeIfPresent : ByteArray := prog_12_method_38_code
def yX11_computeIfPresent : MethodName := ⟨RX11, "computeIfPresent", "(IIII)I"⟩
abbrev cX11_compute : ByteArray := prog_12_method_39_code
def yX11_compute : MethodName := ⟨RX11, "compute", "(IIII)I"⟩
abbrev cX11_merge : ByteArray := prog_12_method_40_code
def yX11_merge : MethodName := ⟨RX11, "merge", "(IIII)I"⟩
abbrev cX11_hearTable : ByteArray := prog_12_method_41_code
def yX11_hearTable : MethodName := ⟨RX11, "hearTable", "(II)I"⟩
abbrev cX11_replaceTable : ByteArray := prog_12_method_42_code
def yX11_replaceTable : MethodName := ⟨RX11, "replaceTable", "(III)I"⟩
abbrev cX11_clear : ByteArray := prog_12_method_43_code
def yX11_clear : MethodName := ⟨RX11, "clear", "(I)I"⟩
abbrev cX11_many : ByteArray := prog_12_method_44_code
def yX11_many : MethodName := ⟨RX11, "many", "(III)I"⟩
abbrev cX11_isNoSpan : ByteArray := prog_12_method_45_code
def yX11_isNoSpan : MethodName := ⟨RX11, "isNoSpan", "(III)Z"⟩
abbrev cX11_span : ByteArray := prog_12_method_46_code
def yX11_span : MethodName := ⟨RX11, "span", "(IIIII)I"⟩
abbrev cX11_hearSpan : ByteArray := prog_12_method_47_code
def yX11_hearSpan : MethodName := ⟨RX11, "hearSpan", "(IIII)I"⟩
abbrev cX11_hearSteps : ByteArray := prog_12_method_48_code
def yX11_hearSteps : MethodName := ⟨RX11, "hearSteps", "(IIIII)I"⟩
abbrev cX11_takeStep : ByteArray := prog_12_method_49_code
def yX11_takeStep : MethodName := ⟨RX11, "takeStep", "(II)I"⟩
abbrev cX11_stop : ByteArray := prog_12_method_50_code
def yX11_stop : MethodName := ⟨RX11, "stop", "(II)I"⟩
abbrev cX11_forget : ByteArray := prog_12_method_51_code
def yX11_forget : MethodName := ⟨RX11, "forget", "(I)I"⟩
abbrev cX11_heardTold : ByteArray := prog_12_method_52_code
def yX11_heardTold : MethodName := ⟨RX11, "heardTold", "(II)I"⟩
abbrev cX11_heard : ByteArray := prog_12_method_53_code
def yX11_heard : MethodName := ⟨RX11, "heard", "(II)I"⟩
abbrev cX11_heardText : ByteArray := prog_12_method_54_code
def yX11_heardText : MethodName := ⟨RX11, "heardText", "(I)Ljava/lang/String;"⟩
abbrev cX11_length : ByteArray := prog_12_method_55_code
def yX11_length : MethodName := ⟨RX11, "length", "(I)I"⟩
abbrev cX11_at : ByteArray := prog_12_method_56_code
def yX11_at : MethodName := ⟨RX11, "at", "(II)I"⟩
abbrev cX11_rowText : ByteArray := prog_12_method_57_code
def yX11_rowText : MethodName := ⟨RX11, "rowText", "(I)Ljava/lang/String;"⟩
abbrev cX11_isFixed : ByteArray := prog_12_method_58_code
def yX11_isFixed : MethodName := ⟨RX11, "isFixed", "(I)Z"⟩
abbrev cX11_counts : ByteArray := prog_12_method_59_code
def yX11_counts : MethodName := ⟨RX11, "counts", "(II)I"⟩
abbrev cX11_shelfCounts : ByteArray := prog_12_method_60_code
def yX11_shelfCounts : MethodName := ⟨RX11, "shelfCounts", "(I)I"⟩
abbrev cX11_forgetCounts : ByteArray := prog_12_method_61_code
def yX11_forgetCounts : MethodName := ⟨RX11, "forgetCounts", "()I"⟩
abbrev cX11_get : ByteArray := prog_12_method_62_code
def yX11_get : MethodName := ⟨RX11, "get", "(II)I"⟩
abbrev cX11_getOr : ByteArray := prog_12_method_63_code
def yX11_getOr : MethodName := ⟨RX11, "getOr", "(III)I"⟩
abbrev cX11_has : ByteArray := prog_12_method_64_code
def yX11_has : MethodName := ⟨RX11, "has", "(II)Z"⟩
abbrev cX11_size : ByteArray := prog_12_method_65_code
def yX11_size : MethodName := ⟨RX11, "size", "(I)I"⟩
abbrev cX11_text : ByteArray := prog_12_method_66_code
def yX11_text : MethodName := ⟨RX11, "text", "(I)Ljava/lang/String;"⟩
abbrev cX11_areLike : ByteArray := prog_12_method_67_code
def yX11_areLike : MethodName := ⟨RX11, "areLike", "(II)Z"⟩
abbrev cX11_given : ByteArray := prog_12_method_68_code
def yX11_given : MethodName := ⟨RX11, "given", "(IIII)I"⟩
abbrev cX11_tested : ByteArray := prog_12_method_69_code
def yX11_tested : MethodName := ⟨RX11, "tested", "(III)I"⟩
abbrev cX11_knock : ByteArray := prog_12_method_70_code
def yX11_knock : MethodName := ⟨RX11, "knock", "()I"⟩
abbrev cX11_houseTold : ByteArray := prog_12_method_71_code
def yX11_houseTold : MethodName := ⟨RX11, "houseTold", "(I)I"⟩
abbrev cX11_house : ByteArray := prog_12_method_72_code
def yX11_house : MethodName := ⟨RX11, "house", "(I)I"⟩
abbrev cX11_isTrue : ByteArray := prog_12_method_73_code
def yX11_isTrue : MethodName := ⟨RX11, "isTrue", "()Z"⟩
abbrev cX11_isSound : ByteArray := prog_12_method_74_code
def yX11_isSound : MethodName := ⟨RX11, "isSound", "()Z"⟩
abbrev cX11_add : ByteArray := prog_12_method_75_code
def yX11_add : MethodName := ⟨RX11, "add", "(JJ)J"⟩
abbrev cX11_digest : ByteArray := prog_12_method_76_code
def yX11_digest : MethodName := ⟨RX11, "digest", "()J"⟩
def RJ5 : String := "java/lang/AbstractStringBuilder"
abbrev cJ5_init_d00df : ByteArray := prog_15_method_2_code
def yJ5_init_d00df : MethodName := ⟨RJ5, "<init>", "(I)V"⟩
abbrev cJ5_length_8abf5 : ByteArray := prog_15_method_6_code
def yJ5_length_8abf5 : MethodName := ⟨RJ5, "length", "()I"⟩
abbrev cJ5_ensureCapacityInternal_d00df : ByteArray := prog_15_method_9_code
def yJ5_ensureCapacityInternal_d00df : MethodName := ⟨RJ5, "ensureCapacityInternal", "(I)V"⟩
abbrev cJ5_newCapacity_0f7a4 : ByteArray := prog_15_method_10_code
def yJ5_newCapacity_0f7a4 : MethodName := ⟨RJ5, "newCapacity", "(I)I"⟩
abbrev cJ5_append_cf1ce : ByteArray := prog_15_method_22_code
def yJ5_append_cf1ce : MethodName := ⟨RJ5, "append", "(Ljava/lang/String;)Ljava/lang/AbstractStringBuilder;"⟩
abbrev cJ5_append_3fe6f : ByteArray := prog_15_method_31_code
def yJ5_append_3fe6f : MethodName := ⟨RJ5, "append", "(C)Ljava/lang/AbstractStringBuilder;"⟩
abbrev cJ5_append_c97b9 : ByteArray := prog_15_method_32_code
def yJ5_append_c97b9 : MethodName := ⟨RJ5, "append", "(I)Ljava/lang/AbstractStringBuilder;"⟩
abbrev cJ5_getValue_6d5f1 : ByteArray := prog_15_method_64_code
def yJ5_getValue_6d5f1 : MethodName := ⟨RJ5, "getValue", "()[B"⟩
abbrev cJ5_isLatin1_aae02 : ByteArray := prog_15_method_68_code
def yJ5_isLatin1_aae02 : MethodName := ⟨RJ5, "isLatin1", "()Z"⟩
abbrev cJ5_inflateIfNeededFor_a7421 : ByteArray := prog_15_method_71_code
def yJ5_inflateIfNeededFor_a7421 : MethodName := ⟨RJ5, "inflateIfNeededFor", "(Ljava/lang/String;)V"⟩
abbrev cJ5_putStringAt_47b60 : ByteArray := prog_15_method_73_code
def yJ5_putStringAt_47b60 : MethodName := ⟨RJ5, "putStringAt", "(ILjava/lang/String;)V"⟩
def RJ6 : String := "java/lang/Integer"
def TJ6 : u_T := fun k => match k with
  | _ => ("java/lang/Integer", "value", "I", true)
def tyJ6 : Nat → FieldType := fun k => match k with
  | _ => .int
theorem nmJ6 : ∀ a, a < 1 → ∀ b, b < 1 → a ≠ b → (TJ6 a).2.1 ≠ (TJ6 b).2.1 := by decide +kernel
theorem tyJ6_ok : ∀ k, k < 1 → parseFieldDescriptor (TJ6 k).2.2.1 = some (tyJ6 k) := by decide +kernel
abbrev cJ6_getChars_ba4f3 : ByteArray := prog_24_method_12_code
def yJ6_getChars_ba4f3 : MethodName := ⟨RJ6, "getChars", "(II[B)I"⟩
abbrev cJ6_stringSize_0f7a4 : ByteArray := prog_24_method_13_code
def yJ6_stringSize_0f7a4 : MethodName := ⟨RJ6, "stringSize", "(I)I"⟩
abbrev cJ6_valueOf_2dffe : ByteArray := prog_24_method_22_code
def yJ6_valueOf_2dffe : MethodName := ⟨RJ6, "valueOf", "(I)Ljava/lang/Integer;"⟩
abbrev cJ6_init_d00df : ByteArray := prog_24_method_23_code
def yJ6_init_d00df : MethodName := ⟨RJ6, "<init>", "(I)V"⟩
abbrev cJ6_intValue_8abf5 : ByteArray := prog_24_method_27_code
def yJ6_intValue_8abf5 : MethodName := ⟨RJ6, "intValue", "()I"⟩
def RJ9 : String := "java/lang/Math"
def yJ9_max_7cf53 : MethodName := ⟨RJ9, "max", "(II)I"⟩
def yJ9_min_7cf53 : MethodName := ⟨RJ9, "min", "(II)I"⟩
def RJxd2413 : String := "java/lang/Number"
abbrev cJxd2413_init_da8c8 : ByteArray := prog_28_method_1_code
def yJxd2413_init_da8c8 : MethodName := ⟨RJxd2413, "<init>", "()V"⟩
def RJ0 : String := "java/lang/String"
def TJ0 : u_T := fun k => match k with
  | 0 => ("java/lang/String", "value", "[B", true)
  | 1 => ("java/lang/String", "coder", "B", true)
  | 2 => ("java/lang/String", "hash", "I", false)
  | _ => ("java/lang/String", "hashIsZero", "Z", false)
def tyJ0 : Nat → FieldType := fun k => match k with
  | 0 => .array .byte
  | 1 => .byte
  | 2 => .int
  | _ => .boolean
theorem nmJ0 : ∀ a, a < 4 → ∀ b, b < 4 → a ≠ b → (TJ0 a).2.1 ≠ (TJ0 b).2.1 := by decide +kernel
theorem tyJ0_ok : ∀ k, k < 4 → parseFieldDescriptor (TJ0 k).2.2.1 = some (tyJ0 k) := by decide +kernel
abbrev cJ0_init_81219 : ByteArray := prog_30_method_53_code
def yJ0_init_81219 : MethodName := ⟨RJ0, "<init>", "(Ljava/lang/StringBuilder;)V"⟩
abbrev cJ0_length_8abf5 : ByteArray := prog_30_method_54_code
def yJ0_length_8abf5 : MethodName := ⟨RJ0, "length", "()I"⟩
abbrev cJ0_getBytes_840e7 : ByteArray := prog_30_method_147_code
def yJ0_getBytes_840e7 : MethodName := ⟨RJ0, "getBytes", "([BIB)V"⟩
abbrev cJ0_init_db425 : ByteArray := prog_30_method_150_code
def yJ0_init_db425 : MethodName := ⟨RJ0, "<init>", "(Ljava/lang/AbstractStringBuilder;Ljava/lang/Void;)V"⟩
abbrev cJ0_coder_7d493 : ByteArray := prog_30_method_152_code
def yJ0_coder_7d493 : MethodName := ⟨RJ0, "coder", "()B"⟩
def RJ4 : String := "java/lang/StringBuilder"
def TJ4 : u_T := fun k => match k with
  | 0 => ("java/lang/AbstractStringBuilder", "value", "[B", false)
  | 1 => ("java/lang/AbstractStringBuilder", "coder", "B", false)
  | 2 => ("java/lang/AbstractStringBuilder", "maybeLatin1", "Z", false)
  | _ => ("java/lang/AbstractStringBuilder", "count", "I", false)
def tyJ4 : Nat → FieldType := fun k => match k with
  | 0 => .array .byte
  | 1 => .byte
  | 2 => .boolean
  | _ => .int
theorem nmJ4 : ∀ a, a < 4 → ∀ b, b < 4 → a ≠ b → (TJ4 a).2.1 ≠ (TJ4 b).2.1 := by decide +kernel
theorem tyJ4_ok : ∀ k, k < 4 → parseFieldDescriptor (TJ4 k).2.2.1 = some (tyJ4 k) := by decide +kernel
abbrev cJ4_init_da8c8 : ByteArray := prog_31_method_1_code
def yJ4_init_da8c8 : MethodName := ⟨RJ4, "<init>", "()V"⟩
abbrev cJ4_append_15ec4 : ByteArray := prog_31_method_7_code
def yJ4_append_15ec4 : MethodName := ⟨RJ4, "append", "(Ljava/lang/String;)Ljava/lang/StringBuilder;"⟩
abbrev cJ4_append_cf468 : ByteArray := prog_31_method_14_code
def yJ4_append_cf468 : MethodName := ⟨RJ4, "append", "(C)Ljava/lang/StringBuilder;"⟩
abbrev cJ4_append_bf812 : ByteArray := prog_31_method_15_code
def yJ4_append_bf812 : MethodName := ⟨RJ4, "append", "(I)Ljava/lang/StringBuilder;"⟩
abbrev cJ4_toString_0e30d : ByteArray := prog_31_method_42_code
def yJ4_toString_0e30d : MethodName := ⟨RJ4, "toString", "()Ljava/lang/String;"⟩
abbrev cJ4_length_8abf5 : ByteArray := prog_31_method_93_code
def yJ4_length_8abf5 : MethodName := ⟨RJ4, "length", "()I"⟩
def RJ1 : String := "java/lang/StringLatin1"
abbrev cJ1_canEncode_fc78d : ByteArray := prog_32_method_3_code
def yJ1_canEncode_fc78d : MethodName := ⟨RJ1, "canEncode", "(C)Z"⟩
def RJxa1e45 : String := "java/util/AbstractCollection"
abbrev cJxa1e45_init_da8c8 : ByteArray := prog_38_method_1_code
def yJxa1e45_init_da8c8 : MethodName := ⟨RJxa1e45, "<init>", "()V"⟩
def RJxc12de : String := "java/util/AbstractList"
abbrev cJxc12de_init_da8c8 : ByteArray := prog_39_method_1_code
def yJxc12de_init_da8c8 : MethodName := ⟨RJxc12de, "<init>", "()V"⟩
def RJx35411 : String := "java/util/ArrayList$Itr"
def TJx35411 : u_T := fun k => match k with
  | 0 => ("java/util/ArrayList$Itr", "cursor", "I", false)
  | 1 => ("java/util/ArrayList$Itr", "lastRet", "I", false)
  | 2 => ("java/util/ArrayList$Itr", "expectedModCount", "I", false)
  | _ => ("java/util/ArrayList$Itr", "this$0", "Ljava/util/ArrayList;", true)
def tyJx35411 : Nat → FieldType := fun k => match k with
  | 0 => .int
  | 1 => .int
  | 2 => .int
  | _ => .object "java/util/ArrayList"
theorem nmJx35411 : ∀ a, a < 4 → ∀ b, b < 4 → a ≠ b → (TJx35411 a).2.1 ≠ (TJx35411 b).2.1 := by decide +kernel
theorem tyJx35411_ok : ∀ k, k < 4 → parseFieldDescriptor (TJx35411 k).2.2.1 = some (tyJx35411 k) := by decide +kernel
abbrev cJx35411_init_45d68 : ByteArray := prog_41_method_1_code
def yJx35411_init_45d68 : MethodName := ⟨RJx35411, "<init>", "(Ljava/util/ArrayList;)V"⟩
abbrev cJx35411_hasNext_aae02 : ByteArray := prog_41_method_2_code
def yJx35411_hasNext_aae02 : MethodName := ⟨RJx35411, "hasNext", "()Z"⟩
abbrev cJx35411_next_0502b : ByteArray := prog_41_method_3_code
def yJx35411_next_0502b : MethodName := ⟨RJx35411, "next", "()Ljava/lang/Object;"⟩
abbrev cJx35411_checkForComodification_da8c8 : ByteArray := prog_41_method_6_code
def yJx35411_checkForComodification_da8c8 : MethodName := ⟨RJx35411, "checkForComodification", "()V"⟩
def RJx4a65c : String := "java/util/ArrayList"
def TJx4a65c : u_T := fun k => match k with
  | 0 => ("java/util/AbstractList", "modCount", "I", false)
  | 1 => ("java/util/ArrayList", "elementData", "[Ljava/lang/Object;", false)
  | _ => ("java/util/ArrayList", "size", "I", false)
def tyJx4a65c : Nat → FieldType := fun k => match k with
  | 0 => .int
  | 1 => .array (.object "java/lang/Object")
  | _ => .int
theorem nmJx4a65c : ∀ a, a < 3 → ∀ b, b < 3 → a ≠ b → (TJx4a65c a).2.1 ≠ (TJx4a65c b).2.1 := by decide +kernel
theorem tyJx4a65c_ok : ∀ k, k < 3 → parseFieldDescriptor (TJx4a65c k).2.2.1 = some (tyJx4a65c k) := by decide +kernel
abbrev cJx4a65c_init_da8c8 : ByteArray := prog_40_method_2_code
def yJx4a65c_init_da8c8 : MethodName := ⟨RJx4a65c, "<init>", "()V"⟩
abbrev cJx4a65c_init_4bcb3 : ByteArray := prog_40_method_3_code
def yJx4a65c_init_4bcb3 : MethodName := ⟨RJx4a65c, "<init>", "(Ljava/util/Collection;)V"⟩
abbrev cJx4a65c_grow_92f84 : ByteArray := prog_40_method_6_code
def yJx4a65c_grow_92f84 : MethodName := ⟨RJx4a65c, "grow", "(I)[Ljava/lang/Object;"⟩
abbrev cJx4a65c_grow_d5877 : ByteArray := prog_40_method_7_code
def yJx4a65c_grow_d5877 : MethodName := ⟨RJx4a65c, "grow", "()[Ljava/lang/Object;"⟩
abbrev cJx4a65c_size_8abf5 : ByteArray := prog_40_method_8_code
def yJx4a65c_size_8abf5 : MethodName := ⟨RJx4a65c, "size", "()I"⟩
abbrev cJx4a65c_toArray_d5877 : ByteArray := prog_40_method_16_code
def yJx4a65c_toArray_d5877 : MethodName := ⟨RJx4a65c, "toArray", "()[Ljava/lang/Object;"⟩
abbrev cJx4a65c_elementData_915e3 : ByteArray := prog_40_method_18_code
def yJx4a65c_elementData_915e3 : MethodName := ⟨RJx4a65c, "elementData", "(I)Ljava/lang/Object;"⟩
abbrev cJx4a65c_get_915e3 : ByteArray := prog_40_method_20_code
def yJx4a65c_get_915e3 : MethodName := ⟨RJx4a65c, "get", "(I)Ljava/lang/Object;"⟩
abbrev cJx4a65c_set_bcc79 : ByteArray := prog_40_method_23_code
def yJx4a65c_set_bcc79 : MethodName := ⟨RJx4a65c, "set", "(ILjava/lang/Object;)Ljava/lang/Object;"⟩
abbrev cJx4a65c_add_72be8 : ByteArray := prog_40_method_24_code
def yJx4a65c_add_72be8 : MethodName := ⟨RJx4a65c, "add", "(Ljava/lang/Object;[Ljava/lang/Object;I)V"⟩
abbrev cJx4a65c_add_9ea2d : ByteArray := prog_40_method_25_code
def yJx4a65c_add_9ea2d : MethodName := ⟨RJx4a65c, "add", "(Ljava/lang/Object;)Z"⟩
abbrev cJx4a65c_add_7a177 : ByteArray := prog_40_method_26_code
def yJx4a65c_add_7a177 : MethodName := ⟨RJx4a65c, "add", "(ILjava/lang/Object;)V"⟩
abbrev cJx4a65c_remove_915e3 : ByteArray := prog_40_method_29_code
def yJx4a65c_remove_915e3 : MethodName := ⟨RJx4a65c, "remove", "(I)Ljava/lang/Object;"⟩
abbrev cJx4a65c_fastRemove_b59b0 : ByteArray := prog_40_method_39_code
def yJx4a65c_fastRemove_b59b0 : MethodName := ⟨RJx4a65c, "fastRemove", "([Ljava/lang/Object;I)V"⟩
abbrev cJx4a65c_clear_da8c8 : ByteArray := prog_40_method_40_code
def yJx4a65c_clear_da8c8 : MethodName := ⟨RJx4a65c, "clear", "()V"⟩
abbrev cJx4a65c_rangeCheckForAdd_d00df : ByteArray := prog_40_method_45_code
def yJx4a65c_rangeCheckForAdd_d00df : MethodName := ⟨RJx4a65c, "rangeCheckForAdd", "(I)V"⟩
abbrev cJx4a65c_iterator_32c93 : ByteArray := prog_40_method_55_code
def yJx4a65c_iterator_32c93 : MethodName := ⟨RJx4a65c, "iterator", "()Ljava/util/Iterator;"⟩
def RJ7 : String := "java/util/Arrays"
abbrev cJ7_copyOf_1904c : ByteArray := prog_42_method_119_code
def yJ7_copyOf_1904c : MethodName := ⟨RJ7, "copyOf", "([Ljava/lang/Object;I)[Ljava/lang/Object;"⟩
abbrev cJ7_copyOf_6403c : ByteArray := prog_42_method_120_code
def yJ7_copyOf_6403c : MethodName := ⟨RJ7, "copyOf", "([Ljava/lang/Object;ILjava/lang/Class;)[Ljava/lang/Object;"⟩
abbrev cJ7_copyOf_9075b : ByteArray := prog_42_method_121_code
def yJ7_copyOf_9075b : MethodName := ⟨RJ7, "copyOf", "([BI)[B"⟩
abbrev cJ7_checkLength_df160 : ByteArray := prog_42_method_131_code
def yJ7_checkLength_df160 : MethodName := ⟨RJ7, "checkLength", "(II)V"⟩
abbrev cJ7_copyOfRange_39247 : ByteArray := prog_42_method_132_code
def yJ7_copyOfRange_39247 : MethodName := ⟨RJ7, "copyOfRange", "([BII)[B"⟩
abbrev cJ7_copyOfRangeByte_39247 : ByteArray := prog_42_method_133_code
def yJ7_copyOfRangeByte_39247 : MethodName := ⟨RJ7, "copyOfRangeByte", "([BII)[B"⟩
def RJ15 : String := "java/util/Objects"
abbrev cJ15_checkIndex_7cf53 : ByteArray := prog_46_method_17_code
def yJ15_checkIndex_7cf53 : MethodName := ⟨RJ15, "checkIndex", "(II)I"⟩
def RJ8 : String := "jdk/internal/util/ArraysSupport"
abbrev cJ8_newLength_cabcc : ByteArray := prog_49_method_27_code
def yJ8_newLength_cabcc : MethodName := ⟨RJ8, "newLength", "(III)I"⟩
def RJ3 : String := "jdk/internal/util/Preconditions"
abbrev cJ3_checkIndex_8e157 : ByteArray := prog_50_method_11_code
def yJ3_checkIndex_8e157 : MethodName := ⟨RJ3, "checkIndex", "(IILjava/util/function/BiFunction;)I"⟩
def RL : String := "LoopdefaultsLaw"
abbrev cL_type : ByteArray := method_2_code
def yL_type : MethodName := ⟨RL, "type", "(LLoopdefaults;IILLoopdefaultsLaw$Out;)I"⟩
abbrev cL_drop : ByteArray := method_3_code
def yL_drop : MethodName := ⟨RL, "drop", "(LLoopdefaults;IILLoopdefaultsLaw$Out;)I"⟩
abbrev cL_fix : ByteArray := method_4_code
def yL_fix : MethodName := ⟨RL, "fix", "(LLoopdefaults;IZLLoopdefaultsLaw$Out;)I"⟩
abbrev cL_hear : ByteArray := method_5_code
def yL_hear : MethodName := ⟨RL, "hear", "(LLoopdefaults;IILLoopdefaultsLaw$Out;)I"⟩
abbrev cL_rest : ByteArray := method_6_code
def yL_rest : MethodName := ⟨RL, "rest", "(LLoopdefaults;IIILLoopdefaultsLaw$Out;)I"⟩
abbrev cL_removeIf : ByteArray := method_7_code
def yL_removeIf : MethodName := ⟨RL, "removeIf", "(LLoopdefaults;IIILLoopdefaultsLaw$Out;)I"⟩
abbrev cL_replaceAll : ByteArray := method_8_code
def yL_replaceAll : MethodName := ⟨RL, "replaceAll", "(LLoopdefaults;IIILLoopdefaultsLaw$Out;)I"⟩
abbrev cL_copy : ByteArray := method_9_code
def yL_copy : MethodName := ⟨RL, "copy", "(LLoopdefaults;ILLoopdefaultsLaw$Out;)I"⟩
abbrev cL_put : ByteArray := method_10_code
def yL_put : MethodName := ⟨RL, "put", "(LLoopdefaults;IIILLoopdefaultsLaw$Out;)I"⟩
abbrev cL_remove : ByteArray := method_11_code
def yL_remove : MethodName := ⟨RL, "remove", "(LLoopdefaults;IILLoopdefaultsLaw$Out;)I"⟩
abbrev cL_putIfAbsent : ByteArray := method_12_code
def yL_putIfAbsent : MethodName := ⟨RL, "putIfAbsent", "(LLoopdefaults;IIILLoopdefaultsLaw$Out;)I"⟩
abbrev cL_replace : ByteArray := method_13_code
def yL_replace : MethodName := ⟨RL, "replace", "(LLoopdefaults;IIILLoopdefaultsLaw$Out;)I"⟩
abbrev cL_replaceIf : ByteArray := method_14_code
def yL_replaceIf : MethodName := ⟨RL, "replaceIf", "(LLoopdefaults;IIIILLoopdefaultsLaw$Out;)I"⟩
abbrev cL_removePair : ByteArray := method_15_code
def yL_removePair : MethodName := ⟨RL, "removePair", "(LLoopdefaults;IIILLoopdefaultsLaw$Out;)I"⟩
abbrev cL_computeIfAbsent : ByteArray := method_16_code
def yL_computeIfAbsent : MethodName := ⟨RL, "computeIfAbsent", "(LLoopdefaults;IIIILLoopdefaultsLaw$Out;)I"⟩
abbrev cL_computeIfPresent : ByteArray := method_17_code
def yL_computeIfPresent : MethodName := ⟨RL, "computeIfPresent", "(LLoopdefaults;IIIILLoopdefaultsLaw$Out;)I"⟩
abbrev cL_compute : ByteArray := method_18_code
def yL_compute : MethodName := ⟨RL, "compute", "(LLoopdefaults;IIIILLoopdefaultsLaw$Out;)I"⟩
abbrev cL_merge : ByteArray := method_19_code
def yL_merge : MethodName := ⟨RL, "merge", "(LLoopdefaults;IIIILLoopdefaultsLaw$Out;)I"⟩
abbrev cL_hearTable : ByteArray := method_20_code
def yL_hearTable : MethodName := ⟨RL, "hearTable", "(LLoopdefaults;IILLoopdefaultsLaw$Out;)I"⟩
abbrev cL_replaceTable : ByteArray := method_21_code
def yL_replaceTable : MethodName := ⟨RL, "replaceTable", "(LLoopdefaults;IIILLoopdefaultsLaw$Out;)I"⟩
abbrev cL_clear : ByteArray := method_22_code
def yL_clear : MethodName := ⟨RL, "clear", "(LLoopdefaults;ILLoopdefaultsLaw$Out;)I"⟩
abbrev cL_hearSpan : ByteArray := method_23_code
def yL_hearSpan : MethodName := ⟨RL, "hearSpan", "(LLoopdefaults;IIIILLoopdefaultsLaw$Out;)I"⟩
abbrev cL_hearSteps : ByteArray := method_24_code
def yL_hearSteps : MethodName := ⟨RL, "hearSteps", "(LLoopdefaults;IIIIILLoopdefaultsLaw$Out;)I"⟩
abbrev cL_takeStep : ByteArray := method_25_code
def yL_takeStep : MethodName := ⟨RL, "takeStep", "(LLoopdefaults;IILLoopdefaultsLaw$Out;)I"⟩
abbrev cL_stop : ByteArray := method_26_code
def yL_stop : MethodName := ⟨RL, "stop", "(LLoopdefaults;IILLoopdefaultsLaw$Out;)I"⟩
abbrev cL_forget : ByteArray := method_27_code
def yL_forget : MethodName := ⟨RL, "forget", "(LLoopdefaults;ILLoopdefaultsLaw$Out;)I"⟩
abbrev cL_heard : ByteArray := method_28_code
def yL_heard : MethodName := ⟨RL, "heard", "(LLoopdefaults;IILLoopdefaultsLaw$Out;)I"⟩
abbrev cL_heardText : ByteArray := method_29_code
def yL_heardText : MethodName := ⟨RL, "heardText", "(LLoopdefaults;ILLoopdefaultsLaw$Out;)I"⟩
abbrev cL_length : ByteArray := method_30_code
def yL_length : MethodName := ⟨RL, "length", "(LLoopdefaults;ILLoopdefaultsLaw$Out;)I"⟩
abbrev cL_at : ByteArray := method_31_code
def yL_at : MethodName := ⟨RL, "at", "(LLoopdefaults;IILLoopdefaultsLaw$Out;)I"⟩
abbrev cL_rowText : ByteArray := method_32_code
def yL_rowText : MethodName := ⟨RL, "rowText", "(LLoopdefaults;ILLoopdefaultsLaw$Out;)I"⟩
abbrev cL_isFixed : ByteArray := method_33_code
def yL_isFixed : MethodName := ⟨RL, "isFixed", "(LLoopdefaults;ILLoopdefaultsLaw$Out;)I"⟩
abbrev cL_counts : ByteArray := method_34_code
def yL_counts : MethodName := ⟨RL, "counts", "(LLoopdefaults;IILLoopdefaultsLaw$Out;)I"⟩
abbrev cL_shelfCounts : ByteArray := method_35_code
def yL_shelfCounts : MethodName := ⟨RL, "shelfCounts", "(LLoopdefaults;ILLoopdefaultsLaw$Out;)I"⟩
abbrev cL_get : ByteArray := method_36_code
def yL_get : MethodName := ⟨RL, "get", "(LLoopdefaults;IILLoopdefaultsLaw$Out;)I"⟩
abbrev cL_getOr : ByteArray := method_37_code
def yL_getOr : MethodName := ⟨RL, "getOr", "(LLoopdefaults;IIILLoopdefaultsLaw$Out;)I"⟩
abbrev cL_has : ByteArray := method_38_code
def yL_has : MethodName := ⟨RL, "has", "(LLoopdefaults;IILLoopdefaultsLaw$Out;)I"⟩
abbrev cL_size : ByteArray := method_39_code
def yL_size : MethodName := ⟨RL, "size", "(LLoopdefaults;ILLoopdefaultsLaw$Out;)I"⟩
abbrev cL_text : ByteArray := method_40_code
def yL_text : MethodName := ⟨RL, "text", "(LLoopdefaults;ILLoopdefaultsLaw$Out;)I"⟩
abbrev cL_areLike : ByteArray := method_41_code
def yL_areLike : MethodName := ⟨RL, "areLike", "(LLoopdefaults;IILLoopdefaultsLaw$Out;)I"⟩
abbrev cL_given : ByteArray := method_42_code
def yL_given : MethodName := ⟨RL, "given", "(LLoopdefaults;IIIILLoopdefaultsLaw$Out;)I"⟩
abbrev cL_tested : ByteArray := method_43_code
def yL_tested : MethodName := ⟨RL, "tested", "(LLoopdefaults;IIILLoopdefaultsLaw$Out;)I"⟩
abbrev cL_house : ByteArray := method_44_code
def yL_house : MethodName := ⟨RL, "house", "(LLoopdefaults;ILLoopdefaultsLaw$Out;)I"⟩
abbrev cL_law : ByteArray := code
def yL_law : MethodName := ⟨RL, "law", "([I)Z"⟩
abbrev vwCl : List vw_C := [(RJ0, TJ0, 4), (RJ4, TJ4, 4), (RJ6, TJ6, 1), (RJx35411, TJx35411, 4), (RJx4a65c, TJx4a65c, 3), (RX0, TX0, 6), (RX1, TX1, 4), (RX2, TX2, 5), (RX3, TX3, 6), (RX4, TX4, 5), (RX5, TX5, 5), (RX6, TX6, 1), (RX8, TX8, 9), (RX9, TX9, 2), (RX10, TX10, 5), (RX11, TX11, 8)]
