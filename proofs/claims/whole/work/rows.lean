section
-- ===== PART A: goes FIRST, ahead of the names: the tables' words, and 'selects' of the private methods out of them =====
/-- a private method of a class that the tables say can be made, by its rows of tables_1 -/
def lw_okq (q : MethodName × Nat) : Prop := (q.1.cls ≠ "java/lang/invoke/MethodHandle" ∧ q.1.cls ≠ "java/lang/invoke/VarHandle") ∧ Cond.instantiable q.1.cls q.2 ∈ tables_1 ∧ Cond.privateMethod q.1 ∈ tables_1 ∧ Cond.instanceMethod q.1 ∈ tables_1
theorem lw_p0 : lw_okq (⟨"CoalStairs", "settled", "(I)I"⟩, 9) := ⟨⟨by decide +kernel, by decide +kernel⟩, List.mem_of_getElem? (i := 35) (by decide +kernel), List.mem_of_getElem? (i := 417) (by decide +kernel), List.mem_of_getElem? (i := 418) (by decide +kernel)⟩
theorem lw_p1 : lw_okq (⟨"java/lang/Throwable", "fillInStackTrace", "(I)Ljava/lang/Throwable;"⟩, 6) := ⟨⟨by decide +kernel, by decide +kernel⟩, List.mem_of_getElem? (i := 464) (by decide +kernel), List.mem_of_getElem? (i := 462) (by decide +kernel), List.mem_of_getElem? (i := 463) (by decide +kernel)⟩
theorem lw_p2 : lw_okq (⟨"CoalStairs$Work", "isRefusedByHouse", "(LCoalStairs$House;I)Z"⟩, 2) := ⟨⟨by decide +kernel, by decide +kernel⟩, List.mem_of_getElem? (i := 43) (by decide +kernel), List.mem_of_getElem? (i := 576) (by decide +kernel), List.mem_of_getElem? (i := 577) (by decide +kernel)⟩
theorem lw_p3 : lw_okq (⟨"CoalStairs$Street", "isAhead", "(II)Z"⟩, 13) := ⟨⟨by decide +kernel, by decide +kernel⟩, List.mem_of_getElem? (i := 49) (by decide +kernel), List.mem_of_getElem? (i := 847) (by decide +kernel), List.mem_of_getElem? (i := 848) (by decide +kernel)⟩
theorem lw_p4 : lw_okq (⟨"CoalStairs$CommandText", "isCommandRead", "()Z"⟩, 8) := ⟨⟨by decide +kernel, by decide +kernel⟩, List.mem_of_getElem? (i := 234) (by decide +kernel), List.mem_of_getElem? (i := 887) (by decide +kernel), List.mem_of_getElem? (i := 888) (by decide +kernel)⟩
theorem lw_p5 : lw_okq (⟨"CoalStairs$CommandText", "isNumberRead", "(I)Z"⟩, 8) := ⟨⟨by decide +kernel, by decide +kernel⟩, List.mem_of_getElem? (i := 234) (by decide +kernel), List.mem_of_getElem? (i := 977) (by decide +kernel), List.mem_of_getElem? (i := 978) (by decide +kernel)⟩
theorem lw_p6 : lw_okq (⟨"CoalStairs$CommandText", "isDigitNext", "()Z"⟩, 8) := ⟨⟨by decide +kernel, by decide +kernel⟩, List.mem_of_getElem? (i := 234) (by decide +kernel), List.mem_of_getElem? (i := 981) (by decide +kernel), List.mem_of_getElem? (i := 982) (by decide +kernel)⟩
theorem lw_p7 : lw_okq (⟨"CoalStairs$CommandText", "isMarkRead", "(C)Z"⟩, 8) := ⟨⟨by decide +kernel, by decide +kernel⟩, List.mem_of_getElem? (i := 234) (by decide +kernel), List.mem_of_getElem? (i := 985) (by decide +kernel), List.mem_of_getElem? (i := 986) (by decide +kernel)⟩
theorem lw_p8 : lw_okq (⟨"CoalStairs", "allCarriedOut", "()Z"⟩, 9) := ⟨⟨by decide +kernel, by decide +kernel⟩, List.mem_of_getElem? (i := 35) (by decide +kernel), List.mem_of_getElem? (i := 992) (by decide +kernel), List.mem_of_getElem? (i := 993) (by decide +kernel)⟩
theorem lw_p9 : lw_okq (⟨"CoalStairsModel", "begins", "()V"⟩, 23) := ⟨⟨by decide +kernel, by decide +kernel⟩, List.mem_of_getElem? (i := 1368) (by decide +kernel), List.mem_of_getElem? (i := 1474) (by decide +kernel), List.mem_of_getElem? (i := 1475) (by decide +kernel)⟩
theorem lw_p10 : lw_okq (⟨"CoalStairsModel", "hinders", "(ZII)V"⟩, 23) := ⟨⟨by decide +kernel, by decide +kernel⟩, List.mem_of_getElem? (i := 1368) (by decide +kernel), List.mem_of_getElem? (i := 1478) (by decide +kernel), List.mem_of_getElem? (i := 1479) (by decide +kernel)⟩
theorem lw_p11 : lw_okq (⟨"CoalStairsModel", "becomes", "(III)V"⟩, 23) := ⟨⟨by decide +kernel, by decide +kernel⟩, List.mem_of_getElem? (i := 1368) (by decide +kernel), List.mem_of_getElem? (i := 1482) (by decide +kernel), List.mem_of_getElem? (i := 1483) (by decide +kernel)⟩
theorem lw_p12 : lw_okq (⟨"CoalStairsModel", "ends", "(III)I"⟩, 23) := ⟨⟨by decide +kernel, by decide +kernel⟩, List.mem_of_getElem? (i := 1368) (by decide +kernel), List.mem_of_getElem? (i := 1486) (by decide +kernel), List.mem_of_getElem? (i := 1487) (by decide +kernel)⟩
theorem lw_p13 : lw_okq (⟨"CoalStairsModel", "remembers", "()V"⟩, 23) := ⟨⟨by decide +kernel, by decide +kernel⟩, List.mem_of_getElem? (i := 1368) (by decide +kernel), List.mem_of_getElem? (i := 1490) (by decide +kernel), List.mem_of_getElem? (i := 1491) (by decide +kernel)⟩
theorem lw_p14 : lw_okq (⟨"CoalStairsModel", "isHouse", "(I)Z"⟩, 23) := ⟨⟨by decide +kernel, by decide +kernel⟩, List.mem_of_getElem? (i := 1368) (by decide +kernel), List.mem_of_getElem? (i := 1498) (by decide +kernel), List.mem_of_getElem? (i := 1499) (by decide +kernel)⟩
theorem lw_p15 : lw_okq (⟨"CoalStairsModel", "of", "(II)I"⟩, 23) := ⟨⟨by decide +kernel, by decide +kernel⟩, List.mem_of_getElem? (i := 1368) (by decide +kernel), List.mem_of_getElem? (i := 1502) (by decide +kernel), List.mem_of_getElem? (i := 1503) (by decide +kernel)⟩
def lw_privs_1 : List (MethodName × Nat) := [(⟨"CoalStairs", "settled", "(I)I"⟩, 9), (⟨"java/lang/Throwable", "fillInStackTrace", "(I)Ljava/lang/Throwable;"⟩, 6), (⟨"CoalStairs$Work", "isRefusedByHouse", "(LCoalStairs$House;I)Z"⟩, 2), (⟨"CoalStairs$Street", "isAhead", "(II)Z"⟩, 13), (⟨"CoalStairs$CommandText", "isCommandRead", "()Z"⟩, 8), (⟨"CoalStairs$CommandText", "isNumberRead", "(I)Z"⟩, 8), (⟨"CoalStairs$CommandText", "isDigitNext", "()Z"⟩, 8), (⟨"CoalStairs$CommandText", "isMarkRead", "(C)Z"⟩, 8), (⟨"CoalStairs", "allCarriedOut", "()Z"⟩, 9), (⟨"CoalStairsModel", "begins", "()V"⟩, 23), (⟨"CoalStairsModel", "hinders", "(ZII)V"⟩, 23), (⟨"CoalStairsModel", "becomes", "(III)V"⟩, 23), (⟨"CoalStairsModel", "ends", "(III)I"⟩, 23), (⟨"CoalStairsModel", "remembers", "()V"⟩, 23), (⟨"CoalStairsModel", "isHouse", "(I)Z"⟩, 23), (⟨"CoalStairsModel", "of", "(II)I"⟩, 23)]
theorem lw_r1 : ∀ q ∈ lw_privs_1, lw_okq q := List.forall_mem_cons.mpr ⟨lw_p0, List.forall_mem_cons.mpr ⟨lw_p1, List.forall_mem_cons.mpr ⟨lw_p2, List.forall_mem_cons.mpr ⟨lw_p3, List.forall_mem_cons.mpr ⟨lw_p4, List.forall_mem_cons.mpr ⟨lw_p5, List.forall_mem_cons.mpr ⟨lw_p6, List.forall_mem_cons.mpr ⟨lw_p7, List.forall_mem_cons.mpr ⟨lw_p8, List.forall_mem_cons.mpr ⟨lw_p9, List.forall_mem_cons.mpr ⟨lw_p10, List.forall_mem_cons.mpr ⟨lw_p11, List.forall_mem_cons.mpr ⟨lw_p12, List.forall_mem_cons.mpr ⟨lw_p13, List.forall_mem_cons.mpr ⟨lw_p14, List.forall_mem_cons.mpr ⟨lw_p15, fun _ h => absurd h List.not_mem_nil⟩⟩⟩⟩⟩⟩⟩⟩⟩⟩⟩⟩⟩⟩⟩⟩
theorem lw_p16 : lw_okq (⟨"CoalStairsModel", "carrierBecomes", "(III)V"⟩, 23) := ⟨⟨by decide +kernel, by decide +kernel⟩, List.mem_of_getElem? (i := 1368) (by decide +kernel), List.mem_of_getElem? (i := 1510) (by decide +kernel), List.mem_of_getElem? (i := 1511) (by decide +kernel)⟩
theorem lw_p17 : lw_okq (⟨"CoalStairsModel", "lets", "(I)I"⟩, 23) := ⟨⟨by decide +kernel, by decide +kernel⟩, List.mem_of_getElem? (i := 1368) (by decide +kernel), List.mem_of_getElem? (i := 1518) (by decide +kernel), List.mem_of_getElem? (i := 1519) (by decide +kernel)⟩
theorem lw_p18 : lw_okq (⟨"CoalStairsModel", "isCarrier", "(I)Z"⟩, 23) := ⟨⟨by decide +kernel, by decide +kernel⟩, List.mem_of_getElem? (i := 1368) (by decide +kernel), List.mem_of_getElem? (i := 1527) (by decide +kernel), List.mem_of_getElem? (i := 1528) (by decide +kernel)⟩
theorem lw_p19 : lw_okq (⟨"CoalStairsModel", "ofCarrier", "(II)I"⟩, 23) := ⟨⟨by decide +kernel, by decide +kernel⟩, List.mem_of_getElem? (i := 1368) (by decide +kernel), List.mem_of_getElem? (i := 1531) (by decide +kernel), List.mem_of_getElem? (i := 1532) (by decide +kernel)⟩
theorem lw_p20 : lw_okq (⟨"CoalStairsModel", "loads", "(I)I"⟩, 23) := ⟨⟨by decide +kernel, by decide +kernel⟩, List.mem_of_getElem? (i := 1368) (by decide +kernel), List.mem_of_getElem? (i := 1539) (by decide +kernel), List.mem_of_getElem? (i := 1540) (by decide +kernel)⟩
theorem lw_p21 : lw_okq (⟨"CoalStairsModel", "drives", "(I)I"⟩, 23) := ⟨⟨by decide +kernel, by decide +kernel⟩, List.mem_of_getElem? (i := 1368) (by decide +kernel), List.mem_of_getElem? (i := 1547) (by decide +kernel), List.mem_of_getElem? (i := 1548) (by decide +kernel)⟩
theorem lw_p22 : lw_okq (⟨"CoalStairsModel", "shoes", "()I"⟩, 23) := ⟨⟨by decide +kernel, by decide +kernel⟩, List.mem_of_getElem? (i := 1368) (by decide +kernel), List.mem_of_getElem? (i := 1551) (by decide +kernel), List.mem_of_getElem? (i := 1552) (by decide +kernel)⟩
theorem lw_p23 : lw_okq (⟨"CoalStairsModel", "shods", "(I)I"⟩, 23) := ⟨⟨by decide +kernel, by decide +kernel⟩, List.mem_of_getElem? (i := 1368) (by decide +kernel), List.mem_of_getElem? (i := 1560) (by decide +kernel), List.mem_of_getElem? (i := 1561) (by decide +kernel)⟩
theorem lw_p24 : lw_okq (⟨"CoalStairsModel", "carries", "(II)I"⟩, 23) := ⟨⟨by decide +kernel, by decide +kernel⟩, List.mem_of_getElem? (i := 1368) (by decide +kernel), List.mem_of_getElem? (i := 1579) (by decide +kernel), List.mem_of_getElem? (i := 1580) (by decide +kernel)⟩
theorem lw_p25 : lw_okq (⟨"CoalStairsModel", "here", "()I"⟩, 23) := ⟨⟨by decide +kernel, by decide +kernel⟩, List.mem_of_getElem? (i := 1368) (by decide +kernel), List.mem_of_getElem? (i := 1583) (by decide +kernel), List.mem_of_getElem? (i := 1584) (by decide +kernel)⟩
theorem lw_p26 : lw_okq (⟨"CoalStairsModel", "tiredBy", "(II)I"⟩, 23) := ⟨⟨by decide +kernel, by decide +kernel⟩, List.mem_of_getElem? (i := 1368) (by decide +kernel), List.mem_of_getElem? (i := 1587) (by decide +kernel), List.mem_of_getElem? (i := 1588) (by decide +kernel)⟩
theorem lw_p27 : lw_okq (⟨"CoalStairsModel", "sackGoesUp", "(II)V"⟩, 23) := ⟨⟨by decide +kernel, by decide +kernel⟩, List.mem_of_getElem? (i := 1368) (by decide +kernel), List.mem_of_getElem? (i := 1591) (by decide +kernel), List.mem_of_getElem? (i := 1592) (by decide +kernel)⟩
theorem lw_p28 : lw_okq (⟨"CoalStairsModel", "givesBone", "()I"⟩, 23) := ⟨⟨by decide +kernel, by decide +kernel⟩, List.mem_of_getElem? (i := 1368) (by decide +kernel), List.mem_of_getElem? (i := 1599) (by decide +kernel), List.mem_of_getElem? (i := 1600) (by decide +kernel)⟩
theorem lw_p29 : lw_okq (⟨"CoalStairsModel", "mops", "(I)I"⟩, 23) := ⟨⟨by decide +kernel, by decide +kernel⟩, List.mem_of_getElem? (i := 1368) (by decide +kernel), List.mem_of_getElem? (i := 1611) (by decide +kernel), List.mem_of_getElem? (i := 1612) (by decide +kernel)⟩
theorem lw_p30 : lw_okq (⟨"CoalStairsModel", "pays", "(II)I"⟩, 23) := ⟨⟨by decide +kernel, by decide +kernel⟩, List.mem_of_getElem? (i := 1368) (by decide +kernel), List.mem_of_getElem? (i := 1619) (by decide +kernel), List.mem_of_getElem? (i := 1620) (by decide +kernel)⟩
theorem lw_p31 : lw_okq (⟨"CoalStairsModel", "goes", "(I)I"⟩, 23) := ⟨⟨by decide +kernel, by decide +kernel⟩, List.mem_of_getElem? (i := 1368) (by decide +kernel), List.mem_of_getElem? (i := 1627) (by decide +kernel), List.mem_of_getElem? (i := 1628) (by decide +kernel)⟩
def lw_privs_2 : List (MethodName × Nat) := [(⟨"CoalStairsModel", "carrierBecomes", "(III)V"⟩, 23), (⟨"CoalStairsModel", "lets", "(I)I"⟩, 23), (⟨"CoalStairsModel", "isCarrier", "(I)Z"⟩, 23), (⟨"CoalStairsModel", "ofCarrier", "(II)I"⟩, 23), (⟨"CoalStairsModel", "loads", "(I)I"⟩, 23), (⟨"CoalStairsModel", "drives", "(I)I"⟩, 23), (⟨"CoalStairsModel", "shoes", "()I"⟩, 23), (⟨"CoalStairsModel", "shods", "(I)I"⟩, 23), (⟨"CoalStairsModel", "carries", "(II)I"⟩, 23), (⟨"CoalStairsModel", "here", "()I"⟩, 23), (⟨"CoalStairsModel", "tiredBy", "(II)I"⟩, 23), (⟨"CoalStairsModel", "sackGoesUp", "(II)V"⟩, 23), (⟨"CoalStairsModel", "givesBone", "()I"⟩, 23), (⟨"CoalStairsModel", "mops", "(I)I"⟩, 23), (⟨"CoalStairsModel", "pays", "(II)I"⟩, 23), (⟨"CoalStairsModel", "goes", "(I)I"⟩, 23)]
theorem lw_r2 : ∀ q ∈ lw_privs_2, lw_okq q := List.forall_mem_cons.mpr ⟨lw_p16, List.forall_mem_cons.mpr ⟨lw_p17, List.forall_mem_cons.mpr ⟨lw_p18, List.forall_mem_cons.mpr ⟨lw_p19, List.forall_mem_cons.mpr ⟨lw_p20, List.forall_mem_cons.mpr ⟨lw_p21, List.forall_mem_cons.mpr ⟨lw_p22, List.forall_mem_cons.mpr ⟨lw_p23, List.forall_mem_cons.mpr ⟨lw_p24, List.forall_mem_cons.mpr ⟨lw_p25, List.forall_mem_cons.mpr ⟨lw_p26, List.forall_mem_cons.mpr ⟨lw_p27, List.forall_mem_cons.mpr ⟨lw_p28, List.forall_mem_cons.mpr ⟨lw_p29, List.forall_mem_cons.mpr ⟨lw_p30, List.forall_mem_cons.mpr ⟨lw_p31, fun _ h => absurd h List.not_mem_nil⟩⟩⟩⟩⟩⟩⟩⟩⟩⟩⟩⟩⟩⟩⟩⟩
theorem lw_p32 : lw_okq (⟨"CoalStairsModel", "dayGoes", "()V"⟩, 23) := ⟨⟨by decide +kernel, by decide +kernel⟩, List.mem_of_getElem? (i := 1368) (by decide +kernel), List.mem_of_getElem? (i := 1631) (by decide +kernel), List.mem_of_getElem? (i := 1632) (by decide +kernel)⟩
theorem lw_p33 : lw_okq (⟨"CoalStairsModel", "sum", "(I)I"⟩, 23) := ⟨⟨by decide +kernel, by decide +kernel⟩, List.mem_of_getElem? (i := 1368) (by decide +kernel), List.mem_of_getElem? (i := 1635) (by decide +kernel), List.mem_of_getElem? (i := 1636) (by decide +kernel)⟩
theorem lw_p34 : lw_okq (⟨"CoalStairsModel", "canBy", "(II)I"⟩, 23) := ⟨⟨by decide +kernel, by decide +kernel⟩, List.mem_of_getElem? (i := 1368) (by decide +kernel), List.mem_of_getElem? (i := 1647) (by decide +kernel), List.mem_of_getElem? (i := 1648) (by decide +kernel)⟩
theorem lw_p35 : lw_okq (⟨"CoalStairsModel", "isAhead", "(II)Z"⟩, 23) := ⟨⟨by decide +kernel, by decide +kernel⟩, List.mem_of_getElem? (i := 1368) (by decide +kernel), List.mem_of_getElem? (i := 1667) (by decide +kernel), List.mem_of_getElem? (i := 1668) (by decide +kernel)⟩
theorem lw_p36 : lw_okq (⟨"CoalStairsModel", "writesNumber", "(II)I"⟩, 23) := ⟨⟨by decide +kernel, by decide +kernel⟩, List.mem_of_getElem? (i := 1368) (by decide +kernel), List.mem_of_getElem? (i := 1683) (by decide +kernel), List.mem_of_getElem? (i := 1684) (by decide +kernel)⟩
theorem lw_p37 : lw_okq (⟨"CoalStairsModel", "put", "(II)I"⟩, 23) := ⟨⟨by decide +kernel, by decide +kernel⟩, List.mem_of_getElem? (i := 1368) (by decide +kernel), List.mem_of_getElem? (i := 1687) (by decide +kernel), List.mem_of_getElem? (i := 1688) (by decide +kernel)⟩
theorem lw_p38 : lw_okq (⟨"CoalStairsModel", "readsAll", "()V"⟩, 23) := ⟨⟨by decide +kernel, by decide +kernel⟩, List.mem_of_getElem? (i := 1368) (by decide +kernel), List.mem_of_getElem? (i := 1715) (by decide +kernel), List.mem_of_getElem? (i := 1716) (by decide +kernel)⟩
theorem lw_p39 : lw_okq (⟨"CoalStairsModel", "readsCommand", "()V"⟩, 23) := ⟨⟨by decide +kernel, by decide +kernel⟩, List.mem_of_getElem? (i := 1368) (by decide +kernel), List.mem_of_getElem? (i := 1719) (by decide +kernel), List.mem_of_getElem? (i := 1720) (by decide +kernel)⟩
theorem lw_p40 : lw_okq (⟨"CoalStairsModel", "kind", "()I"⟩, 23) := ⟨⟨by decide +kernel, by decide +kernel⟩, List.mem_of_getElem? (i := 1368) (by decide +kernel), List.mem_of_getElem? (i := 1723) (by decide +kernel), List.mem_of_getElem? (i := 1724) (by decide +kernel)⟩
theorem lw_p41 : lw_okq (⟨"CoalStairsModel", "sign", "()I"⟩, 23) := ⟨⟨by decide +kernel, by decide +kernel⟩, List.mem_of_getElem? (i := 1368) (by decide +kernel), List.mem_of_getElem? (i := 1727) (by decide +kernel), List.mem_of_getElem? (i := 1728) (by decide +kernel)⟩
theorem lw_p42 : lw_okq (⟨"CoalStairsModel", "digits", "(Z)I"⟩, 23) := ⟨⟨by decide +kernel, by decide +kernel⟩, List.mem_of_getElem? (i := 1368) (by decide +kernel), List.mem_of_getElem? (i := 1743) (by decide +kernel), List.mem_of_getElem? (i := 1744) (by decide +kernel)⟩
theorem lw_p43 : lw_okq (⟨"CoalStairsModel", "reads", "(II)I"⟩, 23) := ⟨⟨by decide +kernel, by decide +kernel⟩, List.mem_of_getElem? (i := 1368) (by decide +kernel), List.mem_of_getElem? (i := 1747) (by decide +kernel), List.mem_of_getElem? (i := 1748) (by decide +kernel)⟩
theorem lw_p44 : lw_okq (⟨"CoalStairsModel", "does", "(III)I"⟩, 23) := ⟨⟨by decide +kernel, by decide +kernel⟩, List.mem_of_getElem? (i := 1368) (by decide +kernel), List.mem_of_getElem? (i := 1751) (by decide +kernel), List.mem_of_getElem? (i := 1752) (by decide +kernel)⟩
def lw_privs_3 : List (MethodName × Nat) := [(⟨"CoalStairsModel", "dayGoes", "()V"⟩, 23), (⟨"CoalStairsModel", "sum", "(I)I"⟩, 23), (⟨"CoalStairsModel", "canBy", "(II)I"⟩, 23), (⟨"CoalStairsModel", "isAhead", "(II)Z"⟩, 23), (⟨"CoalStairsModel", "writesNumber", "(II)I"⟩, 23), (⟨"CoalStairsModel", "put", "(II)I"⟩, 23), (⟨"CoalStairsModel", "readsAll", "()V"⟩, 23), (⟨"CoalStairsModel", "readsCommand", "()V"⟩, 23), (⟨"CoalStairsModel", "kind", "()I"⟩, 23), (⟨"CoalStairsModel", "sign", "()I"⟩, 23), (⟨"CoalStairsModel", "digits", "(Z)I"⟩, 23), (⟨"CoalStairsModel", "reads", "(II)I"⟩, 23), (⟨"CoalStairsModel", "does", "(III)I"⟩, 23)]
theorem lw_r3 : ∀ q ∈ lw_privs_3, lw_okq q := List.forall_mem_cons.mpr ⟨lw_p32, List.forall_mem_cons.mpr ⟨lw_p33, List.forall_mem_cons.mpr ⟨lw_p34, List.forall_mem_cons.mpr ⟨lw_p35, List.forall_mem_cons.mpr ⟨lw_p36, List.forall_mem_cons.mpr ⟨lw_p37, List.forall_mem_cons.mpr ⟨lw_p38, List.forall_mem_cons.mpr ⟨lw_p39, List.forall_mem_cons.mpr ⟨lw_p40, List.forall_mem_cons.mpr ⟨lw_p41, List.forall_mem_cons.mpr ⟨lw_p42, List.forall_mem_cons.mpr ⟨lw_p43, List.forall_mem_cons.mpr ⟨lw_p44, fun _ h => absurd h List.not_mem_nil⟩⟩⟩⟩⟩⟩⟩⟩⟩⟩⟩⟩⟩
def lw_privs : List (MethodName × Nat) := lw_privs_1 ++ (lw_privs_2 ++ (lw_privs_3))
def lw_tbl : List Cond := k2_sels lw_privs ++ tables_1
theorem lw_privs_ok : ∀ q ∈ lw_privs, lw_okq q := by
  show ∀ q ∈ lw_privs_1 ++ (lw_privs_2 ++ (lw_privs_3)), lw_okq q
  exact List.forall_mem_append.mpr ⟨lw_r1, List.forall_mem_append.mpr ⟨lw_r2, lw_r3⟩⟩
/-- the streams that the claim lets the run draw from -/
abbrev lw_cs : List Choice := [Jvm.Choice.named "NaN.bits"]
theorem lw_bits : nanBits ∈ lw_cs := by first | decide | exact List.mem_cons_self | simp [lw_cs, nanBits]
/-! ===== BEGIN words of one list among another's, by their places ===== -/
theorem goodIn_r {big : List Cond} (ws : List Cond) (ps : List Nat) (hp : ws = ps.filterMap (fun i => big[i]?)) (h : ws.all goodWord = true) : GoodIn big ws := by
  intro w hw
  have h1 := List.all_eq_true.mp h w hw
  rw [hp] at hw
  obtain ⟨i, -, hi⟩ := List.mem_filterMap.mp hw
  have hm : w ∈ big := by first | exact List.mem_of_getElem? hi | exact List.getElem?_mem hi
  exact ⟨hm, good_of_word h1⟩
theorem goodIn_app {big a b : List Cond} (ha : GoodIn big a) (hb : GoodIn big b) : GoodIn big (a ++ b) := fun w h => (List.mem_append.mp h).elim (ha w) (hb w)
theorem goodIn_ca {big a b : List Cond} {c : Cond} (ha : GoodIn big (c :: a)) (hb : GoodIn big b) : GoodIn big (c :: (a ++ b)) := fun w h => (List.mem_cons.mp h).elim (fun e => ha w (List.mem_cons.mpr (Or.inl e))) (fun h => (List.mem_append.mp h).elim (fun h => ha w (List.mem_cons.mpr (Or.inr h))) (hb w))
theorem goodIn_sub {big ws : List Cond} (hm : ∀ w ∈ ws, w ∈ big) (h : ws.all goodWord = true) : GoodIn big ws := fun w hw => ⟨hm w hw, good_of_word (List.all_eq_true.mp h w hw)⟩
/-! ===== END ===== -/

/-! ===== BEGIN exceptions that leave a method, and their catching by the caller (launches without stack traces) ===== -/
section VXA
/-! The laws vx_back, vx_callV, vx_callS, vx_callSW, vx_throw0, vx_throwS follow proofs of the library, with one case more: JvmDerived/Free/Laws.lean (Back.of_free), Shelf42/LK1.lean (callV, callS), Shelf/KitTraced.lean (throwNew0V, throwNewS). -/
/-- where a method has thrown q: the class by its name, the cell, what was written, the world -/
def vx_T (XC : String → State → State → Prop) (st : State) (q : Addr) (t : State) (mc ms : Nat) (free : Addr → Prop) : Prop :=
  ∃ (E : String) (ce : Cell) (L : List Loc), XC E st t ∧ t.heap[q]? = some ce ∧ ce.vm = .none ∧ st.vm.findClass E = some ce.cls ∧ st.WarmedH t.vm ∧ st.sameButNew ({ t with vm := st.vm } : State) L mc ms ∧ ∀ z ∈ L, free z.base
def vx_Q (Qc : Array Value → State → Outcome → State → Prop) (XC : String → State → State → Prop) (mc ms : Nat) (free : Addr → Prop) : Array Value → State → Outcome → State → Prop := fun a st o t =>
  (Qc a st o t ∧ ∃ L, FrameEnd st o t L mc ms ∧ ∀ q ∈ L, free q.base) ∨ ∃ q, o = .threw q ∧ vx_T XC st q t mc ms free
/-- a callee that returns or throws -/
def vx_Met (l : Launch) (y : MethodName) (ws : List Cond) (rm : Room) (Pc : Array Value → State → Prop) (Qc : Array Value → State → Outcome → State → Prop) (XC : String → State → State → Prop) (mc ms : Nat) (free : Addr → Prop) : Prop :=
  MetFree l y (headSpec ws rm) Pc (fun _ _ _ _ _ => True) (vx_Q Qc XC mc ms free)
def vx_Post (XC : String → State → State → Prop) (mc ms : Nat) (free : Addr → Prop) : Pt → Array Value → Addr → Pt → Prop := fun A a q B =>
  ∃ (g : JFrame) (mk : MethodId) (t : State) (L : List Loc) (E : String) (ce : Cell), B.U.heap = t.heap ∧ B.U.vm = t.vm ∧ XC E (A.U.calling g mk a) t ∧ t.heap[q]? = some ce ∧ ce.vm = .none ∧ A.U.vm.findClass E = some ce.cls ∧ B.locs = A.locs ++ L ∧ (∀ z ∈ L, free z.base) ∧ B.cells = A.cells + mc ∧ B.slots = A.slots + ms
def vx_Back (l : Launch) (R : Room) (p : Program) (e : Env) (below : List Frame) (s : State) (sargs : Array Value) (y : MethodName) (len W9 : Nat)
    (Pre : Pt → Array Value → Prop) (Post : Pt → Array Value → Option Value → Pt → Prop) (PostX : Pt → Array Value → Addr → Pt → Prop) : Prop :=
  ∀ (m : MethodId) (meth : Method) (c : Code) (A : Pt) (g : JFrame) (ig : Instr) (mk : MethodId) (a : Array Value),
    Stand p l e R s m sargs below meth c A.U A.locs A.cells A.slots → g.method = m → g.locals.size = c.maxLocals → decode c.code g.pc = .ok (ig, len) →
    2 * g.monitorRoom + (g.stack.map fun v => v.category).sum ≤ W9 → A.U.methodNamed? y = some mk → Pre A a →
    (∃ (v : Option Value) (B : Pt), Stand p l e R s m sargs below meth c B.U B.locs B.cells B.slots ∧ Post A a v B ∧
      Steps p.tables e below (doInvoke e (A.U.setTop g) [] mk a).1 (B.U.setTop { g with pc := g.pc + len, stack := v.toList ++ g.stack })) ∨
    (∃ (q : Addr) (B : Pt), Stand p l e R s m sargs below meth c B.U B.locs B.cells B.slots ∧ PostX A a q B ∧
      Steps p.tables e below (doInvoke e (A.U.setTop g) [] mk a).1 ((B.U.setTop g).pushFrame (.throwing q)))
section Payer
variable {l : Launch} {R : Room} {p : Program} {e : Env} {below : List Frame} {s : State} {sargs : Array Value} {y : MethodName} {len W9 : Nat}
theorem vx_back {ws : List Cond} {rm : Room} {Pc : Array Value → State → Prop} {Qc : Array Value → State → Outcome → State → Prop} {XC : String → State → State → Prop} {mc ms : Nat} {free : Addr → Prop} {bytes : ByteArray} {maxL : Nat} {ret : Option FieldType}
    (hM : vx_Met l y ws rm Pc Qc XC mc ms free) (hblind : FrameBlind Pc) (hrc : rm.cells = mc) (hrs : rm.slots = ms)
    (hframes : rm.frames + 1 ≤ R.frames) (hlocals : W9 + (maxL + 11) + rm.locals ≤ R.locals)
    (hws : ∀ w ∈ ws, ∀ a' U, s.WarmedH U.vm → w.before a' U = true) (hcode : Cond.code y bytes maxL ret ∈ ws) (hinit : ∀ a' U, s.WarmedH U.vm → (Cond.initialized y.cls).before a' U = true) :
    vx_Back l R p e below s sargs y len W9 (PreOf R mc ms Pc) (PostOf Qc mc ms free) (vx_Post XC mc ms free) := by
  intro m meth c A g ig mk a X hg hsize hdg hW hn hp
  have h1 : (headSpec ws rm).pre.before a A.U = true := atoms_intro fun w hw => hws w hw _ _ X.warmed
  have h2 : (Cond.code y bytes maxL ret).before a A.U = true := hws _ hcode _ _ X.warmed
  have h3 : (Cond.initialized y.cls).before a A.U = true := hinit _ _ X.warmed
  have h4 : A.cells + (headSpec ws rm).room.cells ≤ R.cells := by rw [show (headSpec ws rm).room.cells = mc from hrc]; exact hp.1
  have h5 : A.slots + (headSpec ws rm).room.slots ≤ R.slots := by rw [show (headSpec ws rm).room.slots = ms from hrs]; exact hp.2.1
  have hPc : Pc a (A.U.calling g mk a) := hblind _ _ _ _ hp.2.2
  obtain ⟨U, Ls, c0, s0⟩ := A
  dsimp only [Pt.U, Pt.locs, Pt.cells, Pt.slots] at h1 h2 h3 h4 h5 X hn hPc ⊢
  obtain ⟨methY, cY, hmY, hcY, -, hlY, -, -, -, -⟩ := Cond.code_spec hn h2
  obtain ⟨kY, hkY, -⟩ := className_of_methodNamed hn
  have hinitY : kY.init = .initialized := Cond.initialized_spec (findClass_of_methodNamed hn) hkY h3
  have h : At U g.method c below := by rw [hg]; exact X.here
  have hlocals9 : W9 + (maxL + 11) + (headSpec ws rm).room.locals ≤ R.locals := hlocals
  have happ : (headSpec ws rm).appliesLoose y e.platform (U.calling g mk a) = true :=
    Spec.appliesLoose_calling (g := g) h hdg hn hkY hinitY
      (X.room_calling (g := g) (R' := (headSpec ws rm).room) hsize hmY hcY hframes (by rw [hlY]; omega) h4 h5) h1
  obtain ⟨mid, hmid⟩ := h.above
  have hfr : (U.setTop g).frames = (.java g :: mid) ++ below := by rw [State.frames_setTop' g h.top, hmid]; rfl
  obtain ⟨o, s₂, hsteps, -, hend, hq⟩ := Steps.callFree hM p X.admits X.cas X.clock (acts := []) hfr happ hPc trivial
  have hq' : vx_Q Qc XC mc ms free a (U.calling g mk a) o s₂ := hq
  rw [State.frames_setTop' g h.top] at hend
  obtain ⟨g₀, hg0⟩ := Option.isSome_iff_exists.mp h.top
  obtain ⟨r, hr⟩ := State.topJava?_eq_some.mp hg0
  have hr' : (({ U with heap := s₂.heap, slotsUsed := s₂.slotsUsed } : State).setVm s₂.vm).frames = .java g₀ :: r := hr
  rcases hq' with ⟨hqc, L, hfe, hL⟩ | ⟨q, rfl, E, ce, L, hx, hce, hcv, hcl, hW₂, hsm, hL⟩
  · obtain ⟨⟨v, rfl⟩, hW₂, e2, q2, q3, q4, q5, q6⟩ := id hfe
    have e3 : s₂ = ({ (U.calling g mk a).setFrames s₂.frames with heap := s₂.heap, slotsUsed := s₂.slotsUsed } : State).setVm s₂.vm := by
      have : s₂ = ({ s₂ with vm := (U.calling g mk a).vm } : State).setVm s₂.vm := rfl
      rw [e2] at this
      exact this
    obtain ⟨c₂, i₂, len₂, hc₂, hd₂, hf₂⟩ := hend
    have hW' : U.WarmedH s₂.vm := hW₂
    have hcc : c₂ = c := by
      have h1 : s₂.code? g.method = U.code? g.method := by
        rw [State.code?_eq, State.code?_eq, hW'.alike.method?]
      exact Option.some.inj (hc₂.symm.trans (h1.trans h.code))
    subst hcc
    have hlen : len₂ = len := by rw [hdg] at hd₂; cases hd₂; rfl
    subst hlen
    have hs₂ : s₂ = (({ U with heap := s₂.heap, slotsUsed := s₂.slotsUsed } : State).setVm s₂.vm).setTop { g with pc := g.pc + len₂, stack := v.toList ++ g.stack } := by
      refine e3.trans ?_
      rw [hf₂, State.calling_eq h.top, State.setFrames_setFrames, State.setTop_of_frames _ hr', hr]
      rfl
    have hsame : U.sameButNew ({ U with heap := s₂.heap, slotsUsed := s₂.slotsUsed } : State) L mc ms := by
      refine ⟨?_, q2, q3, q4, q5, q6⟩
      obtain ⟨t, ht, -⟩ := State.frames_cons hr
      show ({ U with heap := s₂.heap, slotsUsed := s₂.slotsUsed } : State) = { U.setFrames U.frames with heap := s₂.heap, slotsUsed := s₂.slotsUsed }
      rw [State.setFrames_self ht]
    subst hg
    refine Or.inl ⟨v, ⟨(({ U with heap := s₂.heap, slotsUsed := s₂.slotsUsed } : State).setVm s₂.vm), Ls ++ L, c0 + mc, s0 + ms⟩,
      ⟨X.admits, X.cas, X.clock, X.frames, X.room, X.hears, X.method, X.code, (X.here.setHeapUsed s₂.heap s₂.slotsUsed).setVm hW'.alike, X.tail, State.WarmedH.trans X.warmed hW', X.limits, X.bytes, X.same.trans (hsame.setVm s.vm)⟩,
      ⟨g, mk, s₂, L, rfl, rfl, hqc, rfl, hL, rfl, rfl⟩, ?_⟩
    show Steps p.tables e below _ ((({ U with heap := s₂.heap, slotsUsed := s₂.slotsUsed } : State).setVm s₂.vm).setTop { g with pc := g.pc + len₂, stack := v.toList ++ g.stack })
    rw [← hs₂]
    exact hsteps
  · obtain ⟨e2, q2, q3, q4, q5, q6⟩ := id hsm
    have e3 : s₂ = ({ (U.calling g mk a).setFrames s₂.frames with heap := s₂.heap, slotsUsed := s₂.slotsUsed } : State).setVm s₂.vm := by
      have : s₂ = ({ s₂ with vm := (U.calling g mk a).vm } : State).setVm s₂.vm := rfl
      rw [e2] at this
      exact this
    have hf₂ : s₂.frames = .throwing q :: .java g :: U.frames.tail := hend
    have hW' : U.WarmedH s₂.vm := hW₂
    have hs₂ : s₂ = ((({ U with heap := s₂.heap, slotsUsed := s₂.slotsUsed } : State).setVm s₂.vm).setTop g).pushFrame (.throwing q) := by
      refine e3.trans ?_
      rw [hf₂, State.calling_eq h.top, State.setFrames_setFrames, State.pushFrame, State.frames_setTop _ hr', State.setTop_of_frames _ hr', State.setFrames_setFrames, hr]
      rfl
    have hsame : U.sameButNew ({ U with heap := s₂.heap, slotsUsed := s₂.slotsUsed } : State) L mc ms := by
      refine ⟨?_, q2, q3, q4, q5, q6⟩
      obtain ⟨t, ht, -⟩ := State.frames_cons hr
      show ({ U with heap := s₂.heap, slotsUsed := s₂.slotsUsed } : State) = { U.setFrames U.frames with heap := s₂.heap, slotsUsed := s₂.slotsUsed }
      rw [State.setFrames_self ht]
    subst hg
    refine Or.inr ⟨q, ⟨(({ U with heap := s₂.heap, slotsUsed := s₂.slotsUsed } : State).setVm s₂.vm), Ls ++ L, c0 + mc, s0 + ms⟩,
      ⟨X.admits, X.cas, X.clock, X.frames, X.room, X.hears, X.method, X.code, (X.here.setHeapUsed s₂.heap s₂.slotsUsed).setVm hW'.alike, X.tail, State.WarmedH.trans X.warmed hW', X.limits, X.bytes, X.same.trans (hsame.setVm s.vm)⟩,
      ⟨g, mk, s₂, L, E, ce, rfl, rfl, hx, hce, hcv, hcl, rfl, hL, rfl, rfl⟩, ?_⟩
    show Steps p.tables e below _ (((({ U with heap := s₂.heap, slotsUsed := s₂.slotsUsed } : State).setVm s₂.vm).setTop g).pushFrame (.throwing q))
    rw [← hs₂]
    exact hsteps
end Payer
section Calls
variable {p : Program} {l : Launch} {e : Env} {R : Room} {s : State} {m : MethodId} {args : Array Value} {below : List Frame} {meth : Method} {c : Code} {T : State} {locs : List Loc} {cells slots : Nat}
theorem vx_callV (X : Stand p l e R s m args below meth c T locs cells slots) (hexec : p.tables.exec = Jvm.exec) {own C : String} {index : Nat} {y : MethodName} {bytes : ByteArray} {maxL : Nat} {ret : Option FieldType}
    (hown : s.vm.findClass own = some m.cls) (hlink : (Cond.methodLink own index y).before args s = true) (hinst : (Cond.instanceMethod y).before args s = true) (hsel : (Cond.selects C y y).before args s = true)
    (hcode : (Cond.code y bytes maxL ret).before args s = true) (hy : y.cls ≠ "java/lang/invoke/MethodHandle" ∧ y.cls ≠ "java/lang/invoke/VarHandle")
    {W9 : Nat} {Pre : Pt → Array Value → Prop} {Post : Pt → Array Value → Option Value → Pt → Prop} {PostX : Pt → Array Value → Addr → Pt → Prop} (hK : vx_Back l R p e below s args y 3 W9 Pre Post PostX)
    {b : Addr} {cellB : Cell} (hcell : T.heap[b]? = some cellB) (hobj : cellB.vm.isStatics = false) (hcls : s.vm.findClass C = some cellB.cls)
    {g : JFrame} (hg : g.method = m) (hsize : g.locals.size = c.maxLocals) {argsL rest : List Value} (hlen : ∀ sig, parseMethodDescriptor y.desc = some sig → argsL.length = sig.parameters.length)
    (hstack : g.stack = argsL.reverse ++ .ref b :: rest) (hW : 2 * g.monitorRoom + (rest.map fun v => v.category).sum ≤ W9) (hdg : decode c.code g.pc = .ok (.invokevirtual index, 3))
    (hpre : ∀ vm₁, s.WarmedH vm₁ → Pre ⟨T.setVm vm₁, locs, cells, slots⟩ (Value.ref b :: argsL).toArray) :
    (∃ (v : Option Value) (vm₁ : Vm) (B : Pt), s.WarmedH vm₁ ∧ Stand p l e R s m args below meth c B.U B.locs B.cells B.slots ∧ Post ⟨T.setVm vm₁, locs, cells, slots⟩ (Value.ref b :: argsL).toArray v B ∧
      ∀ target, Steps p.tables e below (B.U.setTop { g with pc := g.pc + 3, stack := v.toList ++ rest }) target → Steps p.tables e below (T.setTop g) target) ∨
    (∃ (q : Addr) (vm₁ : Vm) (B : Pt), s.WarmedH vm₁ ∧ Stand p l e R s m args below meth c B.U B.locs B.cells B.slots ∧ PostX ⟨T.setVm vm₁, locs, cells, slots⟩ (Value.ref b :: argsL).toArray q B ∧
      Steps p.tables e below (T.setTop g) ((B.U.setTop { g with stack := rest }).pushFrame (.throwing q))) := by
  obtain ⟨mk, methM, hnamed, hmethM, hstM, habM⟩ := Cond.instanceMethod_spec hinst
  obtain ⟨methM', cM, hmethM', -, -, -, -, -, -, hsigM⟩ := Cond.code_spec hnamed hcode
  cases hmethM.symm.trans hmethM'
  obtain ⟨c2, r2, m2, q1, q2, q3, q4, kP, hkP, hkPi⟩ := Cond.selects_spec hsel
  cases hcls.symm.trans q1
  cases (State.methodFound?_of_named hnamed hy).symm.trans q2
  cases hnamed.symm.trans q3
  have hselP : selectMethod e.platform s.vm cellB.cls mk = .method mk := by rw [Launch.admits_selectMethod X.admits]; exact q4
  obtain ⟨vm₁, X₁, hstep₁⟩ := X.invokevirtual hexec hown hlink hnamed hmethM hstM hkP hkPi hy (a := b) (cell := cellB) hcell
    (fun z h => by rw [h] at hobj; cases hobj) hselP hmethM habM hkP hkPi (g := g) hg (argsL := argsL) (rest := rest) (hlen _ hsigM) hstack hdg
  rcases hK m meth c ⟨T.setVm vm₁, locs, cells, slots⟩ { g with stack := rest } (.invokevirtual index) mk (Value.ref b :: argsL).toArray X₁ hg hsize hdg hW (X₁.named hnamed) (hpre vm₁ X₁.warmed) with ⟨v, B, X', hpost, hsteps⟩ | ⟨q, B, X', hpost, hsteps⟩
  · exact Or.inl ⟨v, vm₁, B, X₁.warmed, X', hpost, fun target h => hstep₁ _ fun acts => by rw [doInvoke_state]; exact hsteps.trans h⟩
  · exact Or.inr ⟨q, vm₁, B, X₁.warmed, X', hpost, hstep₁ _ fun acts => by rw [doInvoke_state]; exact hsteps⟩
theorem vx_callS (X : Stand p l e R s m args below meth c T locs cells slots) (hexec : p.tables.exec = Jvm.exec) {own : String} {index : Nat} {y : MethodName} {bytes : ByteArray} {maxL : Nat} {ret : Option FieldType}
    (hown : s.vm.findClass own = some m.cls) (hlink : (Cond.methodLink own index y).before args s = true) (hstat : (Cond.static y).before args s = true) (hinit : (Cond.initialized y.cls).before args s = true)
    (hcode : (Cond.code y bytes maxL ret).before args s = true) (hy : y.cls ≠ "java/lang/invoke/MethodHandle" ∧ y.cls ≠ "java/lang/invoke/VarHandle")
    {W9 : Nat} {Pre : Pt → Array Value → Prop} {Post : Pt → Array Value → Option Value → Pt → Prop} {PostX : Pt → Array Value → Addr → Pt → Prop} (hK : vx_Back l R p e below s args y 3 W9 Pre Post PostX)
    {g : JFrame} (hg : g.method = m) (hsize : g.locals.size = c.maxLocals) {argsL rest : List Value} (hlen : ∀ sig, parseMethodDescriptor y.desc = some sig → argsL.length = sig.parameters.length)
    (hstack : g.stack = argsL.reverse ++ rest) (hW : 2 * g.monitorRoom + (rest.map fun v => v.category).sum ≤ W9) (hdg : decode c.code g.pc = .ok (.invokestatic index, 3))
    (hpre : ∀ vm₁, s.WarmedH vm₁ → Pre ⟨T.setVm vm₁, locs, cells, slots⟩ argsL.toArray) :
    (∃ (v : Option Value) (vm₁ : Vm) (B : Pt), s.WarmedH vm₁ ∧ Stand p l e R s m args below meth c B.U B.locs B.cells B.slots ∧ Post ⟨T.setVm vm₁, locs, cells, slots⟩ argsL.toArray v B ∧
      ∀ target, Steps p.tables e below (B.U.setTop { g with pc := g.pc + 3, stack := v.toList ++ rest }) target → Steps p.tables e below (T.setTop g) target) ∨
    (∃ (q : Addr) (vm₁ : Vm) (B : Pt), s.WarmedH vm₁ ∧ Stand p l e R s m args below meth c B.U B.locs B.cells B.slots ∧ PostX ⟨T.setVm vm₁, locs, cells, slots⟩ argsL.toArray q B ∧
      Steps p.tables e below (T.setTop g) ((B.U.setTop { g with stack := rest }).pushFrame (.throwing q))) := by
  obtain ⟨mk, hnamed⟩ := Cond.code_named hcode
  obtain ⟨methM, cM, hmethM, -, -, -, -, -, -, hsigM⟩ := Cond.code_spec hnamed hcode
  have hstatic : methM.isStatic = true := Cond.static_spec hnamed hmethM hstat
  obtain ⟨kP, hkP, -⟩ := className_of_methodNamed hnamed
  have hinitP : kP.init = .initialized := Cond.initialized_spec (findClass_of_methodNamed hnamed) hkP hinit
  obtain ⟨vm₁, X₁, hstep₁⟩ := X.invokestatic hexec hown hlink hnamed hmethM hstatic hkP hinitP hy (g := g) hg (argsL := argsL) (rest := rest) (hlen _ hsigM) hstack hdg
  rcases hK m meth c ⟨T.setVm vm₁, locs, cells, slots⟩ { g with stack := rest } (.invokestatic index) mk argsL.toArray X₁ hg hsize hdg hW (X₁.named hnamed) (hpre vm₁ X₁.warmed) with ⟨v, B, X', hpost, hsteps⟩ | ⟨q, B, X', hpost, hsteps⟩
  · exact Or.inl ⟨v, vm₁, B, X₁.warmed, X', hpost, fun target h => hstep₁ _ fun acts => by rw [doInvoke_state]; exact hsteps.trans h⟩
  · exact Or.inr ⟨q, vm₁, B, X₁.warmed, X', hpost, hstep₁ _ fun acts => by rw [doInvoke_state]; exact hsteps⟩
end Calls
theorem vx_cls {s : State} {T : State} {vm₁ : Vm} {E : String} {k : ClassId} (hW : s.WarmedH vm₁) (h : (T.setVm vm₁).vm.findClass E = some k) : s.vm.findClass E = some k := by
  have h1 : vm₁.findClass E = some k := h
  rw [hW.alike.findClass] at h1
  exact h1
/-- the method's frame g, with q thrown over it -/
def vx_W (p : Program) (l : Launch) (e : Env) (R : Room) (s : State) (m : MethodId) (args : Array Value) (below : List Frame) (meth : Method) (c : Code) (H : Heap) (locs : List Loc) (cells slots : Nat) (Q : State → Prop) (g : JFrame) (q : Addr) : Prop :=
  ∀ T : State, T.heap = H → Stand p l e R s m args below meth c T locs cells slots → ∃ t, Steps p.tables e below ((T.setTop g).pushFrame (.throwing q)) t ∧ Q t
def vx_Run (p : Program) (l : Launch) (e : Env) (R : Room) (s : State) (m : MethodId) (args : Array Value) (below : List Frame) (meth : Method) (c : Code) (H : Heap) (locs : List Loc) (cells slots mc ms : Nat) (g : JFrame) (rest : List Value) (Qa : State → Outcome → State → Prop) (XC : String → State → State → Prop) (free : Addr → Prop) : Prop :=
  ∀ T : State, T.heap = H → Stand p l e R s m args below meth c T locs cells slots →
    (∃ (v : Option Value) (st₀ t T' : State) (L : List Loc), st₀.heap = H ∧ Stand p l e R s m args below meth c T' (locs ++ L) (cells + mc) (slots + ms) ∧ (∀ q ∈ L, free q.base) ∧ T'.heap = t.heap ∧ T'.vm = t.vm ∧ Qa st₀ (.returned v) t ∧
      Goes p e below T g T' { g with pc := g.pc + 3, stack := v.toList ++ rest }) ∨
    (∃ (q : Addr) (st₀ t T' : State) (L : List Loc) (E : String) (ce : Cell), st₀.heap = H ∧ Stand p l e R s m args below meth c T' (locs ++ L) (cells + mc) (slots + ms) ∧ (∀ z ∈ L, free z.base) ∧ T'.heap = t.heap ∧ T'.vm = t.vm ∧ XC E st₀ t ∧ t.heap[q]? = some ce ∧ ce.vm = .none ∧ s.vm.findClass E = some ce.cls ∧
      Steps p.tables e below (T.setTop g) ((T'.setTop { g with stack := rest }).pushFrame (.throwing q)))
def vx_X {S : Type} (px : S → Prop) (B : String → S → State → Prop) (A : Nat → Prop) : String → State → State → Prop := fun E st t => ∃ u : S, px u ∧ B E u t ∧ va_F A st t
section Runs
variable {p : Program} {l : Launch} {e : Env} {R : Room} {s : State} {m : MethodId} {args : Array Value} {below : List Frame} {meth : Method} {c : Code} {H : Heap} {locs : List Loc} {cells slots : Nat}
variable {y : MethodName} {bytes cc : ByteArray} {maxL nL mc ms n index : Nat} {ret : Option FieldType} {ws : List Cond} {rm : Room} {Pc : Array Value → State → Prop} {Qc : Array Value → State → Outcome → State → Prop} {XC : String → State → State → Prop} {free : Addr → Prop} {Ts : List Cond} {own C : String} {b : Addr} {As rest : List Value} {g : JFrame}
theorem vx_callBack (cb : CallB R s args own index y bytes maxL ret ws rm mc ms n) (hM : vx_Met l y ws rm Pc Qc XC mc ms free) (hbl : FrameBlind Pc) : vx_Back l R p e below s args y 3 8 (PreOf R mc ms Pc) (PostOf Qc mc ms free) (vx_Post XC mc ms free) := by
  obtain ⟨hrc, hrs, hfr, hlo, hws, hcw, -, hini, -⟩ := cb
  exact vx_back (bytes := bytes) (maxL := maxL) (ret := ret) hM hbl hrc hrs hfr hlo hws hcw (fun a' U hW => word_at hW (Or.inl (by first | rfl | simp [Cond.onTables, Cond.keeps, Cond.steady])) hini)
theorem vx_runV (S : CallFix p m c cc nL s args Ts own) (hM : vx_Met l y ws rm Pc Qc XC mc ms free) (cw : CallW R s args own C index y bytes maxL ret ws rm mc ms n) (hp : PreV s H C b Pc As)
    (hg : g.method = m) (hn : As.length = n) (hsize : g.locals.size = nL) (hstack : g.stack = As.reverse ++ .ref b :: rest) (hW : 2 * g.monitorRoom + (rest.map fun v => v.category).sum ≤ 8) (hdg : decode cc g.pc = .ok (.invokevirtual index, 3)) (hf : cells + mc ≤ R.cells ∧ slots + ms ≤ R.slots) :
    vx_Run p l e R s m args below meth c H locs cells slots mc ms g rest (Qc (Value.ref b :: As).toArray) XC free := by
  have hK : vx_Back l R p e below s args y 3 8 (PreOf R mc ms Pc) (PostOf Qc mc ms free) (vx_Post XC mc ms free) := vx_callBack cw.1 hM hp.1
  obtain ⟨⟨-, -, -, -, -, -, hcode, -, hy, hlen, hl⟩, hin, hse⟩ := cw
  obtain ⟨hx, hb, hml, ho, -⟩ := S
  obtain ⟨-, ⟨cellB, hcB, hoB, hclB⟩, hPc⟩ := hp
  intro T hT X
  rcases vx_callV X hx (C := C) (bytes := bytes) (maxL := maxL) (ret := ret) ho hl hin hse hcode hy hK (by rw [hT]; exact hcB) hoB hclB hg (hsize.trans hml.symm) (argsL := As) (rest := rest) (fun sig h => hn.trans (hlen sig h)) hstack hW (by rw [hb]; exact hdg)
    (fun vm₁ hW₁ => ⟨hf.1, hf.2, hPc (T.setVm vm₁) hT hW₁⟩) with ⟨v, vm₁, ⟨U', l2, c2, s2⟩, hW₁, X', ⟨g', mk, t, L, e1, e2, hq, h1, hL, h2, h3⟩, st⟩ | ⟨q, vm₁, ⟨U', l2, c2, s2⟩, hW₁, X', ⟨g', mk, t, L, E, ce, e1, e2, hq, hce, hcv, hcl, h1, hL, h2, h3⟩, st⟩
  · dsimp only [Pt.U, Pt.locs, Pt.cells, Pt.slots] at X' e1 e2 h1 h2 h3 st
    subst h1; subst h2; subst h3
    exact Or.inl ⟨v, (T.setVm vm₁).calling g' mk (Value.ref b :: As).toArray, t, U', L, hT, X', hL, e1, e2, hq, st⟩
  · dsimp only [Pt.U, Pt.locs, Pt.cells, Pt.slots] at X' e1 e2 h1 h2 h3 st hcl
    subst h1; subst h2; subst h3
    exact Or.inr ⟨q, (T.setVm vm₁).calling g' mk (Value.ref b :: As).toArray, t, U', L, E, ce, hT, X', hL, e1, e2, hq, hce, hcv, vx_cls hW₁ hcl, st⟩
theorem vx_runS (S : CallFix p m c cc nL s args Ts own) (hM : vx_Met l y ws rm Pc Qc XC mc ms free) (cw : CallB R s args own index y bytes maxL ret ws rm mc ms n ∧ (Cond.static y).before args s = true) (hp : PreS s H Pc As)
    (hg : g.method = m) (hn : As.length = n) (hsize : g.locals.size = nL) (hstack : g.stack = As.reverse ++ rest) (hW : 2 * g.monitorRoom + (rest.map fun v => v.category).sum ≤ 8) (hdg : decode cc g.pc = .ok (.invokestatic index, 3)) (hf : cells + mc ≤ R.cells ∧ slots + ms ≤ R.slots) :
    vx_Run p l e R s m args below meth c H locs cells slots mc ms g rest (Qc As.toArray) XC free := by
  have hK : vx_Back l R p e below s args y 3 8 (PreOf R mc ms Pc) (PostOf Qc mc ms free) (vx_Post XC mc ms free) := vx_callBack cw.1 hM hp.1
  obtain ⟨⟨-, -, -, -, -, -, hcode, hini, hy, hlen, hl⟩, hstt⟩ := cw
  obtain ⟨hx, hb, hml, ho, -⟩ := S
  intro T hT X
  rcases vx_callS X hx (bytes := bytes) (maxL := maxL) (ret := ret) ho hl hstt hini hcode hy hK hg (hsize.trans hml.symm) (argsL := As) (rest := rest) (fun sig h => hn.trans (hlen sig h)) hstack hW (by rw [hb]; exact hdg)
    (fun vm₁ hW₁ => ⟨hf.1, hf.2, hp.2 (T.setVm vm₁) hT hW₁⟩) with ⟨v, vm₁, ⟨U', l2, c2, s2⟩, hW₁, X', ⟨g', mk, t, L, e1, e2, hq, h1, hL, h2, h3⟩, st⟩ | ⟨q, vm₁, ⟨U', l2, c2, s2⟩, hW₁, X', ⟨g', mk, t, L, E, ce, e1, e2, hq, hce, hcv, hcl, h1, hL, h2, h3⟩, st⟩
  · dsimp only [Pt.U, Pt.locs, Pt.cells, Pt.slots] at X' e1 e2 h1 h2 h3 st
    subst h1; subst h2; subst h3
    exact Or.inl ⟨v, (T.setVm vm₁).calling g' mk As.toArray, t, U', L, hT, X', hL, e1, e2, hq, st⟩
  · dsimp only [Pt.U, Pt.locs, Pt.cells, Pt.slots] at X' e1 e2 h1 h2 h3 st hcl
    subst h1; subst h2; subst h3
    exact Or.inr ⟨q, (T.setVm vm₁).calling g' mk As.toArray, t, U', L, E, ce, hT, X', hL, e1, e2, hq, hce, hcv, vx_cls hW₁ hcl, st⟩
end Runs
section Rows
variable {p : Program} {l : Launch} {e : Env} {R : Room} {s : State} {m : MethodId} {args : Array Value} {below : List Frame} {meth : Method} {c : Code} {H : Heap} {locs : List Loc} {cells slots : Nat} {Q : State → Prop}
variable {mc ms : Nat} {free : Addr → Prop} {A0 A1 : Nat → Prop} {H0 : Heap} {a : Array Value} {pc : Nat} {ls : Array Slot} {st0 rest : List Value}
theorem vx_keep {st₀ t T' : State} {L : List Loc} (h0 : st₀.heap = H) (e1 : T'.heap = t.heap) (hS : va_S A0 H0 H locs) (hA : ∀ q, q < H.size → A1 q → A0 q) (hf : ∀ q, free q → A0 q) (hL : ∀ q ∈ L, free q.base) (hF : va_F A1 st₀ t) :
    H.size ≤ T'.heap.size ∧ (∀ q : Nat, q < H.size → ¬ A1 q → T'.heap[q]? = H[q]?) ∧ va_S A0 H0 T'.heap (locs ++ L) := by
  obtain ⟨hz, hk⟩ := hF
  rw [h0] at hz hk
  exact ⟨by rw [e1]; exact hz, fun q h1 h2 => by rw [e1]; exact hk q h1 h2,
    ⟨Nat.le_trans hS.1 (by rw [e1]; exact hz), fun q h1 h2 => by rw [e1, hk q (Nat.lt_of_lt_of_le h1 hS.1) (fun z => h2 (hA q (Nat.lt_of_lt_of_le h1 hS.1) z))]; exact hS.2.1 q h1 h2, fun q hq => by
      rcases List.mem_append.mp hq with h | h
      · exact hS.2.2 q h
      · exact hf _ (hL q h)⟩⟩
theorem vx_calli {S SX : Type} {post : Int32 → S → Prop} {px : SX → Prop} {B : S → State → Prop} {BX : String → SX → State → Prop} {AX : Nat → Prop} (hr : vx_Run p l e R s m args below meth c H locs cells slots mc ms (F0 m pc ls st0) rest (va_Qi post B A1 a) (vx_X px BX AX) free) (hS : va_S A0 H0 H locs) (hA : ∀ q, q < H.size → A1 q → A0 q) (hf : ∀ q, free q → A0 q) (hAX : ∀ q, q < H.size → AX q → A0 q)
    (kx : ∀ (E : String) (ce : Cell) (q9 : Addr) (u : SX) (t : State) (H1 : Heap) (locs1 : List Loc), t.heap = H1 → s.vm.Alike t.vm → px u → BX E u t → H.size ≤ H1.size → (∀ q : Nat, q < H.size → ¬ AX q → H1[q]? = H[q]?) → va_S A0 H0 H1 locs1 → H1[q9]? = some ce → ce.vm = .none → s.vm.findClass E = some ce.cls → vx_W p l e R s m args below meth c H1 locs1 (cells + mc) (slots + ms) Q (F0 m pc ls rest) q9)
    (kk : ∀ (r : Int32) (u : S) (t : State) (H1 : Heap) (locs1 : List Loc), t.heap = H1 → s.vm.Alike t.vm → post r u → B u t → H.size ≤ H1.size → (∀ q : Nat, q < H.size → ¬ A1 q → H1[q]? = H[q]?) → va_S A0 H0 H1 locs1 → W p l e R s m args below meth c H1 locs1 (cells + mc) (slots + ms) Q (F0 m (pc + 3) ls (.int r :: rest))) : W p l e R s m args below meth c H locs cells slots Q (F0 m pc ls st0) := by
  intro T hT X
  rcases hr T hT X with ⟨v, st₀, t, T', L, h0, X', hL, e1, e2, ⟨⟨r, u, hv, hp, hb⟩, hF⟩, st⟩ | ⟨q, st₀, t, T', L, E, ce, h0, X', hL, e1, e2, ⟨u, hp, hb, hF⟩, hce, hcv, hcl, st⟩
  · cases hv
    obtain ⟨k1, k2, k3⟩ := vx_keep h0 e1 hS hA hf hL hF
    obtain ⟨t2, a1, b1⟩ := kk r u t T'.heap (locs ++ L) e1.symm (by rw [← e2]; exact X'.warmed.alike) hp hb k1 k2 k3 T' rfl X'
    exact ⟨t2, st t2 a1, b1⟩
  · obtain ⟨k1, k2, k3⟩ := vx_keep h0 e1 hS hAX hf hL hF
    obtain ⟨t2, a1, b1⟩ := kx E ce q u t T'.heap (locs ++ L) e1.symm (by rw [← e2]; exact X'.warmed.alike) hp hb k1 k2 k3 (by rw [e1]; exact hce) hcv hcl T' rfl X'
    exact ⟨t2, st.trans a1, b1⟩
theorem vx_calll {S SX : Type} {post : Int64 → S → Prop} {px : SX → Prop} {B : S → State → Prop} {BX : String → SX → State → Prop} {AX : Nat → Prop} (hr : vx_Run p l e R s m args below meth c H locs cells slots mc ms (F0 m pc ls st0) rest (va_Ql post B A1 a) (vx_X px BX AX) free) (hS : va_S A0 H0 H locs) (hA : ∀ q, q < H.size → A1 q → A0 q) (hf : ∀ q, free q → A0 q) (hAX : ∀ q, q < H.size → AX q → A0 q)
    (kx : ∀ (E : String) (ce : Cell) (q9 : Addr) (u : SX) (t : State) (H1 : Heap) (locs1 : List Loc), t.heap = H1 → s.vm.Alike t.vm → px u → BX E u t → H.size ≤ H1.size → (∀ q : Nat, q < H.size → ¬ AX q → H1[q]? = H[q]?) → va_S A0 H0 H1 locs1 → H1[q9]? = some ce → ce.vm = .none → s.vm.findClass E = some ce.cls → vx_W p l e R s m args below meth c H1 locs1 (cells + mc) (slots + ms) Q (F0 m pc ls rest) q9)
    (kk : ∀ (r : Int64) (u : S) (t : State) (H1 : Heap) (locs1 : List Loc), t.heap = H1 → s.vm.Alike t.vm → post r u → B u t → H.size ≤ H1.size → (∀ q : Nat, q < H.size → ¬ A1 q → H1[q]? = H[q]?) → va_S A0 H0 H1 locs1 → W p l e R s m args below meth c H1 locs1 (cells + mc) (slots + ms) Q (F0 m (pc + 3) ls (.long r :: rest))) : W p l e R s m args below meth c H locs cells slots Q (F0 m pc ls st0) := by
  intro T hT X
  rcases hr T hT X with ⟨v, st₀, t, T', L, h0, X', hL, e1, e2, ⟨⟨r, u, hv, hp, hb⟩, hF⟩, st⟩ | ⟨q, st₀, t, T', L, E, ce, h0, X', hL, e1, e2, ⟨u, hp, hb, hF⟩, hce, hcv, hcl, st⟩
  · cases hv
    obtain ⟨k1, k2, k3⟩ := vx_keep h0 e1 hS hA hf hL hF
    obtain ⟨t2, a1, b1⟩ := kk r u t T'.heap (locs ++ L) e1.symm (by rw [← e2]; exact X'.warmed.alike) hp hb k1 k2 k3 T' rfl X'
    exact ⟨t2, st t2 a1, b1⟩
  · obtain ⟨k1, k2, k3⟩ := vx_keep h0 e1 hS hAX hf hL hF
    obtain ⟨t2, a1, b1⟩ := kx E ce q u t T'.heap (locs ++ L) e1.symm (by rw [← e2]; exact X'.warmed.alike) hp hb k1 k2 k3 (by rw [e1]; exact hce) hcv hcl T' rfl X'
    exact ⟨t2, st.trans a1, b1⟩
theorem vx_callf {S SX : Type} {post : UInt32 → S → Prop} {px : SX → Prop} {B : S → State → Prop} {BX : String → SX → State → Prop} {AX : Nat → Prop} (hr : vx_Run p l e R s m args below meth c H locs cells slots mc ms (F0 m pc ls st0) rest (va_Qf post B A1 a) (vx_X px BX AX) free) (hS : va_S A0 H0 H locs) (hA : ∀ q, q < H.size → A1 q → A0 q) (hf : ∀ q, free q → A0 q) (hAX : ∀ q, q < H.size → AX q → A0 q)
    (kx : ∀ (E : String) (ce : Cell) (q9 : Addr) (u : SX) (t : State) (H1 : Heap) (locs1 : List Loc), t.heap = H1 → s.vm.Alike t.vm → px u → BX E u t → H.size ≤ H1.size → (∀ q : Nat, q < H.size → ¬ AX q → H1[q]? = H[q]?) → va_S A0 H0 H1 locs1 → H1[q9]? = some ce → ce.vm = .none → s.vm.findClass E = some ce.cls → vx_W p l e R s m args below meth c H1 locs1 (cells + mc) (slots + ms) Q (F0 m pc ls rest) q9)
    (kk : ∀ (r : UInt32) (u : S) (t : State) (H1 : Heap) (locs1 : List Loc), t.heap = H1 → s.vm.Alike t.vm → post r u → B u t → H.size ≤ H1.size → (∀ q : Nat, q < H.size → ¬ A1 q → H1[q]? = H[q]?) → va_S A0 H0 H1 locs1 → W p l e R s m args below meth c H1 locs1 (cells + mc) (slots + ms) Q (F0 m (pc + 3) ls (.float r :: rest))) : W p l e R s m args below meth c H locs cells slots Q (F0 m pc ls st0) := by
  intro T hT X
  rcases hr T hT X with ⟨v, st₀, t, T', L, h0, X', hL, e1, e2, ⟨⟨r, u, hv, hp, hb⟩, hF⟩, st⟩ | ⟨q, st₀, t, T', L, E, ce, h0, X', hL, e1, e2, ⟨u, hp, hb, hF⟩, hce, hcv, hcl, st⟩
  · cases hv
    obtain ⟨k1, k2, k3⟩ := vx_keep h0 e1 hS hA hf hL hF
    obtain ⟨t2, a1, b1⟩ := kk r u t T'.heap (locs ++ L) e1.symm (by rw [← e2]; exact X'.warmed.alike) hp hb k1 k2 k3 T' rfl X'
    exact ⟨t2, st t2 a1, b1⟩
  · obtain ⟨k1, k2, k3⟩ := vx_keep h0 e1 hS hAX hf hL hF
    obtain ⟨t2, a1, b1⟩ := kx E ce q u t T'.heap (locs ++ L) e1.symm (by rw [← e2]; exact X'.warmed.alike) hp hb k1 k2 k3 (by rw [e1]; exact hce) hcv hcl T' rfl X'
    exact ⟨t2, st.trans a1, b1⟩
theorem vx_calld {S SX : Type} {post : UInt64 → S → Prop} {px : SX → Prop} {B : S → State → Prop} {BX : String → SX → State → Prop} {AX : Nat → Prop} (hr : vx_Run p l e R s m args below meth c H locs cells slots mc ms (F0 m pc ls st0) rest (va_Qd post B A1 a) (vx_X px BX AX) free) (hS : va_S A0 H0 H locs) (hA : ∀ q, q < H.size → A1 q → A0 q) (hf : ∀ q, free q → A0 q) (hAX : ∀ q, q < H.size → AX q → A0 q)
    (kx : ∀ (E : String) (ce : Cell) (q9 : Addr) (u : SX) (t : State) (H1 : Heap) (locs1 : List Loc), t.heap = H1 → s.vm.Alike t.vm → px u → BX E u t → H.size ≤ H1.size → (∀ q : Nat, q < H.size → ¬ AX q → H1[q]? = H[q]?) → va_S A0 H0 H1 locs1 → H1[q9]? = some ce → ce.vm = .none → s.vm.findClass E = some ce.cls → vx_W p l e R s m args below meth c H1 locs1 (cells + mc) (slots + ms) Q (F0 m pc ls rest) q9)
    (kk : ∀ (r : UInt64) (u : S) (t : State) (H1 : Heap) (locs1 : List Loc), t.heap = H1 → s.vm.Alike t.vm → post r u → B u t → H.size ≤ H1.size → (∀ q : Nat, q < H.size → ¬ A1 q → H1[q]? = H[q]?) → va_S A0 H0 H1 locs1 → W p l e R s m args below meth c H1 locs1 (cells + mc) (slots + ms) Q (F0 m (pc + 3) ls (.double r :: rest))) : W p l e R s m args below meth c H locs cells slots Q (F0 m pc ls st0) := by
  intro T hT X
  rcases hr T hT X with ⟨v, st₀, t, T', L, h0, X', hL, e1, e2, ⟨⟨r, u, hv, hp, hb⟩, hF⟩, st⟩ | ⟨q, st₀, t, T', L, E, ce, h0, X', hL, e1, e2, ⟨u, hp, hb, hF⟩, hce, hcv, hcl, st⟩
  · cases hv
    obtain ⟨k1, k2, k3⟩ := vx_keep h0 e1 hS hA hf hL hF
    obtain ⟨t2, a1, b1⟩ := kk r u t T'.heap (locs ++ L) e1.symm (by rw [← e2]; exact X'.warmed.alike) hp hb k1 k2 k3 T' rfl X'
    exact ⟨t2, st t2 a1, b1⟩
  · obtain ⟨k1, k2, k3⟩ := vx_keep h0 e1 hS hAX hf hL hF
    obtain ⟨t2, a1, b1⟩ := kx E ce q u t T'.heap (locs ++ L) e1.symm (by rw [← e2]; exact X'.warmed.alike) hp hb k1 k2 k3 (by rw [e1]; exact hce) hcv hcl T' rfl X'
    exact ⟨t2, st.trans a1, b1⟩
theorem vx_callv {S SX : Type} {post : S → Prop} {px : SX → Prop} {B : S → State → Prop} {BX : String → SX → State → Prop} {AX : Nat → Prop} (hr : vx_Run p l e R s m args below meth c H locs cells slots mc ms (F0 m pc ls st0) rest (va_Qv post B A1 a) (vx_X px BX AX) free) (hS : va_S A0 H0 H locs) (hA : ∀ q, q < H.size → A1 q → A0 q) (hf : ∀ q, free q → A0 q) (hAX : ∀ q, q < H.size → AX q → A0 q)
    (kx : ∀ (E : String) (ce : Cell) (q9 : Addr) (u : SX) (t : State) (H1 : Heap) (locs1 : List Loc), t.heap = H1 → s.vm.Alike t.vm → px u → BX E u t → H.size ≤ H1.size → (∀ q : Nat, q < H.size → ¬ AX q → H1[q]? = H[q]?) → va_S A0 H0 H1 locs1 → H1[q9]? = some ce → ce.vm = .none → s.vm.findClass E = some ce.cls → vx_W p l e R s m args below meth c H1 locs1 (cells + mc) (slots + ms) Q (F0 m pc ls rest) q9)
    (kk : ∀ (u : S) (t : State) (H1 : Heap) (locs1 : List Loc), t.heap = H1 → s.vm.Alike t.vm → post u → B u t → H.size ≤ H1.size → (∀ q : Nat, q < H.size → ¬ A1 q → H1[q]? = H[q]?) → va_S A0 H0 H1 locs1 → W p l e R s m args below meth c H1 locs1 (cells + mc) (slots + ms) Q (F0 m (pc + 3) ls (rest))) : W p l e R s m args below meth c H locs cells slots Q (F0 m pc ls st0) := by
  intro T hT X
  rcases hr T hT X with ⟨v, st₀, t, T', L, h0, X', hL, e1, e2, ⟨⟨u, hv, hp, hb⟩, hF⟩, st⟩ | ⟨q, st₀, t, T', L, E, ce, h0, X', hL, e1, e2, ⟨u, hp, hb, hF⟩, hce, hcv, hcl, st⟩
  · cases hv
    obtain ⟨k1, k2, k3⟩ := vx_keep h0 e1 hS hA hf hL hF
    obtain ⟨t2, a1, b1⟩ := kk u t T'.heap (locs ++ L) e1.symm (by rw [← e2]; exact X'.warmed.alike) hp hb k1 k2 k3 T' rfl X'
    exact ⟨t2, st t2 a1, b1⟩
  · obtain ⟨k1, k2, k3⟩ := vx_keep h0 e1 hS hAX hf hL hF
    obtain ⟨t2, a1, b1⟩ := kx E ce q u t T'.heap (locs ++ L) e1.symm (by rw [← e2]; exact X'.warmed.alike) hp hb k1 k2 k3 (by rw [e1]; exact hce) hcv hcl T' rfl X'
    exact ⟨t2, st.trans a1, b1⟩
/-- caught by the row x of this method's table; the rows ahead don't take it -/
theorem vx_catch {own name : String} {E : String} {ce : Cell} {q : Addr} (hown : s.vm.findClass own = some m.cls) (pre : List ExceptionTableEntry) (x : ExceptionTableEntry) (suf : List ExceptionTableEntry) (hsplit : c.exceptionTable.toList = pre ++ x :: suf)
    (hpass : ∀ z ∈ pre, covers z pc = false ∨ (z.catchType ≠ 0 ∧ ∃ nm : String, (Cond.classLink own z.catchType nm).before args s = true ∧ va_Nc E nm s)) (hx : covers x pc = true) (h0 : x.catchType ≠ 0)
    (hlink : (Cond.classLink own x.catchType name).before args s = true) (hcast : (Cond.castable E name).before args s = true) (hcell : H[q]? = some ce) (hv : ce.vm = .none) (hcl : s.vm.findClass E = some ce.cls)
    (kk : W p l e R s m args below meth c H locs cells slots Q (F0 m x.handlerPc ls [.ref q])) : vx_W p l e R s m args below meth c H locs cells slots Q (F0 m pc ls rest) q := by
  intro T hT X
  have hpl : e.platform.magicAccessors = ({} : Platform).magicAccessors := by rw [X.admits.platform]
  obtain ⟨c3, c4, hc3, hc4, hasg⟩ := Cond.castable_spec hcast
  cases Option.some.inj (hc3.symm.trans hcl)
  obtain ⟨c5, hc5, hcl5⟩ := Cond.classLink_spec hown hlink e.platform hpl
  cases Option.some.inj (hc4.symm.trans hc5)
  obtain ⟨vm', X', st⟩ := X.thenCaughtThrough q (g := F0 m pc ls rest) rfl (Steps.refl _) (by rw [hT]; exact hcell) (by rw [hv]; rfl) (by obtain ⟨k9, h9, -⟩ := Vm.findClass_spec hcl; exact ⟨k9, h9⟩) pre x suf hsplit
    (fun z hz => by
      rcases hpass z hz with h | ⟨hz0, nm, hl1, hn1⟩
      · exact Or.inl h
      · obtain ⟨c6, hc6, hcl6⟩ := Cond.classLink_spec hown hl1 e.platform hpl
        obtain ⟨a8, b8, h1, h2, h3⟩ := hn1
        cases Option.some.inj (h1.symm.trans hcl)
        cases Option.some.inj (h2.symm.trans hc6)
        exact Or.inr ⟨hz0, _, hcl6, h3⟩) hx (Or.inr ⟨h0, c4, hcl5, hasg⟩)
  obtain ⟨t, a1, b1⟩ := kk (T.setVm vm') hT X'
  exact ⟨t, st.trans a1, b1⟩
end Rows
section Ends
variable {p : Program} {l : Launch} {e : Env} {R : Room} {s : State} {m : MethodId} {args : Array Value} {below : List Frame} {meth : Method} {c : Code} {H : Heap} {locs : List Loc} {cells slots : Nat} {Q : State → Prop}
variable {mc ms : Nat} {free : Addr → Prop} {A0 A1 : Nat → Prop} {H0 : Heap} {a : Array Value} {ls : Array Slot} {st0 rest : List Value}
variable {Qc : Array Value → State → Outcome → State → Prop} {XC : String → State → State → Prop}
/-- what a body that may throw owes at its end -/
def vx_MQ (below : List Frame) (Qc : Array Value → State → Outcome → State → Prop) (XC : String → State → State → Prop) (a : Array Value) (s : State) (mc ms : Nat) (free : Addr → Prop) : State → Prop := fun t =>
  ∃ o, t.status = .running ∧ Ended t below o ∧ vx_Q Qc XC mc ms free a s o t
theorem vx_ret {g : JFrame} {mc ms : Nat} (k : W p l e R s m args below meth c H locs cells slots (MQ below Qc args s mc ms free) g) : W p l e R s m args below meth c H locs cells slots (vx_MQ below Qc XC args s mc ms free) g := by
  intro T hT X
  obtain ⟨t, a1, o, b1, b2, b3, b4⟩ := k T hT X
  exact ⟨t, a1, o, b1, b2, Or.inl ⟨b3, b4⟩⟩
/-- not caught here: it goes on to the caller -/
theorem vx_widen {g : JFrame} {q : Addr} {k n : Nat} (h1 : cells ≤ k) (h2 : slots ≤ n) (kk : vx_W p l e R s m args below meth c H locs k n Q g q) : vx_W p l e R s m args below meth c H locs cells slots Q g q := fun T hT X => kk T hT (stand_widen X h1 h2)
theorem vx_out {pc : Nat} {E : String} {ce : Cell} {q : Addr} {mc ms : Nat} (hout : ∀ x ∈ c.exceptionTable.toList, covers x pc = false) (hlocks : meth.locks = false) (hcell : H[q]? = some ce) (hv : ce.vm = .none) (hcl : s.vm.findClass E = some ce.cls)
    (hx : ∀ t : State, t.heap = H → s.vm.Alike t.vm → XC E s t) (hf : ∀ z ∈ locs, free z.base) (hc : cells ≤ mc) (hs : slots ≤ ms) :
    vx_W p l e R s m args below meth c H locs cells slots (vx_MQ below Qc XC args s mc ms free) (F0 m pc ls rest) q := by
  intro T hT X
  obtain ⟨st1, hrun, hend, hW, hsm⟩ := X.leaveThrown q (g := F0 m pc ls rest) rfl rfl rfl hout hlocks
  have hcell9 : (T.setFrames (.throwing q :: below)).heap[q]? = some ce := by
    show T.heap[q]? = some ce
    rw [hT]; exact hcell
  exact ⟨_, st1, .threw q, hrun, hend, Or.inr ⟨q, rfl, E, ce, locs, hx _ hT hW.alike, hcell9, hv, hcl, hW, hsm.mono hc hs, hf⟩⟩
theorem vx_frame {U : State} {k n : Nat} (h : s.sameButNew ({ U with vm := s.vm } : State) locs k n) : s.heap.size ≤ U.heap.size ∧ ∀ q : Nat, q < s.heap.size → (∀ z ∈ locs, z.base ≠ q) → U.heap[q]? = s.heap[q]? := by
  obtain ⟨-, h2, -, -, -, h6⟩ := h
  refine ⟨h2, fun q hq hz => ?_⟩
  obtain ⟨c9, e1, e2, e3, e4⟩ := h6 q _ (Array.getElem?_eq_getElem hq)
  have hs : c9.slots = (s.heap[q]).slots := Array.ext_getElem? fun i => e4 i fun hm => hz _ hm rfl
  have h9 : c9 = s.heap[q] := by
    rw [hs] at e2
    exact e2
  have e5 : U.heap[q]? = some c9 := e1
  rw [e5, h9, Array.getElem?_eq_getElem hq]
/-- the words of a throw but the four that speak of the heap -/
def vx_no (w : Cond) : Bool := decide (w ≠ .isRef (.static Bundle.tN "UNASSIGNED_STACK" Bundle.steD)) && decide (w ≠ .isRef (.static Bundle.tN "SUPPRESSED_SENTINEL" Bundle.listD)) && decide (w ≠ .laysStatic Bundle.tN "UNASSIGNED_STACK" Bundle.steD) && decide (w ≠ .laysStatic Bundle.tN "SUPPRESSED_SENTINEL" Bundle.listD)
def vx_at0 (own : String) (ic : Nat) (X : String) (names : List String) : List Cond := (Bundle.ownAtoms0 own ic X names).filter vx_no
def vx_atS (own : String) (ic : Nat) (X : String) (names : List String) : List Cond := (Bundle.ownAtoms own ic X names).filter vx_no
/-- a word that the tables alone decide, or a good one -/
def vx_ot (w : Cond) : Bool := w.onTables || goodWord w
theorem vx_ot_at {args a' : Array Value} {s U : State} {w : Cond} (hW : s.WarmedH U.vm) (hvm : s.vm = U.vm) (hg : vx_ot w = true) (h : w.before args s = true) : w.before a' U = true := by
  simp only [vx_ot, Bool.or_eq_true] at hg
  rcases hg with hg | hg
  · exact va_tabs hg hvm h
  · exact word_at hW (good_of_word hg) h
/-- a list's words: the good ones out of the method's own list, the others by premises of their own -/
theorem vx_hat {args : Array Value} {s : State} {L B : List Cond} (h1 : ∀ w ∈ L.filter goodWord, w.before args s = true) (h2 : ∀ w ∈ L.filter (fun w => !goodWord w), w ∈ B) (h3 : ∀ w ∈ B, w.before args s = true) : ∀ w ∈ L, w.before args s = true := by
  intro w hw
  by_cases g : goodWord w = true
  · exact h1 w (List.mem_filter.mpr ⟨hw, g⟩)
  · refine h3 w (h2 w (List.mem_filter.mpr ⟨hw, ?_⟩))
    show (!goodWord w) = true
    cases hgw : goodWord w
    · rfl
    · exact absurd hgw g
theorem vx_c {args : Array Value} {s : State} {w : Cond} {B : List Cond} (h : w.before args s = true) (t : ∀ w ∈ B, w.before args s = true) : ∀ w' ∈ w :: B, w'.before args s = true := fun w' h' => (List.mem_cons.mp h').elim (fun e => by rw [e]; exact h) (t w')
theorem vx_n {args : Array Value} {s : State} : ∀ w ∈ ([] : List Cond), w.before args s = true := fun _ h => nomatch h
theorem vx_own {args : Array Value} {s : State} {L : List Cond} (h1 : ∀ w ∈ L.filter vx_no, w.before args s = true)
    (hU : (Cond.isRef (.static Bundle.tN "UNASSIGNED_STACK" Bundle.steD)).before args s = true) (hN : (Cond.isRef (.static Bundle.tN "SUPPRESSED_SENTINEL" Bundle.listD)).before args s = true)
    (lU : (Cond.laysStatic Bundle.tN "UNASSIGNED_STACK" Bundle.steD).before args s = true) (lN : (Cond.laysStatic Bundle.tN "SUPPRESSED_SENTINEL" Bundle.listD).before args s = true) : ∀ w ∈ L, w.before args s = true := by
  intro w hw
  by_cases e1 : w = .isRef (.static Bundle.tN "UNASSIGNED_STACK" Bundle.steD)
  · rw [e1]; exact hU
  · by_cases e2 : w = .isRef (.static Bundle.tN "SUPPRESSED_SENTINEL" Bundle.listD)
    · rw [e2]; exact hN
    · by_cases e3 : w = .laysStatic Bundle.tN "UNASSIGNED_STACK" Bundle.steD
      · rw [e3]; exact lU
      · by_cases e4 : w = .laysStatic Bundle.tN "SUPPRESSED_SENTINEL" Bundle.listD
        · rw [e4]; exact lN
        · exact h1 w (List.mem_filter.mpr ⟨hw, by unfold vx_no; rw [decide_eq_true e1, decide_eq_true e2, decide_eq_true e3, decide_eq_true e4]; rfl⟩)
/-- where a static field lies, its class's statics cell in H -/
def vx_L (C n d : String) (A : Nat → Prop) (U : State) (H : Heap) : Prop := ∃ (c : ClassId) (k : Class) (i : Nat) (f : Field) (a : Nat) (cell : Cell), U.vm.findClass C = some c ∧ U.fieldFound? C n d = some (c, k, i, f) ∧ f.isStatic = true ∧ k.statics = some a ∧ H[a]? = some cell ∧ cell.vm.isStatics = true ∧ cell.cls = c ∧ f.slot < cell.slots.size ∧ k.staticTypes[f.slot]? = some f.type ∧ ¬ A a
theorem vx_L.moved {C n d : String} {A : Nat → Prop} {u U : State} {H : Heap} (hvm : u.vm.Alike U.vm) (h : vx_L C n d A u H) : vx_L C n d A U H := by
  obtain ⟨c, k, i, f, a, cell, h1, h2, h3, h4, h5, h6, h7, h8, h9, h10⟩ := h
  obtain ⟨k', hi', he⟩ := State.fieldFound?_setVm hvm h2
  exact ⟨c, k', i, f, a, cell, by rw [hvm.findClass]; exact h1, hi', h3, by rw [he]; exact h4, h5, h6, h7, h8, by rw [he]; exact h9, h10⟩
theorem vx_L.kept {C n d : String} {A : Nat → Prop} {U : State} {H H1 : Heap} (h : vx_L C n d A U H) (hq : ∀ a : Nat, a < H.size → ¬ A a → H1[a]? = H[a]?) : vx_L C n d A U H1 := by
  obtain ⟨c, k, i, f, a, cell, h1, h2, h3, h4, h5, h6, h7, h8, h9, h10⟩ := h
  exact ⟨c, k, i, f, a, cell, h1, h2, h3, h4, by rw [hq a (Array.getElem?_eq_some_iff.mp h5).1 h10]; exact h5, h6, h7, h8, h9, h10⟩
theorem vx_L.narrow {C n d : String} {A B : Nat → Prop} {U : State} {H : Heap} (h : vx_L C n d A U H) (hAB : ∀ q, B q → A q) : vx_L C n d B U H := by
  obtain ⟨c, k, i, f, a, cell, h1, h2, h3, h4, h5, h6, h7, h8, h9, h10⟩ := h
  exact ⟨c, k, i, f, a, cell, h1, h2, h3, h4, h5, h6, h7, h8, h9, fun z => h10 (hAB _ z)⟩
theorem vx_L.word {C n d : String} {A : Nat → Prop} {s : State} {args : Array Value} (h : vx_L C n d A s s.heap) : (Cond.laysStatic C n d).before args s = true := by
  obtain ⟨c, k, i, f, a, cell, h1, h2, h3, h4, h5, h6, h7, h8, h9, -⟩ := h
  show (Cond.laysStatic C n d).holds args s none s [] = true
  exact Cond.laysStatic_of h1 h2 h3 h4 h5 h6 h7 h8 h9
/-- .. and what it holds: null or some reference -/
def vx_Zq (C n d : String) (A : Nat → Prop) (U : State) (H : Heap) : Prop := va_Zq C n d A U H ∧ vx_L C n d A U H
theorem vx_Zq.moved {C n d : String} {A : Nat → Prop} {u U : State} {H : Heap} (hvm : u.vm.Alike U.vm) (h : vx_Zq C n d A u H) : vx_Zq C n d A U H := ⟨va_Zq.moved hvm h.1, vx_L.moved hvm h.2⟩
theorem vx_Zq.kept {C n d : String} {A : Nat → Prop} {U : State} {H H1 : Heap} (h : vx_Zq C n d A U H) (hq : ∀ a : Nat, a < H.size → ¬ A a → H1[a]? = H[a]?) : vx_Zq C n d A U H1 := ⟨va_Zq.kept h.1 hq, vx_L.kept h.2 hq⟩
theorem vx_Zq.narrow {C n d : String} {A B : Nat → Prop} {U : State} {H : Heap} (h : vx_Zq C n d A U H) (hAB : ∀ q, B q → A q) : vx_Zq C n d B U H := ⟨va_Zq.narrow h.1 hAB, vx_L.narrow h.2 hAB⟩
theorem vx_Zqof {args : Array Value} {s : State} {C n d : String} {A : Nat → Prop} (hl : (Cond.laysStatic C n d).before args s = true) (hini : (Cond.initialized C).before args s = true) (h : (Cond.isRef (.static C n d)).before args s = true) (hA : ∀ a : Nat, a < s.heap.size → ¬ A a) : vx_Zq C n d A s s.heap := by
  refine ⟨va_Zqof hl hini h hA, ?_⟩
  obtain ⟨c, k, i, f, a, cell, h1, h2, h3, h4, h5, h6, h7, h8, h9⟩ := Cond.laysStatic_spec hl
  exact ⟨c, k, i, f, a, cell, h1, h2, h3, h4, h5, h6, h7, h8, h9, hA a (Array.getElem?_eq_some_iff.mp h5).1⟩
theorem vx_isRef {C n d : String} {v : Value} {A : Nat → Prop} {s : State} {args : Array Value} (h : va_Z C n d v A s s.heap) (hv : v.isRef = true) : (Cond.isRef (.static C n d)).before args s = true := by
  obtain ⟨cf, kf, fi, f, a, cell, h1, h2, h3, h4, h5, h6, h7, -⟩ := h
  have he : (Term.static C n d).eval args s none [] s = some v := by
    simp [Term.eval, State.fieldNamed?, h1, h2, h4, h5, h6, h7]
  simp only [Cond.before, Cond.holds, Cond.value, he]
  cases v <;> simp_all [Value.isRef]
theorem vx_isRefq {C n d : String} {A : Nat → Prop} {s : State} {args : Array Value} (h : va_Zq C n d A s s.heap) : (Cond.isRef (.static C n d)).before args s = true := by
  rcases h with h | ⟨t, h⟩
  · exact vx_isRef h rfl
  · exact vx_isRef h rfl
/-- the same frame, seen from here: as if the method were called anew in this heap -/
theorem vx_rebase {T : State} (X : Stand p l e R s m args below meth c T locs cells slots) {R' : Room} (hf : R'.frames ≤ R.frames) (hl : R'.locals ≤ R.locals) (hc : cells + R'.cells ≤ R.cells) (hs : slots + R'.slots ≤ R.slots) :
    Stand p l e R' ((T.setVm s.vm).setFrames (.invoking m args :: below)) m args below meth c T [] 0 0 := by
  have htop : (T.setVm s.vm).topJava?.isSome := X.here.top
  have hF : ((T.setVm s.vm).setFrames (.invoking m args :: below)).frames = .invoking m args :: below := State.frames_setFrames _ (State.cur_lt_of_top htop)
  obtain ⟨g₀, hg0⟩ := Option.isSome_iff_exists.mp htop
  obtain ⟨r, hr⟩ := State.topJava?_eq_some.mp hg0
  have hl9 : e.platform.stackLimits (T.setVm s.vm).me = e.platform.stackLimits s.me := X.limits
  have hb9 : (T.setVm s.vm).me.stackBytes = s.me.stackBytes := X.bytes
  refine ⟨X.admits, X.cas, X.clock, hF, ?_, X.hears, X.method, X.code, X.here, X.tail, X.warmed, ?_, ?_, ?_⟩
  · have h := X.room
    have hU : ((T.setVm s.vm).setFrames (.invoking m args :: below)).localsInUse = s.localsInUse := by
      rw [State.localsInUse_invoking hF (meth := meth) (c := c) X.method X.code, State.localsInUse_invoking X.frames X.method X.code]
    simp only [State.hasRoom, Bool.and_eq_true, decide_eq_true_eq] at h ⊢
    obtain ⟨⟨⟨⟨h1, h2, h3, h4, h5, h6⟩, h7⟩, h8⟩, h9⟩ := h
    rw [X.frames, List.length_cons] at h2 h3
    have q1 := X.heapSize
    have q2 := X.used
    simp only [hF, hU, List.length_cons, State.stackLimits_setFrames, State.stackBytes_setFrames, hl9, hb9]
    refine ⟨⟨⟨⟨by omega, by omega, by omega, by omega, by omega, h6⟩, ?_⟩, ?_⟩, X.book⟩
    · show T.heap.size + R'.cells ≤ e.platform.maxCells
      omega
    · show T.slotsUsed + R'.slots ≤ e.platform.maxSlots
      omega
  · rw [State.stackLimits_setFrames]; rfl
  · rw [State.stackBytes_setFrames]; rfl
  · refine ⟨?_, Nat.le_refl _, Nat.le_refl _, ?_, ?_, fun a c9 h9 => ⟨c9, h9, rfl, rfl, fun _ _ => rfl⟩⟩
    · obtain ⟨t, ht, -⟩ := State.frames_cons hr
      show T.setVm s.vm = { ((T.setVm s.vm).setFrames (.invoking m args :: below)).setFrames (T.setVm s.vm).frames with heap := T.heap, slotsUsed := T.slotsUsed }
      rw [State.setFrames_setFrames, State.setFrames_self ht]
      rfl
    · show T.slotsUsed = T.slotsUsed + ((T.heap.toList.drop T.heap.size).map (·.slots.size)).sum
      rw [List.drop_eq_nil_of_le (Nat.le_of_eq Array.length_toList)]
      rfl
    · show ((T.heap.toList.drop T.heap.size).map (·.slots.size)).sum ≤ 0
      rw [List.drop_eq_nil_of_le (Nat.le_of_eq Array.length_toList)]
      exact Nat.le_refl _
/-- 'throw new E()': new; dup; invokespecial; athrow -/
theorem vx_throw0 {cc : ByteArray} {pc : Nat} (hexec : p.tables.exec = Jvm.exec) (hb : c.code = cc) (hl : l.stackTraces = false) {own cls : String} {names : List String} {ik ic mc ms : Nat} {A : Nat → Prop}
    (hown : s.vm.findClass own = some m.cls) (hcls : Bundle.fit cls = true) (hnames : ∀ n ∈ names, Bundle.fit n = true)
    (hk : (Cond.classLink own ik cls).before args s = true) (hini : (Cond.initialized cls).before args s = true) (hat : ∀ w ∈ vx_at0 own ic cls names, w.before args s = true)
    (hgood : ∀ w ∈ Cond.classLink own ik cls :: Cond.initialized cls :: vx_at0 own ic cls names, vx_ot w = true)
    (hU : vx_Zq Bundle.tN "UNASSIGNED_STACK" Bundle.steD A s s.heap) (hN : vx_Zq Bundle.tN "SUPPRESSED_SENTINEL" Bundle.listD A s s.heap) (hS : va_S A s.heap H locs) (hsize : ls.size = c.maxLocals)
    (d0 : decode cc pc = .ok (.new ik, 3)) (d3 : decode cc (pc + 3) = .ok (.dup, 1)) (d4 : decode cc (pc + 4) = .ok (.invokespecial ic, 3)) (d7 : decode cc (pc + 7) = .ok (.athrow, 1))
    (hout : ∀ x ∈ c.exceptionTable.toList, covers x (pc + 7) = false)
    (hRframes : names.length + 3 < R.frames) (hRlocals : (rest.map fun v => v.category).sum + (13 * (names.length + 1) + 42) ≤ R.locals) (hRcells : cells + 1 ≤ R.cells) (hRslots : slots + 6 ≤ R.slots) (hlocks : meth.locks = false)
    (hx : ∀ t : State, s.vm.Alike t.vm → H.size ≤ t.heap.size → (∀ q : Nat, q < H.size → t.heap[q]? = H[q]?) → XC cls s t)
    (hf : ∀ z ∈ locs, free z.base) (hc : cells + 1 ≤ mc) (hs : slots + 6 ≤ ms) :
    W p l e R s m args below meth c H locs cells slots (vx_MQ below Qc XC args s mc ms free) (F0 m pc ls rest) := by
  intro T hT X
  have htr : e.platform.stackTraces = false := (show e.platform.stackTraces = l.stackTraces by rw [X.admits.platform]).trans hl
  have Y := vx_rebase X (R' := { frames := R.frames, locals := R.locals, cells := 1, slots := 6 }) (Nat.le_refl _) (Nat.le_refl _) hRcells hRslots
  obtain ⟨s', hA⟩ : ∃ z, z = (T.setVm s.vm).setFrames (.invoking m args :: below) := ⟨_, rfl⟩
  rw [← hA] at Y
  have hvm : s'.vm = s.vm := by rw [hA]; rfl
  have hhp : s'.heap = H := by rw [hA]; exact hT
  have hW0 : s.WarmedH s'.vm := by rw [hvm]; exact State.WarmedH.refl s
  have hat' : ∀ w ∈ vx_at0 own ic cls names, w.before args s' = true := fun w hw => vx_ot_at hW0 hvm.symm (hgood w (List.mem_cons_of_mem _ (List.mem_cons_of_mem _ hw))) (hat w hw)
  have hk' : (Cond.classLink own ik cls).before args s' = true := vx_ot_at hW0 hvm.symm (hgood _ List.mem_cons_self) hk
  have hini' : (Cond.initialized cls).before args s' = true := vx_ot_at hW0 hvm.symm (hgood _ (List.mem_cons_of_mem _ List.mem_cons_self)) hini
  have hU' : vx_Zq Bundle.tN "UNASSIGNED_STACK" Bundle.steD A s' s'.heap := by rw [hhp]; exact vx_Zq.moved hW0.alike (hU.kept hS.2.1)
  have hN' : vx_Zq Bundle.tN "SUPPRESSED_SENTINEL" Bundle.listD A s' s'.heap := by rw [hhp]; exact vx_Zq.moved hW0.alike (hN.kept hS.2.1)
  have h : ∀ w ∈ Bundle.ownAtoms0 own ic cls names, w.before args s' = true := vx_own hat' (vx_isRefq hU'.1) (vx_isRefq hN'.1) hU'.2.word hN'.2.word
  have hown' : s'.vm.findClass own = some m.cls := by rw [hvm]; exact hown
  have hins : (Cond.instantiable cls 6).before args s' = true := h _ (by simp [Bundle.ownAtoms0])
  obtain ⟨vm₁, cX, kX, hfX, hkX, -, -, X₁, st1⟩ := Y.newCold hexec (own := own) (C := cls) (index := ik) (n := 6) hown' hk' hins hini'
    (g := F0 m pc ls rest) rfl (by rw [hb]; exact d0) (Nat.le_refl _) (Nat.le_refl _)
  generalize hT1 : (T.setVm vm₁).pushCell { cls := cX, slots := kX.instanceTypes.map defaultValue, vm := .none } = T1 at X₁ st1
  have hcat : (Value.ref T.heap.size).category = 1 := rfl
  have hcellA : T1.heap[T.heap.size]? = some (freshCell cX kX) := by rw [← hT1]; exact State.heap_pushCell_size _ _
  have d3' : decode c.code (pc + 3) = .ok (.dup, 1) := by rw [hb]; exact d3
  obtain ⟨U, hsteps, hrun, hend, hW, hsame, ce, hce, hO⟩ := X₁.ctorThrow0 hexec htr (own := own) (cls := cls) (names := names) (ic := ic) hown' hcls hnames h (fun x hx => nomatch hx) hfX hkX hcellA (by rw [hhp, hT]; exact Nat.le_refl _)
    (g := { method := m, pc := pc + 4, locals := ls, stack := .ref T.heap.size :: .ref T.heap.size :: rest, locked := none }) rfl hsize rfl rfl (rest := rest) rfl
    (by rw [hb]; exact d4) (by rw [hb]; exact d7) hout hRframes (by simp only [List.map_cons, List.sum_cons, hcat]; omega) hlocks
  obtain ⟨f1, f2⟩ := vx_frame hsame
  rw [hhp] at f1 f2
  have hWs : s.WarmedH U.vm := State.WarmedH.trans hW0 hW
  have hcl : s.vm.findClass cls = some ce.cls := by
    have h9 := hO.cls
    rw [hvm] at h9
    exact h9
  have hall : s.sameButNew ({ U with vm := s.vm } : State) locs mc ms := by
    subst hA
    obtain ⟨e1, e2⟩ := hsame
    rw [State.setFrames_setFrames] at e1
    have h2 : (T.setVm s.vm).sameButNew ({ U with vm := s.vm } : State) [] (0 + 1) (0 + 6) := ⟨e1, e2⟩
    have h3 := X.same.trans h2
    rw [List.append_nil] at h3
    exact h3.mono hc hs
  refine ⟨U, ?_, .threw T.heap.size, hrun, hend, Or.inr ⟨T.heap.size, rfl, cls, ce, locs, hx U hWs.alike f1 (fun q hq => f2 q hq (fun z hz => nomatch hz)), hce, hO.vm, hcl, hWs, hall, hf⟩⟩
  refine st1 _ ?_
  show Steps p.tables e below (T1.setTop { method := m, pc := pc + 3, locals := ls, stack := .ref T.heap.size :: rest, locked := none }) _
  jvm_step X₁.here [X₁.here.top, hexec, d3', Value.category]
  exact hsteps
/-- 'throw new E("text")': new; dup; ldc; invokespecial; athrow -/
theorem vx_throwS {cc : ByteArray} {pc : Nat} (hexec : p.tables.exec = Jvm.exec) (hb : c.code = cc) (hl : l.stackTraces = false) {own cls text : String} {names : List String} {ik is ic mc ms sa : Nat} {A : Nat → Prop}
    (hown : s.vm.findClass own = some m.cls) (hcls : Bundle.fit cls = true) (hnames : ∀ n ∈ names, Bundle.fit n = true)
    (hk : (Cond.classLink own ik cls).before args s = true) (hini : (Cond.initialized cls).before args s = true) (hstr : vk_R own is text sa s) (hat : ∀ w ∈ vx_atS own ic cls names, w.before args s = true)
    (hgood : ∀ w ∈ Cond.classLink own ik cls :: Cond.initialized cls :: vx_atS own ic cls names, vx_ot w = true)
    (hU : vx_Zq Bundle.tN "UNASSIGNED_STACK" Bundle.steD A s s.heap) (hN : vx_Zq Bundle.tN "SUPPRESSED_SENTINEL" Bundle.listD A s s.heap) (hS : va_S A s.heap H locs) (hsize : ls.size = c.maxLocals)
    (d0 : decode cc pc = .ok (.new ik, 3)) (d3 : decode cc (pc + 3) = .ok (.dup, 1)) (d4 : decode cc (pc + 4) = .ok (.ldc is, 2)) (d6 : decode cc (pc + 6) = .ok (.invokespecial ic, 3)) (d9 : decode cc (pc + 9) = .ok (.athrow, 1))
    (hout : ∀ x ∈ c.exceptionTable.toList, covers x (pc + 9) = false)
    (hRframes : names.length + 3 < R.frames) (hRlocals : (rest.map fun v => v.category).sum + (13 * (names.length + 1) + 43) ≤ R.locals) (hRcells : cells + 1 ≤ R.cells) (hRslots : slots + 6 ≤ R.slots) (hlocks : meth.locks = false)
    (hx : ∀ t : State, s.vm.Alike t.vm → H.size ≤ t.heap.size → (∀ q : Nat, q < H.size → t.heap[q]? = H[q]?) → XC cls s t)
    (hf : ∀ z ∈ locs, free z.base) (hc : cells + 1 ≤ mc) (hs : slots + 6 ≤ ms) :
    W p l e R s m args below meth c H locs cells slots (vx_MQ below Qc XC args s mc ms free) (F0 m pc ls rest) := by
  intro T hT X
  have htr : e.platform.stackTraces = false := (show e.platform.stackTraces = l.stackTraces by rw [X.admits.platform]).trans hl
  have Y := vx_rebase X (R' := { frames := R.frames, locals := R.locals, cells := 1, slots := 6 }) (Nat.le_refl _) (Nat.le_refl _) hRcells hRslots
  obtain ⟨s', hA⟩ : ∃ z, z = (T.setVm s.vm).setFrames (.invoking m args :: below) := ⟨_, rfl⟩
  rw [← hA] at Y
  have hvm : s'.vm = s.vm := by rw [hA]; rfl
  have hhp : s'.heap = H := by rw [hA]; exact hT
  have hW0 : s.WarmedH s'.vm := by rw [hvm]; exact State.WarmedH.refl s
  have hat' : ∀ w ∈ vx_atS own ic cls names, w.before args s' = true := fun w hw => vx_ot_at hW0 hvm.symm (hgood w (List.mem_cons_of_mem _ (List.mem_cons_of_mem _ hw))) (hat w hw)
  have hk' : (Cond.classLink own ik cls).before args s' = true := vx_ot_at hW0 hvm.symm (hgood _ List.mem_cons_self) hk
  have hini' : (Cond.initialized cls).before args s' = true := vx_ot_at hW0 hvm.symm (hgood _ (List.mem_cons_of_mem _ List.mem_cons_self)) hini
  have hU' : vx_Zq Bundle.tN "UNASSIGNED_STACK" Bundle.steD A s' s'.heap := by rw [hhp]; exact vx_Zq.moved hW0.alike (hU.kept hS.2.1)
  have hN' : vx_Zq Bundle.tN "SUPPRESSED_SENTINEL" Bundle.listD A s' s'.heap := by rw [hhp]; exact vx_Zq.moved hW0.alike (hN.kept hS.2.1)
  have h : ∀ w ∈ Bundle.ownAtoms own ic cls names, w.before args s' = true := vx_own hat' (vx_isRefq hU'.1) (vx_isRefq hN'.1) hU'.2.word hN'.2.word
  have hown' : s'.vm.findClass own = some m.cls := by rw [hvm]; exact hown
  have hins : (Cond.instantiable cls 6).before args s' = true := h _ (by simp [Bundle.ownAtoms])
  obtain ⟨vm₁, cX, kX, hfX, hkX, -, -, X₁, st1⟩ := Y.newCold hexec (own := own) (C := cls) (index := ik) (n := 6) hown' hk' hins hini'
    (g := F0 m pc ls rest) rfl (by rw [hb]; exact d0) (Nat.le_refl _) (Nat.le_refl _)
  generalize hT1 : (T.setVm vm₁).pushCell { cls := cX, slots := kX.instanceTypes.map defaultValue, vm := .none } = T1 at X₁ st1
  have hcat : (Value.ref T.heap.size).category = 1 := rfl
  have hcellA : T1.heap[T.heap.size]? = some (freshCell cX kX) := by rw [← hT1]; exact State.heap_pushCell_size _ _
  have d3' : decode c.code (pc + 3) = .ok (.dup, 1) := by rw [hb]; exact d3
  have d4' : decode c.code (pc + 4) = .ok (.ldc is, 2) := by rw [hb]; exact d4
  have hstr' : vk_R own is text sa s' := vk_R.warm hW0 hstr
  obtain ⟨U, hsteps, hrun, hend, hW, hsame, ce, hce, hO⟩ := X₁.ctorThrowS hexec htr (own := own) (cls := cls) (names := names) (ic := ic) hown' hcls hnames h (fun x hx => nomatch hx) hfX hkX hcellA (by rw [hhp, hT]; exact Nat.le_refl _) (msg := .ref sa) rfl
    (g := { method := m, pc := pc + 6, locals := ls, stack := .ref sa :: .ref T.heap.size :: .ref T.heap.size :: rest, locked := none }) rfl hsize rfl rfl (rest := rest) rfl
    (by rw [hb]; exact d6) (by rw [hb]; exact d9) hout hRframes (by simp only [List.map_cons, List.sum_cons, hcat]; omega) hlocks
  obtain ⟨f1, f2⟩ := vx_frame hsame
  rw [hhp] at f1 f2
  have hWs : s.WarmedH U.vm := State.WarmedH.trans hW0 hW
  have hcl : s.vm.findClass cls = some ce.cls := by
    have h9 := hO.cls
    rw [hvm] at h9
    exact h9
  have hall : s.sameButNew ({ U with vm := s.vm } : State) locs mc ms := by
    subst hA
    obtain ⟨e1, e2⟩ := hsame
    rw [State.setFrames_setFrames] at e1
    have h2 : (T.setVm s.vm).sameButNew ({ U with vm := s.vm } : State) [] (0 + 1) (0 + 6) := ⟨e1, e2⟩
    have h3 := X.same.trans h2
    rw [List.append_nil] at h3
    exact h3.mono hc hs
  refine ⟨U, ?_, .threw T.heap.size, hrun, hend, Or.inr ⟨T.heap.size, rfl, cls, ce, locs, hx U hWs.alike f1 (fun q hq => f2 q hq (fun z hz => nomatch hz)), hce, hO.vm, hcl, hWs, hall, hf⟩⟩
  refine st1 _ ?_
  show Steps p.tables e below (T1.setTop { method := m, pc := pc + 3, locals := ls, stack := .ref T.heap.size :: rest, locked := none }) _
  jvm_step X₁.here [X₁.here.top, hexec, d3', Value.category]
  exact X₁.ldcString hexec (own := own) (text := text) (index := is) (a := sa) hown' hstr'.1 hstr'.2
    (g := { method := m, pc := pc + 4, locals := ls, stack := .ref T.heap.size :: .ref T.heap.size :: rest, locked := none }) rfl d4' _ hsteps
/-- 'throw new E("text")', the text by a wide index -/
theorem vx_throwSW {cc : ByteArray} {pc : Nat} (hexec : p.tables.exec = Jvm.exec) (hb : c.code = cc) (hl : l.stackTraces = false) {own cls text : String} {names : List String} {ik is ic mc ms sa : Nat} {A : Nat → Prop}
    (hown : s.vm.findClass own = some m.cls) (hcls : Bundle.fit cls = true) (hnames : ∀ n ∈ names, Bundle.fit n = true)
    (hk : (Cond.classLink own ik cls).before args s = true) (hini : (Cond.initialized cls).before args s = true) (hstr : vk_R own is text sa s) (hat : ∀ w ∈ vx_atS own ic cls names, w.before args s = true)
    (hgood : ∀ w ∈ Cond.classLink own ik cls :: Cond.initialized cls :: vx_atS own ic cls names, vx_ot w = true)
    (hU : vx_Zq Bundle.tN "UNASSIGNED_STACK" Bundle.steD A s s.heap) (hN : vx_Zq Bundle.tN "SUPPRESSED_SENTINEL" Bundle.listD A s s.heap) (hS : va_S A s.heap H locs) (hsize : ls.size = c.maxLocals)
    (d0 : decode cc pc = .ok (.new ik, 3)) (d3 : decode cc (pc + 3) = .ok (.dup, 1)) (d4 : decode cc (pc + 4) = .ok (.ldc_w is, 3)) (d7 : decode cc (pc + 7) = .ok (.invokespecial ic, 3)) (d10 : decode cc (pc + 10) = .ok (.athrow, 1))
    (hout : ∀ x ∈ c.exceptionTable.toList, covers x (pc + 10) = false)
    (hRframes : names.length + 3 < R.frames) (hRlocals : (rest.map fun v => v.category).sum + (13 * (names.length + 1) + 43) ≤ R.locals) (hRcells : cells + 1 ≤ R.cells) (hRslots : slots + 6 ≤ R.slots) (hlocks : meth.locks = false)
    (hx : ∀ t : State, s.vm.Alike t.vm → H.size ≤ t.heap.size → (∀ q : Nat, q < H.size → t.heap[q]? = H[q]?) → XC cls s t)
    (hf : ∀ z ∈ locs, free z.base) (hc : cells + 1 ≤ mc) (hs : slots + 6 ≤ ms) :
    W p l e R s m args below meth c H locs cells slots (vx_MQ below Qc XC args s mc ms free) (F0 m pc ls rest) := by
  intro T hT X
  have htr : e.platform.stackTraces = false := (show e.platform.stackTraces = l.stackTraces by rw [X.admits.platform]).trans hl
  have Y := vx_rebase X (R' := { frames := R.frames, locals := R.locals, cells := 1, slots := 6 }) (Nat.le_refl _) (Nat.le_refl _) hRcells hRslots
  obtain ⟨s', hA⟩ : ∃ z, z = (T.setVm s.vm).setFrames (.invoking m args :: below) := ⟨_, rfl⟩
  rw [← hA] at Y
  have hvm : s'.vm = s.vm := by rw [hA]; rfl
  have hhp : s'.heap = H := by rw [hA]; exact hT
  have hW0 : s.WarmedH s'.vm := by rw [hvm]; exact State.WarmedH.refl s
  have hat' : ∀ w ∈ vx_atS own ic cls names, w.before args s' = true := fun w hw => vx_ot_at hW0 hvm.symm (hgood w (List.mem_cons_of_mem _ (List.mem_cons_of_mem _ hw))) (hat w hw)
  have hk' : (Cond.classLink own ik cls).before args s' = true := vx_ot_at hW0 hvm.symm (hgood _ List.mem_cons_self) hk
  have hini' : (Cond.initialized cls).before args s' = true := vx_ot_at hW0 hvm.symm (hgood _ (List.mem_cons_of_mem _ List.mem_cons_self)) hini
  have hU' : vx_Zq Bundle.tN "UNASSIGNED_STACK" Bundle.steD A s' s'.heap := by rw [hhp]; exact vx_Zq.moved hW0.alike (hU.kept hS.2.1)
  have hN' : vx_Zq Bundle.tN "SUPPRESSED_SENTINEL" Bundle.listD A s' s'.heap := by rw [hhp]; exact vx_Zq.moved hW0.alike (hN.kept hS.2.1)
  have h : ∀ w ∈ Bundle.ownAtoms own ic cls names, w.before args s' = true := vx_own hat' (vx_isRefq hU'.1) (vx_isRefq hN'.1) hU'.2.word hN'.2.word
  have hown' : s'.vm.findClass own = some m.cls := by rw [hvm]; exact hown
  have hins : (Cond.instantiable cls 6).before args s' = true := h _ (by simp [Bundle.ownAtoms])
  obtain ⟨vm₁, cX, kX, hfX, hkX, -, -, X₁, st1⟩ := Y.newCold hexec (own := own) (C := cls) (index := ik) (n := 6) hown' hk' hins hini'
    (g := F0 m pc ls rest) rfl (by rw [hb]; exact d0) (Nat.le_refl _) (Nat.le_refl _)
  generalize hT1 : (T.setVm vm₁).pushCell { cls := cX, slots := kX.instanceTypes.map defaultValue, vm := .none } = T1 at X₁ st1
  have hcat : (Value.ref T.heap.size).category = 1 := rfl
  have hcellA : T1.heap[T.heap.size]? = some (freshCell cX kX) := by rw [← hT1]; exact State.heap_pushCell_size _ _
  have d3' : decode c.code (pc + 3) = .ok (.dup, 1) := by rw [hb]; exact d3
  have d4' : decode c.code (pc + 4) = .ok (.ldc_w is, 3) := by rw [hb]; exact d4
  have hstr' : vk_R own is text sa s' := vk_R.warm hW0 hstr
  obtain ⟨U, hsteps, hrun, hend, hW, hsame, ce, hce, hO⟩ := X₁.ctorThrowS hexec htr (own := own) (cls := cls) (names := names) (ic := ic) hown' hcls hnames h (fun x hx => nomatch hx) hfX hkX hcellA (by rw [hhp, hT]; exact Nat.le_refl _) (msg := .ref sa) rfl
    (g := { method := m, pc := pc + 7, locals := ls, stack := .ref sa :: .ref T.heap.size :: .ref T.heap.size :: rest, locked := none }) rfl hsize rfl rfl (rest := rest) rfl
    (by rw [hb]; exact d7) (by rw [hb]; exact d10) hout hRframes (by simp only [List.map_cons, List.sum_cons, hcat]; omega) hlocks
  obtain ⟨f1, f2⟩ := vx_frame hsame
  rw [hhp] at f1 f2
  have hWs : s.WarmedH U.vm := State.WarmedH.trans hW0 hW
  have hcl : s.vm.findClass cls = some ce.cls := by
    have h9 := hO.cls
    rw [hvm] at h9
    exact h9
  have hall : s.sameButNew ({ U with vm := s.vm } : State) locs mc ms := by
    subst hA
    obtain ⟨e1, e2⟩ := hsame
    rw [State.setFrames_setFrames] at e1
    have h2 : (T.setVm s.vm).sameButNew ({ U with vm := s.vm } : State) [] (0 + 1) (0 + 6) := ⟨e1, e2⟩
    have h3 := X.same.trans h2
    rw [List.append_nil] at h3
    exact h3.mono hc hs
  refine ⟨U, ?_, .threw T.heap.size, hrun, hend, Or.inr ⟨T.heap.size, rfl, cls, ce, locs, hx U hWs.alike f1 (fun q hq => f2 q hq (fun z hz => nomatch hz)), hce, hO.vm, hcl, hWs, hall, hf⟩⟩
  refine st1 _ ?_
  show Steps p.tables e below (T1.setTop { method := m, pc := pc + 3, locals := ls, stack := .ref T.heap.size :: rest, locked := none }) _
  jvm_step X₁.here [X₁.here.top, hexec, d3', Value.category]
  exact X₁.ldcStringW hexec (own := own) (text := text) (index := is) (a := sa) hown' hstr'.1 hstr'.2
    (g := { method := m, pc := pc + 4, locals := ls, stack := .ref T.heap.size :: .ref T.heap.size :: rest, locked := none }) rfl d4' _ hsteps
end Ends
section Bodies
variable {l : Launch}
theorem vx_ofW {y : MethodName} {ws ws' : List Cond} {rm : Room} {Pc : Array Value → State → Prop} {Qc : Array Value → State → Outcome → State → Prop} {XC : String → State → State → Prop} {mc ms : Nat} {free : Addr → Prop} {cc : ByteArray} {maxL : Nat} {ret : Option FieldType}
    (hy : plainName y.cls = true) (hw : ws = Cond.code y cc maxL ret :: ws')
    (body : ∀ p e s m args below meth c s₁, BodyLoose p l y (headSpec ws rm) cc maxL ret e s m args below meth c s₁ → c.maxLocals = maxL → (∀ x ∈ c.exceptionTable.toList, False) → Pc args s →
      W p l e (headSpec ws rm).room s m args below meth c s.heap [] 0 0 (vx_MQ below Qc XC args s mc ms free) (entryFrame m args maxL)) : vx_Met l y ws rm Pc Qc XC mc ms free := by
  refine MetFree.of_bodyS (code := cc) (maxLocals := maxL) (ret := ret) hy ?_ ?_
  · intro args s m h hn
    obtain ⟨meth, c, h1, h2, h3, h4, h5, h6, -, -⟩ := Cond.code_spec hn (atoms_spec (ws := ws) h _ (by rw [hw]; exact List.mem_cons_self))
    exact ⟨meth, c, h1, h2, h3, h4, h5, h6⟩
  · intro p e s m args below meth c s₁ B hml hP _
    have hh0 : s₁.heap = s.heap := by rw [B.state]; rfl
    have ht : ∀ x ∈ c.exceptionTable.toList, False := by
      obtain ⟨meth9, c9, h1, h2, -, -, -, -, h7, -⟩ := Cond.code_spec B.named (atoms_spec (ws := ws) B.pre _ (by rw [hw]; exact List.mem_cons_self))
      cases Option.some.inj (h1.symm.trans B.method)
      cases Option.some.inj (h2.symm.trans (Stand.of_body B).code)
      intro x hx
      rw [Array.isEmpty_iff.mp h7] at hx
      cases hx
    obtain ⟨t, a1, o, b1, b2, b3⟩ := body p e s m args below meth c s₁ B hml ht hP s₁ hh0 (Stand.of_body B)
    exact ⟨t, o, a1, b1, b2, b3⟩
/-- the table of a body with handlers -/
theorem vx_table {p : Program} {x y : MethodName} {S : Spec} {cc bytes : ByteArray} {maxL maxL' : Nat} {ret ret' : Option FieldType} {e : Env} {s s₁ : State} {m : MethodId} {args : Array Value} {below : List Frame} {meth : Method} {c : Code} {hh : List (Nat × Nat × Nat × Nat)}
    (B : BodyLoose p l y S cc maxL ret e s m args below meth c s₁) (h : (Cond.codeWith y bytes maxL' ret' hh).before args s = true) : c.exceptionTable.toList = tableOf hh := by
  obtain ⟨m9, meth9, c9, hn9, h1, h2, -, -, h6, -⟩ := Cond.codeWith_spec h
  cases Option.some.inj (hn9.symm.trans B.named)
  cases Option.some.inj (h1.symm.trans B.method)
  cases Option.some.inj (h2.symm.trans (Stand.of_body B).code)
  rw [← h6, table_eq]
end Bodies
end VXA
/-! ===== END ===== -/
/-! ===== BEGIN a static call of a method with an exception table ===== -/
section VXS
variable {p : Program} {l : Launch} {e : Env} {R : Room} {s : State} {m : MethodId} {args : Array Value} {below : List Frame} {meth : Method} {c : Code} {T : State} {H : Heap} {locs : List Loc} {cells slots : Nat}
abbrev vx_CSW (R : Room) (s : State) (args : Array Value) (own : String) (index : Nat) (y : MethodName) (bytes : ByteArray) (maxL : Nat) (ret : Option FieldType) (hh : List (Nat × Nat × Nat × Nat)) (ws : List Cond) (rm : Room) (mc ms n : Nat) : Prop :=
  (rm.cells = mc ∧ rm.slots = ms ∧ rm.frames + 1 ≤ R.frames ∧ 8 + (maxL + 11) + rm.locals ≤ R.locals ∧ (∀ w ∈ ws, ∀ (a' : Array Value) (U : State), s.WarmedH U.vm → w.before a' U = true) ∧ Cond.codeWith y bytes maxL ret hh ∈ ws) ∧
  (Cond.codeWith y bytes maxL ret hh).before args s = true ∧ (Cond.initialized y.cls).before args s = true ∧ (y.cls ≠ "java/lang/invoke/MethodHandle" ∧ y.cls ≠ "java/lang/invoke/VarHandle") ∧
  (∀ sig, parseMethodDescriptor y.desc = some sig → n = sig.parameters.length) ∧ (Cond.methodLink own index y).before args s = true ∧ (Cond.static y).before args s = true
theorem vx_cwSW {own : String} {index maxL mc ms : Nat} {y : MethodName} {bytes : ByteArray} {ret : Option FieldType} {hh : List (Nat × Nat × Nat × Nat)} {Ts ws ws' : List Cond} {rm : Room} (n : Nat) (ht : ∀ w ∈ Ts, w.before args s = true) (hT : GoodIn Ts (va_wsS own index y ws)) (hw : ws = Cond.codeWith y bytes maxL ret hh :: ws') (hrc : rm.cells = mc) (hrs : rm.slots = ms)
    (hd : y.cls ≠ "java/lang/invoke/MethodHandle" ∧ y.cls ≠ "java/lang/invoke/VarHandle" ∧ (parseMethodDescriptor y.desc).map (fun d => d.parameters.length) = some n) (hR : rm.frames + 1 ≤ R.frames ∧ 8 + (maxL + 11) + rm.locals ≤ R.locals) :
    vx_CSW R s args own index y bytes maxL ret hh ws rm mc ms n := by
  have ok : ∀ w ∈ va_wsS own index y ws, w.before args s = true := fun w h => ht w (hT w h).1
  have hG : GoodIn Ts ws := fun w h => hT w (by unfold va_wsS; exact List.mem_append_right _ h)
  have hc : Cond.codeWith y bytes maxL ret hh ∈ ws := by rw [hw]; exact List.mem_cons_self
  refine ⟨⟨hrc, hrs, hR.1, hR.2, pay_in ht hG, hc⟩, ht _ (hG _ hc).1, ok _ (by simp [va_wsS]), ⟨hd.1, hd.2.1⟩, fun sig h => ?_, ok _ (by simp [va_wsS]), ok _ (by simp [va_wsS])⟩
  have h2 := hd.2.2
  rw [h] at h2
  exact (Option.some.inj h2).symm
theorem vx_callSW (X : Stand p l e R s m args below meth c T locs cells slots) (hexec : p.tables.exec = Jvm.exec) {own : String} {index : Nat} {y : MethodName} {bytes : ByteArray} {maxL : Nat} {ret : Option FieldType} {hh : List (Nat × Nat × Nat × Nat)}
    (hown : s.vm.findClass own = some m.cls) (hlink : (Cond.methodLink own index y).before args s = true) (hstat : (Cond.static y).before args s = true) (hinit : (Cond.initialized y.cls).before args s = true)
    (hcode : (Cond.codeWith y bytes maxL ret hh).before args s = true) (hy : y.cls ≠ "java/lang/invoke/MethodHandle" ∧ y.cls ≠ "java/lang/invoke/VarHandle")
    {W9 : Nat} {Pre : Pt → Array Value → Prop} {Post : Pt → Array Value → Option Value → Pt → Prop} (hK : Back l R p e below s args y 3 W9 Pre Post)
    {g : JFrame} (hg : g.method = m) (hsize : g.locals.size = c.maxLocals) {argsL rest : List Value} (hlen : ∀ sig, parseMethodDescriptor y.desc = some sig → argsL.length = sig.parameters.length)
    (hstack : g.stack = argsL.reverse ++ rest) (hW : 2 * g.monitorRoom + (rest.map fun v => v.category).sum ≤ W9) (hdg : decode c.code g.pc = .ok (.invokestatic index, 3))
    (hpre : ∀ vm₁, s.WarmedH vm₁ → Pre ⟨T.setVm vm₁, locs, cells, slots⟩ argsL.toArray) :
    ∃ (v : Option Value) (vm₁ : Vm) (B : Pt), s.WarmedH vm₁ ∧ Stand p l e R s m args below meth c B.U B.locs B.cells B.slots ∧ Post ⟨T.setVm vm₁, locs, cells, slots⟩ argsL.toArray v B ∧
      ∀ target, Steps p.tables e below (B.U.setTop { g with pc := g.pc + 3, stack := v.toList ++ rest }) target → Steps p.tables e below (T.setTop g) target := by
  obtain ⟨mk, methM, cM, hnamed, hmethM, -, -, -, -, -, -, hsigM⟩ := Cond.codeWith_spec hcode
  have hstatic : methM.isStatic = true := Cond.static_spec hnamed hmethM hstat
  obtain ⟨kP, hkP, -⟩ := className_of_methodNamed hnamed
  have hinitP : kP.init = .initialized := Cond.initialized_spec (findClass_of_methodNamed hnamed) hkP hinit
  obtain ⟨vm₁, X₁, hstep₁⟩ := X.invokestatic hexec hown hlink hnamed hmethM hstatic hkP hinitP hy (g := g) hg (argsL := argsL) (rest := rest) (hlen _ hsigM) hstack hdg
  obtain ⟨v, B, X', hpost, hsteps⟩ := hK m meth c ⟨T.setVm vm₁, locs, cells, slots⟩ { g with stack := rest } (.invokestatic index) mk argsL.toArray X₁ hg hsize hdg hW (X₁.named hnamed) (hpre vm₁ X₁.warmed)
  exact ⟨v, vm₁, B, X₁.warmed, X', hpost, fun target h => hstep₁ _ fun acts => by rw [doInvoke_state]; exact hsteps.trans h⟩
theorem vx_runSW {y : MethodName} {bytes cc : ByteArray} {maxL nL mc ms n index : Nat} {ret : Option FieldType} {hh : List (Nat × Nat × Nat × Nat)} {ws : List Cond} {rm : Room} {Pc : Array Value → State → Prop} {Qc : Array Value → State → Outcome → State → Prop} {free : Addr → Prop} {Ts : List Cond} {own : String} {As rest : List Value} {g : JFrame}
    (S : CallFix p m c cc nL s args Ts own) (hM : Met l y ws rm Pc Qc mc ms free) (cw : vx_CSW R s args own index y bytes maxL ret hh ws rm mc ms n) (hp : PreS s H Pc As)
    (hg : g.method = m) (hn : As.length = n) (hsize : g.locals.size = nL) (hstack : g.stack = As.reverse ++ rest) (hW : 2 * g.monitorRoom + (rest.map fun v => v.category).sum ≤ 8) (hdg : decode cc g.pc = .ok (.invokestatic index, 3)) (hf : cells + mc ≤ R.cells ∧ slots + ms ≤ R.slots) :
    va_Run p l e R s m args below meth c H locs cells slots mc ms g rest (Qc As.toArray) (free) := by
  obtain ⟨⟨hrc, hrs, hfr, hlo, hws, hcw⟩, hcode, hini, hy, hlen, hl, hstt⟩ := cw
  have hK : Back l R p e below s args y 3 8 (PreOf R mc ms Pc) (PostOf Qc mc ms free) := va_backW (hh := hh) (bytes := bytes) (maxL := maxL) (ret := ret) hM hp.1 hrc hrs hfr hlo hws hcw (fun a' U hW => word_at hW (Or.inl (by first | rfl | simp [Cond.onTables, Cond.keeps, Cond.steady])) hini)
  obtain ⟨hx, hb, hml, ho, -⟩ := S
  intro T hT X
  obtain ⟨v, vm₁, ⟨U', l2, c2, s2⟩, hW₁, X', ⟨g', mk, t, L, e1, e2, hq, h1, hL, h2, h3⟩, st⟩ := vx_callSW X hx (hh := hh) (bytes := bytes) (maxL := maxL) (ret := ret) ho hl hstt hini hcode hy hK hg (hsize.trans hml.symm) (argsL := As) (rest := rest) (fun sig h => hn.trans (hlen sig h)) hstack hW (by rw [hb]; exact hdg)
    (fun vm₁ hW₁ => ⟨hf.1, hf.2, hp.2 (T.setVm vm₁) hT hW₁⟩)
  dsimp only [Pt.U, Pt.locs, Pt.cells, Pt.slots] at X' e1 e2 h1 h2 h3 st
  subst h1; subst h2; subst h3
  exact ⟨v, (T.setVm vm₁).calling g' mk As.toArray, t, U', L, hT, X', hL, e1, e2, hq, st⟩
/-- not caught here, past rows that name other classes: it goes on to the caller -/
theorem vx_outP {p : Program} {l : Launch} {e : Env} {R : Room} {s : State} {m : MethodId} {args : Array Value} {below : List Frame} {meth : Method} {c : Code} {H : Heap} {locs : List Loc} {cells slots : Nat} {free : Addr → Prop} {ls : Array Slot} {rest : List Value} {Qc : Array Value → State → Outcome → State → Prop} {XC : String → State → State → Prop}
    {pc : Nat} {own E : String} {ce : Cell} {q : Addr} {mc ms : Nat} (hown : s.vm.findClass own = some m.cls) (hlocks : meth.locks = false)
    (hpass : ∀ z ∈ c.exceptionTable.toList, covers z pc = false ∨ (z.catchType ≠ 0 ∧ ∃ nm : String, (Cond.classLink own z.catchType nm).before args s = true ∧ va_Nc E nm s)) (hcell : H[q]? = some ce) (hv : ce.vm = .none) (hcl : s.vm.findClass E = some ce.cls)
    (hx : ∀ t : State, t.heap = H → s.vm.Alike t.vm → XC E s t) (hf : ∀ z ∈ locs, free z.base) (hc : cells ≤ mc) (hs : slots ≤ ms) :
    vx_W p l e R s m args below meth c H locs cells slots (vx_MQ below Qc XC args s mc ms free) (F0 m pc ls rest) q := by
  intro T hT X
  have hpl : e.platform.magicAccessors = ({} : Platform).magicAccessors := by rw [X.admits.platform]
  obtain ⟨vm', hW', X', st⟩ := X.outThrough hlocks q (g := F0 m pc ls rest) rfl rfl rfl (cell := ce) (by rw [hT]; exact hcell) (by rw [hv]; rfl)
    (by obtain ⟨k9, h9, -⟩ := Vm.findClass_spec hcl; exact ⟨k9, h9⟩) (fun z hz => by
      rcases hpass z hz with h | ⟨hz0, nm, hl1, hn1⟩
      · exact Or.inl h
      · obtain ⟨c6, hc6, hcl6⟩ := Cond.classLink_spec hown hl1 e.platform hpl
        obtain ⟨a8, b8, h1, h2, h3⟩ := hn1
        cases Option.some.inj (h1.symm.trans hcl)
        cases Option.some.inj (h2.symm.trans hc6)
        exact Or.inr ⟨hz0, _, hcl6, h3⟩)
  obtain ⟨g₀, hfr⟩ := X'.frames_eq
  have hcell9 : ((T.setVm vm').setFrames (.throwing q :: below)).heap[q]? = some ce := by
    show T.heap[q]? = some ce
    rw [hT]; exact hcell
  have hend : Ended ((T.setVm vm').setFrames (.throwing q :: below)) below (.threw q) := State.frames_setFrames _ (State.cur_lt_of_frames hfr)
  refine ⟨(T.setVm vm').setFrames (.throwing q :: below), ?_, .threw q, X'.here.running, hend, Or.inr ⟨q, rfl, E, ce, locs, hx _ hT (X'.ends _).1.alike, hcell9, hv, hcl, (X'.ends _).1, (X'.ends _).2.mono hc hs, hf⟩⟩
  rw [X.pushThrowing_eq]
  exact st
/-- a thing of a world lies in the heap -/
theorem vx_lt {D : va_G} {cl : List vw_C} {ws : va_W} {H1 : Heap} (h : va_P D cl ws H1) {k : Nat} {q : Nat × va_E} (hk : ws[k]? = some q) : q.1 < H1.size := (h k q hk).lt
end VXS
/-! ===== END ===== -/
/-! ===== BEGIN methods with a table of their own: called by a name, returning or throwing ===== -/
section VXH
/-! vx_backW, vx_callVX, vx_callSX, vx_callVW, vx_runVW, vx_runVX, vx_runSX, vx_ofWH follow the same proofs as their sisters above (Free/Laws.lean, Shelf42/LK1.lean); vx_outP calls Shelf42/NT130.lean (outThrough). -/
section
variable {l : Launch} {R : Room} {p : Program} {e : Env} {below : List Frame} {s : State} {sargs : Array Value} {y : MethodName} {len W9 : Nat}
theorem vx_backW {ws : List Cond} {rm : Room} {Pc : Array Value → State → Prop} {Qc : Array Value → State → Outcome → State → Prop} {XC : String → State → State → Prop} {mc ms : Nat} {free : Addr → Prop} {bytes : ByteArray} {maxL : Nat} {ret : Option FieldType} {hh : List (Nat × Nat × Nat × Nat)}
    (hM : vx_Met l y ws rm Pc Qc XC mc ms free) (hblind : FrameBlind Pc) (hrc : rm.cells = mc) (hrs : rm.slots = ms)
    (hframes : rm.frames + 1 ≤ R.frames) (hlocals : W9 + (maxL + 11) + rm.locals ≤ R.locals)
    (hws : ∀ w ∈ ws, ∀ a' U, s.WarmedH U.vm → w.before a' U = true) (hcode : Cond.codeWith y bytes maxL ret hh ∈ ws) (hinit : ∀ a' U, s.WarmedH U.vm → (Cond.initialized y.cls).before a' U = true) :
    vx_Back l R p e below s sargs y len W9 (PreOf R mc ms Pc) (PostOf Qc mc ms free) (vx_Post XC mc ms free) := by
  intro m meth c A g ig mk a X hg hsize hdg hW hn hp
  have h1 : (headSpec ws rm).pre.before a A.U = true := atoms_intro fun w hw => hws w hw _ _ X.warmed
  have h2 : (Cond.codeWith y bytes maxL ret hh).before a A.U = true := hws _ hcode _ _ X.warmed
  have h3 : (Cond.initialized y.cls).before a A.U = true := hinit _ _ X.warmed
  have h4 : A.cells + (headSpec ws rm).room.cells ≤ R.cells := by rw [show (headSpec ws rm).room.cells = mc from hrc]; exact hp.1
  have h5 : A.slots + (headSpec ws rm).room.slots ≤ R.slots := by rw [show (headSpec ws rm).room.slots = ms from hrs]; exact hp.2.1
  have hPc : Pc a (A.U.calling g mk a) := hblind _ _ _ _ hp.2.2
  obtain ⟨U, Ls, c0, s0⟩ := A
  dsimp only [Pt.U, Pt.locs, Pt.cells, Pt.slots] at h1 h2 h3 h4 h5 X hn hPc ⊢
  obtain ⟨m9, methY, cY, hn9, hmY, hcY, -, hlY, -⟩ := Cond.codeWith_spec h2
  cases Option.some.inj (hn9.symm.trans hn)
  obtain ⟨kY, hkY, -⟩ := className_of_methodNamed hn
  have hinitY : kY.init = .initialized := Cond.initialized_spec (findClass_of_methodNamed hn) hkY h3
  have h : At U g.method c below := by rw [hg]; exact X.here
  have hlocals9 : W9 + (maxL + 11) + (headSpec ws rm).room.locals ≤ R.locals := hlocals
  have happ : (headSpec ws rm).appliesLoose y e.platform (U.calling g mk a) = true :=
    Spec.appliesLoose_calling (g := g) h hdg hn hkY hinitY
      (X.room_calling (g := g) (R' := (headSpec ws rm).room) hsize hmY hcY hframes (by rw [hlY]; omega) h4 h5) h1
  obtain ⟨mid, hmid⟩ := h.above
  have hfr : (U.setTop g).frames = (.java g :: mid) ++ below := by rw [State.frames_setTop' g h.top, hmid]; rfl
  obtain ⟨o, s₂, hsteps, -, hend, hq⟩ := Steps.callFree hM p X.admits X.cas X.clock (acts := []) hfr happ hPc trivial
  have hq' : vx_Q Qc XC mc ms free a (U.calling g mk a) o s₂ := hq
  rw [State.frames_setTop' g h.top] at hend
  obtain ⟨g₀, hg0⟩ := Option.isSome_iff_exists.mp h.top
  obtain ⟨r, hr⟩ := State.topJava?_eq_some.mp hg0
  have hr' : (({ U with heap := s₂.heap, slotsUsed := s₂.slotsUsed } : State).setVm s₂.vm).frames = .java g₀ :: r := hr
  rcases hq' with ⟨hqc, L, hfe, hL⟩ | ⟨q, rfl, E, ce, L, hx, hce, hcv, hcl, hW₂, hsm, hL⟩
  · obtain ⟨⟨v, rfl⟩, hW₂, e2, q2, q3, q4, q5, q6⟩ := id hfe
    have e3 : s₂ = ({ (U.calling g mk a).setFrames s₂.frames with heap := s₂.heap, slotsUsed := s₂.slotsUsed } : State).setVm s₂.vm := by
      have : s₂ = ({ s₂ with vm := (U.calling g mk a).vm } : State).setVm s₂.vm := rfl
      rw [e2] at this
      exact this
    obtain ⟨c₂, i₂, len₂, hc₂, hd₂, hf₂⟩ := hend
    have hW' : U.WarmedH s₂.vm := hW₂
    have hcc : c₂ = c := by
      have h1 : s₂.code? g.method = U.code? g.method := by
        rw [State.code?_eq, State.code?_eq, hW'.alike.method?]
      exact Option.some.inj (hc₂.symm.trans (h1.trans h.code))
    subst hcc
    have hlen : len₂ = len := by rw [hdg] at hd₂; cases hd₂; rfl
    subst hlen
    have hs₂ : s₂ = (({ U with heap := s₂.heap, slotsUsed := s₂.slotsUsed } : State).setVm s₂.vm).setTop { g with pc := g.pc + len₂, stack := v.toList ++ g.stack } := by
      refine e3.trans ?_
      rw [hf₂, State.calling_eq h.top, State.setFrames_setFrames, State.setTop_of_frames _ hr', hr]
      rfl
    have hsame : U.sameButNew ({ U with heap := s₂.heap, slotsUsed := s₂.slotsUsed } : State) L mc ms := by
      refine ⟨?_, q2, q3, q4, q5, q6⟩
      obtain ⟨t, ht, -⟩ := State.frames_cons hr
      show ({ U with heap := s₂.heap, slotsUsed := s₂.slotsUsed } : State) = { U.setFrames U.frames with heap := s₂.heap, slotsUsed := s₂.slotsUsed }
      rw [State.setFrames_self ht]
    subst hg
    refine Or.inl ⟨v, ⟨(({ U with heap := s₂.heap, slotsUsed := s₂.slotsUsed } : State).setVm s₂.vm), Ls ++ L, c0 + mc, s0 + ms⟩,
      ⟨X.admits, X.cas, X.clock, X.frames, X.room, X.hears, X.method, X.code, (X.here.setHeapUsed s₂.heap s₂.slotsUsed).setVm hW'.alike, X.tail, State.WarmedH.trans X.warmed hW', X.limits, X.bytes, X.same.trans (hsame.setVm s.vm)⟩,
      ⟨g, mk, s₂, L, rfl, rfl, hqc, rfl, hL, rfl, rfl⟩, ?_⟩
    show Steps p.tables e below _ ((({ U with heap := s₂.heap, slotsUsed := s₂.slotsUsed } : State).setVm s₂.vm).setTop { g with pc := g.pc + len₂, stack := v.toList ++ g.stack })
    rw [← hs₂]
    exact hsteps
  · obtain ⟨e2, q2, q3, q4, q5, q6⟩ := id hsm
    have e3 : s₂ = ({ (U.calling g mk a).setFrames s₂.frames with heap := s₂.heap, slotsUsed := s₂.slotsUsed } : State).setVm s₂.vm := by
      have : s₂ = ({ s₂ with vm := (U.calling g mk a).vm } : State).setVm s₂.vm := rfl
      rw [e2] at this
      exact this
    have hf₂ : s₂.frames = .throwing q :: .java g :: U.frames.tail := hend
    have hW' : U.WarmedH s₂.vm := hW₂
    have hs₂ : s₂ = ((({ U with heap := s₂.heap, slotsUsed := s₂.slotsUsed } : State).setVm s₂.vm).setTop g).pushFrame (.throwing q) := by
      refine e3.trans ?_
      rw [hf₂, State.calling_eq h.top, State.setFrames_setFrames, State.pushFrame, State.frames_setTop _ hr', State.setTop_of_frames _ hr', State.setFrames_setFrames, hr]
      rfl
    have hsame : U.sameButNew ({ U with heap := s₂.heap, slotsUsed := s₂.slotsUsed } : State) L mc ms := by
      refine ⟨?_, q2, q3, q4, q5, q6⟩
      obtain ⟨t, ht, -⟩ := State.frames_cons hr
      show ({ U with heap := s₂.heap, slotsUsed := s₂.slotsUsed } : State) = { U.setFrames U.frames with heap := s₂.heap, slotsUsed := s₂.slotsUsed }
      rw [State.setFrames_self ht]
    subst hg
    refine Or.inr ⟨q, ⟨(({ U with heap := s₂.heap, slotsUsed := s₂.slotsUsed } : State).setVm s₂.vm), Ls ++ L, c0 + mc, s0 + ms⟩,
      ⟨X.admits, X.cas, X.clock, X.frames, X.room, X.hears, X.method, X.code, (X.here.setHeapUsed s₂.heap s₂.slotsUsed).setVm hW'.alike, X.tail, State.WarmedH.trans X.warmed hW', X.limits, X.bytes, X.same.trans (hsame.setVm s.vm)⟩,
      ⟨g, mk, s₂, L, E, ce, rfl, rfl, hx, hce, hcv, hcl, rfl, hL, rfl, rfl⟩, ?_⟩
    show Steps p.tables e below _ (((({ U with heap := s₂.heap, slotsUsed := s₂.slotsUsed } : State).setVm s₂.vm).setTop g).pushFrame (.throwing q))
    rw [← hs₂]
    exact hsteps
end
variable {p : Program} {l : Launch} {e : Env} {R : Room} {s : State} {m : MethodId} {args : Array Value} {below : List Frame} {meth : Method} {c : Code} {T : State} {H : Heap} {locs : List Loc} {cells slots : Nat}
theorem vx_callVX (X : Stand p l e R s m args below meth c T locs cells slots) (hexec : p.tables.exec = Jvm.exec) {own C : String} {index : Nat} {y : MethodName} {bytes : ByteArray} {maxL : Nat} {ret : Option FieldType} {hh : List (Nat × Nat × Nat × Nat)}
    (hown : s.vm.findClass own = some m.cls) (hlink : (Cond.methodLink own index y).before args s = true) (hinst : (Cond.instanceMethod y).before args s = true) (hsel : (Cond.selects C y y).before args s = true)
    (hcode : (Cond.codeWith y bytes maxL ret hh).before args s = true) (hy : y.cls ≠ "java/lang/invoke/MethodHandle" ∧ y.cls ≠ "java/lang/invoke/VarHandle")
    {W9 : Nat} {Pre : Pt → Array Value → Prop} {Post : Pt → Array Value → Option Value → Pt → Prop} {PostX : Pt → Array Value → Addr → Pt → Prop} (hK : vx_Back l R p e below s args y 3 W9 Pre Post PostX)
    {b : Addr} {cellB : Cell} (hcell : T.heap[b]? = some cellB) (hobj : cellB.vm.isStatics = false) (hcls : s.vm.findClass C = some cellB.cls)
    {g : JFrame} (hg : g.method = m) (hsize : g.locals.size = c.maxLocals) {argsL rest : List Value} (hlen : ∀ sig, parseMethodDescriptor y.desc = some sig → argsL.length = sig.parameters.length)
    (hstack : g.stack = argsL.reverse ++ .ref b :: rest) (hW : 2 * g.monitorRoom + (rest.map fun v => v.category).sum ≤ W9) (hdg : decode c.code g.pc = .ok (.invokevirtual index, 3))
    (hpre : ∀ vm₁, s.WarmedH vm₁ → Pre ⟨T.setVm vm₁, locs, cells, slots⟩ (Value.ref b :: argsL).toArray) :
    (∃ (v : Option Value) (vm₁ : Vm) (B : Pt), s.WarmedH vm₁ ∧ Stand p l e R s m args below meth c B.U B.locs B.cells B.slots ∧ Post ⟨T.setVm vm₁, locs, cells, slots⟩ (Value.ref b :: argsL).toArray v B ∧
      ∀ target, Steps p.tables e below (B.U.setTop { g with pc := g.pc + 3, stack := v.toList ++ rest }) target → Steps p.tables e below (T.setTop g) target) ∨
    (∃ (q : Addr) (vm₁ : Vm) (B : Pt), s.WarmedH vm₁ ∧ Stand p l e R s m args below meth c B.U B.locs B.cells B.slots ∧ PostX ⟨T.setVm vm₁, locs, cells, slots⟩ (Value.ref b :: argsL).toArray q B ∧
      Steps p.tables e below (T.setTop g) ((B.U.setTop { g with stack := rest }).pushFrame (.throwing q))) := by
  obtain ⟨mk, methM, hnamed, hmethM, hstM, habM⟩ := Cond.instanceMethod_spec hinst
  obtain ⟨m8, methM', cM, hn8, hmethM', -, -, -, -, -, -, hsigM⟩ := Cond.codeWith_spec hcode
  cases Option.some.inj (hn8.symm.trans hnamed)
  cases hmethM.symm.trans hmethM'
  obtain ⟨c2, r2, m2, q1, q2, q3, q4, kP, hkP, hkPi⟩ := Cond.selects_spec hsel
  cases hcls.symm.trans q1
  cases (State.methodFound?_of_named hnamed hy).symm.trans q2
  cases hnamed.symm.trans q3
  have hselP : selectMethod e.platform s.vm cellB.cls mk = .method mk := by rw [Launch.admits_selectMethod X.admits]; exact q4
  obtain ⟨vm₁, X₁, hstep₁⟩ := X.invokevirtual hexec hown hlink hnamed hmethM hstM hkP hkPi hy (a := b) (cell := cellB) hcell
    (fun z h => by rw [h] at hobj; cases hobj) hselP hmethM habM hkP hkPi (g := g) hg (argsL := argsL) (rest := rest) (hlen _ hsigM) hstack hdg
  rcases hK m meth c ⟨T.setVm vm₁, locs, cells, slots⟩ { g with stack := rest } (.invokevirtual index) mk (Value.ref b :: argsL).toArray X₁ hg hsize hdg hW (X₁.named hnamed) (hpre vm₁ X₁.warmed) with ⟨v, B, X', hpost, hsteps⟩ | ⟨q, B, X', hpost, hsteps⟩
  · exact Or.inl ⟨v, vm₁, B, X₁.warmed, X', hpost, fun target h => hstep₁ _ fun acts => by rw [doInvoke_state]; exact hsteps.trans h⟩
  · exact Or.inr ⟨q, vm₁, B, X₁.warmed, X', hpost, hstep₁ _ fun acts => by rw [doInvoke_state]; exact hsteps⟩
theorem vx_callSX (X : Stand p l e R s m args below meth c T locs cells slots) (hexec : p.tables.exec = Jvm.exec) {own : String} {index : Nat} {y : MethodName} {bytes : ByteArray} {maxL : Nat} {ret : Option FieldType} {hh : List (Nat × Nat × Nat × Nat)}
    (hown : s.vm.findClass own = some m.cls) (hlink : (Cond.methodLink own index y).before args s = true) (hstat : (Cond.static y).before args s = true) (hinit : (Cond.initialized y.cls).before args s = true)
    (hcode : (Cond.codeWith y bytes maxL ret hh).before args s = true) (hy : y.cls ≠ "java/lang/invoke/MethodHandle" ∧ y.cls ≠ "java/lang/invoke/VarHandle")
    {W9 : Nat} {Pre : Pt → Array Value → Prop} {Post : Pt → Array Value → Option Value → Pt → Prop} {PostX : Pt → Array Value → Addr → Pt → Prop} (hK : vx_Back l R p e below s args y 3 W9 Pre Post PostX)
    {g : JFrame} (hg : g.method = m) (hsize : g.locals.size = c.maxLocals) {argsL rest : List Value} (hlen : ∀ sig, parseMethodDescriptor y.desc = some sig → argsL.length = sig.parameters.length)
    (hstack : g.stack = argsL.reverse ++ rest) (hW : 2 * g.monitorRoom + (rest.map fun v => v.category).sum ≤ W9) (hdg : decode c.code g.pc = .ok (.invokestatic index, 3))
    (hpre : ∀ vm₁, s.WarmedH vm₁ → Pre ⟨T.setVm vm₁, locs, cells, slots⟩ argsL.toArray) :
    (∃ (v : Option Value) (vm₁ : Vm) (B : Pt), s.WarmedH vm₁ ∧ Stand p l e R s m args below meth c B.U B.locs B.cells B.slots ∧ Post ⟨T.setVm vm₁, locs, cells, slots⟩ argsL.toArray v B ∧
      ∀ target, Steps p.tables e below (B.U.setTop { g with pc := g.pc + 3, stack := v.toList ++ rest }) target → Steps p.tables e below (T.setTop g) target) ∨
    (∃ (q : Addr) (vm₁ : Vm) (B : Pt), s.WarmedH vm₁ ∧ Stand p l e R s m args below meth c B.U B.locs B.cells B.slots ∧ PostX ⟨T.setVm vm₁, locs, cells, slots⟩ argsL.toArray q B ∧
      Steps p.tables e below (T.setTop g) ((B.U.setTop { g with stack := rest }).pushFrame (.throwing q))) := by
  obtain ⟨mk, methM, cM, hnamed, hmethM, -, -, -, -, -, -, hsigM⟩ := Cond.codeWith_spec hcode
  have hstatic : methM.isStatic = true := Cond.static_spec hnamed hmethM hstat
  obtain ⟨kP, hkP, -⟩ := className_of_methodNamed hnamed
  have hinitP : kP.init = .initialized := Cond.initialized_spec (findClass_of_methodNamed hnamed) hkP hinit
  obtain ⟨vm₁, X₁, hstep₁⟩ := X.invokestatic hexec hown hlink hnamed hmethM hstatic hkP hinitP hy (g := g) hg (argsL := argsL) (rest := rest) (hlen _ hsigM) hstack hdg
  rcases hK m meth c ⟨T.setVm vm₁, locs, cells, slots⟩ { g with stack := rest } (.invokestatic index) mk argsL.toArray X₁ hg hsize hdg hW (X₁.named hnamed) (hpre vm₁ X₁.warmed) with ⟨v, B, X', hpost, hsteps⟩ | ⟨q, B, X', hpost, hsteps⟩
  · exact Or.inl ⟨v, vm₁, B, X₁.warmed, X', hpost, fun target h => hstep₁ _ fun acts => by rw [doInvoke_state]; exact hsteps.trans h⟩
  · exact Or.inr ⟨q, vm₁, B, X₁.warmed, X', hpost, hstep₁ _ fun acts => by rw [doInvoke_state]; exact hsteps⟩
theorem vx_callVW (X : Stand p l e R s m args below meth c T locs cells slots) (hexec : p.tables.exec = Jvm.exec) {own C : String} {index : Nat} {y : MethodName} {bytes : ByteArray} {maxL : Nat} {ret : Option FieldType} {hh : List (Nat × Nat × Nat × Nat)}
    (hown : s.vm.findClass own = some m.cls) (hlink : (Cond.methodLink own index y).before args s = true) (hinst : (Cond.instanceMethod y).before args s = true) (hsel : (Cond.selects C y y).before args s = true)
    (hcode : (Cond.codeWith y bytes maxL ret hh).before args s = true) (hy : y.cls ≠ "java/lang/invoke/MethodHandle" ∧ y.cls ≠ "java/lang/invoke/VarHandle")
    {W9 : Nat} {Pre : Pt → Array Value → Prop} {Post : Pt → Array Value → Option Value → Pt → Prop} (hK : Back l R p e below s args y 3 W9 Pre Post)
    {b : Addr} {cellB : Cell} (hcell : T.heap[b]? = some cellB) (hobj : cellB.vm.isStatics = false) (hcls : s.vm.findClass C = some cellB.cls)
    {g : JFrame} (hg : g.method = m) (hsize : g.locals.size = c.maxLocals) {argsL rest : List Value} (hlen : ∀ sig, parseMethodDescriptor y.desc = some sig → argsL.length = sig.parameters.length)
    (hstack : g.stack = argsL.reverse ++ .ref b :: rest) (hW : 2 * g.monitorRoom + (rest.map fun v => v.category).sum ≤ W9) (hdg : decode c.code g.pc = .ok (.invokevirtual index, 3))
    (hpre : ∀ vm₁, s.WarmedH vm₁ → Pre ⟨T.setVm vm₁, locs, cells, slots⟩ (Value.ref b :: argsL).toArray) :
    ∃ (v : Option Value) (vm₁ : Vm) (B : Pt), s.WarmedH vm₁ ∧ Stand p l e R s m args below meth c B.U B.locs B.cells B.slots ∧ Post ⟨T.setVm vm₁, locs, cells, slots⟩ (Value.ref b :: argsL).toArray v B ∧
      ∀ target, Steps p.tables e below (B.U.setTop { g with pc := g.pc + 3, stack := v.toList ++ rest }) target → Steps p.tables e below (T.setTop g) target := by
  obtain ⟨mk, methM, hnamed, hmethM, hstM, habM⟩ := Cond.instanceMethod_spec hinst
  obtain ⟨m8, methM', cM, hn8, hmethM', -, -, -, -, -, -, hsigM⟩ := Cond.codeWith_spec hcode
  cases Option.some.inj (hn8.symm.trans hnamed)
  cases hmethM.symm.trans hmethM'
  obtain ⟨c2, r2, m2, q1, q2, q3, q4, kP, hkP, hkPi⟩ := Cond.selects_spec hsel
  cases hcls.symm.trans q1
  cases (State.methodFound?_of_named hnamed hy).symm.trans q2
  cases hnamed.symm.trans q3
  have hselP : selectMethod e.platform s.vm cellB.cls mk = .method mk := by rw [Launch.admits_selectMethod X.admits]; exact q4
  obtain ⟨vm₁, X₁, hstep₁⟩ := X.invokevirtual hexec hown hlink hnamed hmethM hstM hkP hkPi hy (a := b) (cell := cellB) hcell
    (fun z h => by rw [h] at hobj; cases hobj) hselP hmethM habM hkP hkPi (g := g) hg (argsL := argsL) (rest := rest) (hlen _ hsigM) hstack hdg
  obtain ⟨v, B, X', hpost, hsteps⟩ := hK m meth c ⟨T.setVm vm₁, locs, cells, slots⟩ { g with stack := rest } (.invokevirtual index) mk (Value.ref b :: argsL).toArray X₁ hg hsize hdg hW (X₁.named hnamed) (hpre vm₁ X₁.warmed)
  exact ⟨v, vm₁, B, X₁.warmed, X', hpost, fun target h => hstep₁ _ fun acts => by rw [doInvoke_state]; exact hsteps.trans h⟩
abbrev vx_CVW (R : Room) (s : State) (args : Array Value) (own C : String) (index : Nat) (y : MethodName) (bytes : ByteArray) (maxL : Nat) (ret : Option FieldType) (hh : List (Nat × Nat × Nat × Nat)) (ws : List Cond) (rm : Room) (mc ms n : Nat) : Prop :=
  (rm.cells = mc ∧ rm.slots = ms ∧ rm.frames + 1 ≤ R.frames ∧ 8 + (maxL + 11) + rm.locals ≤ R.locals ∧ (∀ w ∈ ws, ∀ (a' : Array Value) (U : State), s.WarmedH U.vm → w.before a' U = true) ∧ Cond.codeWith y bytes maxL ret hh ∈ ws) ∧
  (Cond.codeWith y bytes maxL ret hh).before args s = true ∧ (Cond.initialized y.cls).before args s = true ∧ (y.cls ≠ "java/lang/invoke/MethodHandle" ∧ y.cls ≠ "java/lang/invoke/VarHandle") ∧
  (∀ sig, parseMethodDescriptor y.desc = some sig → n = sig.parameters.length) ∧ (Cond.methodLink own index y).before args s = true ∧ (Cond.instanceMethod y).before args s = true ∧ (Cond.selects C y y).before args s = true
theorem vx_cwVW {own C : String} {index maxL mc ms : Nat} {y : MethodName} {bytes : ByteArray} {ret : Option FieldType} {hh : List (Nat × Nat × Nat × Nat)} {Ts ws ws' : List Cond} {rm : Room} (n : Nat) (ht : ∀ w ∈ Ts, w.before args s = true) (hT : GoodIn Ts (wsV own index C y ws)) (hw : ws = Cond.codeWith y bytes maxL ret hh :: ws') (hrc : rm.cells = mc) (hrs : rm.slots = ms)
    (hd : y.cls = C ∧ y.cls ≠ "java/lang/invoke/MethodHandle" ∧ y.cls ≠ "java/lang/invoke/VarHandle" ∧ (parseMethodDescriptor y.desc).map (fun d => d.parameters.length) = some n) (hR : rm.frames + 1 ≤ R.frames ∧ 8 + (maxL + 11) + rm.locals ≤ R.locals) :
    vx_CVW R s args own C index y bytes maxL ret hh ws rm mc ms n := by
  obtain ⟨hC, hd⟩ := hd
  subst hC
  have ok : ∀ w ∈ wsV own index y.cls y ws, w.before args s = true := fun w h => ht w (hT w h).1
  have hG : GoodIn Ts ws := fun w h => hT w (by unfold wsV; exact List.mem_append_right _ h)
  have hc : Cond.codeWith y bytes maxL ret hh ∈ ws := by rw [hw]; exact List.mem_cons_self
  refine ⟨⟨hrc, hrs, hR.1, hR.2, pay_in ht hG, hc⟩, ht _ (hG _ hc).1, ok _ (by simp [wsV]), ⟨hd.1, hd.2.1⟩, fun sig h => ?_, ok _ (by simp [wsV]), ok _ (by simp [wsV]), ok _ (by simp [wsV])⟩
  have h2 := hd.2.2
  rw [h] at h2
  exact (Option.some.inj h2).symm
theorem vx_runVW {y : MethodName} {bytes cc : ByteArray} {maxL nL mc ms n index : Nat} {ret : Option FieldType} {hh : List (Nat × Nat × Nat × Nat)} {ws : List Cond} {rm : Room} {Pc : Array Value → State → Prop} {Qc : Array Value → State → Outcome → State → Prop} {free : Addr → Prop} {Ts : List Cond} {own C : String} {b : Addr} {As rest : List Value} {g : JFrame}
    (S : CallFix p m c cc nL s args Ts own) (hM : Met l y ws rm Pc Qc mc ms free) (cw : vx_CVW R s args own C index y bytes maxL ret hh ws rm mc ms n) (hp : PreV s H C b Pc As)
    (hg : g.method = m) (hn : As.length = n) (hsize : g.locals.size = nL) (hstack : g.stack = As.reverse ++ .ref b :: rest) (hW : 2 * g.monitorRoom + (rest.map fun v => v.category).sum ≤ 8) (hdg : decode cc g.pc = .ok (.invokevirtual index, 3)) (hf : cells + mc ≤ R.cells ∧ slots + ms ≤ R.slots) :
    va_Run p l e R s m args below meth c H locs cells slots mc ms g rest (Qc (Value.ref b :: As).toArray) free := by
  obtain ⟨⟨hrc, hrs, hfr, hlo, hws, hcw⟩, hcode, hini, hy, hlen, hl, hin, hse⟩ := cw
  have hK : Back l R p e below s args y 3 8 (PreOf R mc ms Pc) (PostOf Qc mc ms free) := va_backW (hh := hh) (bytes := bytes) (maxL := maxL) (ret := ret) hM hp.1 hrc hrs hfr hlo hws hcw (fun a' U hW => word_at hW (Or.inl (by first | rfl | simp [Cond.onTables, Cond.keeps, Cond.steady])) hini)
  obtain ⟨hx, hb, hml, ho, -⟩ := S
  obtain ⟨-, ⟨cellB, hcB, hoB, hclB⟩, hPc⟩ := hp
  intro T hT X
  obtain ⟨v, vm₁, ⟨U', l2, c2, s2⟩, hW₁, X', ⟨g', mk, t, L, e1, e2, hq, h1, hL, h2, h3⟩, st⟩ := vx_callVW X hx (C := C) (hh := hh) (bytes := bytes) (maxL := maxL) (ret := ret) ho hl hin hse hcode hy hK (by rw [hT]; exact hcB) hoB hclB hg (hsize.trans hml.symm) (argsL := As) (rest := rest) (fun sig h => hn.trans (hlen sig h)) hstack hW (by rw [hb]; exact hdg)
    (fun vm₁ hW₁ => ⟨hf.1, hf.2, hPc (T.setVm vm₁) hT hW₁⟩)
  dsimp only [Pt.U, Pt.locs, Pt.cells, Pt.slots] at X' e1 e2 h1 h2 h3 st
  subst h1; subst h2; subst h3
  exact ⟨v, (T.setVm vm₁).calling g' mk (Value.ref b :: As).toArray, t, U', L, hT, X', hL, e1, e2, hq, st⟩
section
variable {y : MethodName} {bytes cc : ByteArray} {maxL nL mc ms n index : Nat} {ret : Option FieldType} {ws : List Cond} {rm : Room} {Pc : Array Value → State → Prop} {Qc : Array Value → State → Outcome → State → Prop} {XC : String → State → State → Prop} {free : Addr → Prop} {Ts : List Cond} {own C : String} {b : Addr} {As rest : List Value} {g : JFrame}
theorem vx_runVX {hh : List (Nat × Nat × Nat × Nat)} (S : CallFix p m c cc nL s args Ts own) (hM : vx_Met l y ws rm Pc Qc XC mc ms free) (cw : vx_CVW R s args own C index y bytes maxL ret hh ws rm mc ms n) (hp : PreV s H C b Pc As)
    (hg : g.method = m) (hn : As.length = n) (hsize : g.locals.size = nL) (hstack : g.stack = As.reverse ++ .ref b :: rest) (hW : 2 * g.monitorRoom + (rest.map fun v => v.category).sum ≤ 8) (hdg : decode cc g.pc = .ok (.invokevirtual index, 3)) (hf : cells + mc ≤ R.cells ∧ slots + ms ≤ R.slots) :
    vx_Run p l e R s m args below meth c H locs cells slots mc ms g rest (Qc (Value.ref b :: As).toArray) XC free := by
  obtain ⟨⟨hrc, hrs, hfr, hlo, hws, hcw⟩, hcode, hini, hy, hlen, hl, hin, hse⟩ := cw
  have hK : vx_Back l R p e below s args y 3 8 (PreOf R mc ms Pc) (PostOf Qc mc ms free) (vx_Post XC mc ms free) := vx_backW (hh := hh) (bytes := bytes) (maxL := maxL) (ret := ret) hM hp.1 hrc hrs hfr hlo hws hcw (fun a' U hW => word_at hW (Or.inl (by first | rfl | simp [Cond.onTables, Cond.keeps, Cond.steady])) hini)
  obtain ⟨hx, hb, hml, ho, -⟩ := S
  obtain ⟨-, ⟨cellB, hcB, hoB, hclB⟩, hPc⟩ := hp
  intro T hT X
  rcases vx_callVX X hx (C := C) (hh := hh) (bytes := bytes) (maxL := maxL) (ret := ret) ho hl hin hse hcode hy hK (by rw [hT]; exact hcB) hoB hclB hg (hsize.trans hml.symm) (argsL := As) (rest := rest) (fun sig h => hn.trans (hlen sig h)) hstack hW (by rw [hb]; exact hdg)
    (fun vm₁ hW₁ => ⟨hf.1, hf.2, hPc (T.setVm vm₁) hT hW₁⟩) with ⟨v, vm₁, ⟨U', l2, c2, s2⟩, hW₁, X', ⟨g', mk, t, L, e1, e2, hq, h1, hL, h2, h3⟩, st⟩ | ⟨q, vm₁, ⟨U', l2, c2, s2⟩, hW₁, X', ⟨g', mk, t, L, E, ce, e1, e2, hq, hce, hcv, hcl, h1, hL, h2, h3⟩, st⟩
  · dsimp only [Pt.U, Pt.locs, Pt.cells, Pt.slots] at X' e1 e2 h1 h2 h3 st
    subst h1; subst h2; subst h3
    exact Or.inl ⟨v, (T.setVm vm₁).calling g' mk (Value.ref b :: As).toArray, t, U', L, hT, X', hL, e1, e2, hq, st⟩
  · dsimp only [Pt.U, Pt.locs, Pt.cells, Pt.slots] at X' e1 e2 h1 h2 h3 st hcl
    subst h1; subst h2; subst h3
    exact Or.inr ⟨q, (T.setVm vm₁).calling g' mk (Value.ref b :: As).toArray, t, U', L, E, ce, hT, X', hL, e1, e2, hq, hce, hcv, vx_cls hW₁ hcl, st⟩
theorem vx_runSX {hh : List (Nat × Nat × Nat × Nat)} (S : CallFix p m c cc nL s args Ts own) (hM : vx_Met l y ws rm Pc Qc XC mc ms free) (cw : vx_CSW R s args own index y bytes maxL ret hh ws rm mc ms n) (hp : PreS s H Pc As)
    (hg : g.method = m) (hn : As.length = n) (hsize : g.locals.size = nL) (hstack : g.stack = As.reverse ++ rest) (hW : 2 * g.monitorRoom + (rest.map fun v => v.category).sum ≤ 8) (hdg : decode cc g.pc = .ok (.invokestatic index, 3)) (hf : cells + mc ≤ R.cells ∧ slots + ms ≤ R.slots) :
    vx_Run p l e R s m args below meth c H locs cells slots mc ms g rest (Qc As.toArray) XC free := by
  obtain ⟨⟨hrc, hrs, hfr, hlo, hws, hcw⟩, hcode, hini, hy, hlen, hl, hstt⟩ := cw
  have hK : vx_Back l R p e below s args y 3 8 (PreOf R mc ms Pc) (PostOf Qc mc ms free) (vx_Post XC mc ms free) := vx_backW (hh := hh) (bytes := bytes) (maxL := maxL) (ret := ret) hM hp.1 hrc hrs hfr hlo hws hcw (fun a' U hW => word_at hW (Or.inl (by first | rfl | simp [Cond.onTables, Cond.keeps, Cond.steady])) hini)
  obtain ⟨hx, hb, hml, ho, -⟩ := S
  intro T hT X
  rcases vx_callSX X hx (hh := hh) (bytes := bytes) (maxL := maxL) (ret := ret) ho hl hstt hini hcode hy hK hg (hsize.trans hml.symm) (argsL := As) (rest := rest) (fun sig h => hn.trans (hlen sig h)) hstack hW (by rw [hb]; exact hdg)
    (fun vm₁ hW₁ => ⟨hf.1, hf.2, hp.2 (T.setVm vm₁) hT hW₁⟩) with ⟨v, vm₁, ⟨U', l2, c2, s2⟩, hW₁, X', ⟨g', mk, t, L, e1, e2, hq, h1, hL, h2, h3⟩, st⟩ | ⟨q, vm₁, ⟨U', l2, c2, s2⟩, hW₁, X', ⟨g', mk, t, L, E, ce, e1, e2, hq, hce, hcv, hcl, h1, hL, h2, h3⟩, st⟩
  · dsimp only [Pt.U, Pt.locs, Pt.cells, Pt.slots] at X' e1 e2 h1 h2 h3 st
    subst h1; subst h2; subst h3
    exact Or.inl ⟨v, (T.setVm vm₁).calling g' mk As.toArray, t, U', L, hT, X', hL, e1, e2, hq, st⟩
  · dsimp only [Pt.U, Pt.locs, Pt.cells, Pt.slots] at X' e1 e2 h1 h2 h3 st hcl
    subst h1; subst h2; subst h3
    exact Or.inr ⟨q, (T.setVm vm₁).calling g' mk As.toArray, t, U', L, E, ce, hT, X', hL, e1, e2, hq, hce, hcv, vx_cls hW₁ hcl, st⟩
end
end VXH
theorem vx_ofWH {l : Launch} {y : MethodName} {ws ws' : List Cond} {rm : Room} {Pc : Array Value → State → Prop} {Qc : Array Value → State → Outcome → State → Prop} {XC : String → State → State → Prop} {mc ms : Nat} {free : Addr → Prop} {cc : ByteArray} {maxL : Nat} {ret : Option FieldType} {hh : List (Nat × Nat × Nat × Nat)}
    (hy : plainName y.cls = true) (hw : ws = Cond.codeWith y cc maxL ret hh :: ws')
    (body : ∀ p e s m args below meth c s₁, BodyLoose p l y (headSpec ws rm) cc maxL ret e s m args below meth c s₁ → c.maxLocals = maxL → Pc args s →
      W p l e (headSpec ws rm).room s m args below meth c s.heap [] 0 0 (vx_MQ below Qc XC args s mc ms free) (entryFrame m args maxL)) : vx_Met l y ws rm Pc Qc XC mc ms free := by
  refine MetFree.of_bodyS (code := cc) (maxLocals := maxL) (ret := ret) hy ?_ ?_
  · intro args s m h hn
    obtain ⟨m9, meth, c, hn9, h1, h2, h3, h4, -, h5, h6, -⟩ := Cond.codeWith_spec (atoms_spec (ws := ws) h _ (by rw [hw]; exact List.mem_cons_self))
    cases hn.symm.trans hn9
    exact ⟨meth, c, h1, h2, h3, h4, h5, h6⟩
  · intro p e s m args below meth c s₁ B hml hP _
    have hh0 : s₁.heap = s.heap := by rw [B.state]; rfl
    obtain ⟨t, a1, o, b1, b2, b3⟩ := body p e s m args below meth c s₁ B hml hP s₁ hh0 (Stand.of_body B)
    exact ⟨t, o, a1, b1, b2, b3⟩
/-! ===== END ===== -/

/-! ===== BEGIN what the machine throws by itself, no traces kept ===== -/
section VXM
set_option maxHeartbeats 1000000 in
/-- the machine throws cls with the message text, no traces kept: from its note over the frame g to 'throwing' over the same frame (follows the proofs of Stand.vmThrowsMessage, Shelf/KitTracedVmS.lean, and Stand.throwsMessageColdBareV, StandMessageColdV.lean, without the step out of the frame) -/
theorem vx_vmAt {p : Program} {l : Launch} {e : Env} {R : Room} {s : State} {m₀ : MethodId} {args : Array Value} {below : List Frame} {meth : Method} {c : Code} {W : State} {locs : List Loc} {cells slots : Nat}
    (X : Stand p l e R s m₀ args below meth c W locs cells slots) (hexec : p.tables.exec = Jvm.exec) (htr : e.platform.stackTraces = false) {cls : String} {names : List String} {text : String}
    (hcls : Bundle.fit cls = true) (hnames : ∀ n ∈ names, Bundle.fit n = true) (hsoe : (cls == "java/lang/StackOverflowError") = false) (hoom : (cls == "java/lang/OutOfMemoryError") = false)
    (h : ∀ a ∈ Bundle.messageArmAtoms cls names, a.before args s = true)
    (hlocs : ∀ x ∈ locs, ∀ cell, s.heap[x.base]? = some cell → cell.vm.isStatics = false)
    (htext : (text == notModelled) = false) (hlimit : ¬ (stringBytes (stringToUtf16 text)).size > e.platform.arrayLengthLimit) (hheap : ¬ (stringBytes (stringToUtf16 text)).size * componentBytes .byte > e.platform.maxHeapBytes)
    {g : JFrame} (hg : g.method = m₀) (hsize : g.locals.size = c.maxLocals)
    (hRframes : names.length + 4 < R.frames) (hRlocals : 2 * g.monitorRoom + (g.stack.map fun v => v.category).sum + 10240 ≤ R.locals) (hshort : 13 * names.length + 55 ≤ 10240)
    (hRcells : cells + 3 ≤ R.cells) (hRslots : slots + ((stringBytes (stringToUtf16 text)).size + 4 + 6) ≤ R.slots) (hlocks : meth.locks = false) :
    ∃ (S : State) (q : Addr) (ce : Cell), (∀ target, Steps p.tables e below ((S.setTop g).pushFrame (.throwing q)) target → Steps p.tables e below ((W.setTop g).pushFrame (.throwNew cls (some text) none)) target) ∧
      Stand p l e R s m₀ args below meth c S locs (cells + 3) (slots + ((stringBytes (stringToUtf16 text)).size + 4 + 6)) ∧ S.heap[q]? = some ce ∧ s.vm.findClass cls = some ce.cls ∧ ce.vm = .none := by
  have howns : e.platform.frameOwnsMonitors = true := by rw [X.admits.platform]
  have hfin : e.platform.finalization = false := by rw [X.admits.platform]
  have hpl : e.platform.magicAccessors = ({} : Platform).magicAccessors := by rw [X.admits.platform]
  have a : ∀ x, x ∈ Bundle.messageArmAtoms cls names → x.holds args s none s [] = true := fun x hx => h x hx
  obtain ⟨T, Z0, L, -, Y⟩ := ThrowableC.of_atoms (args := args) howns hfin hpl (fun x hx => h x (by simp [Bundle.messageArmAtoms, hx]))
  obtain ⟨Z, M, LZ, LM, hnZ⟩ := Init0T.ofS_atoms (args := args) hpl L Y (fun x hx => h x (by simp [Bundle.messageArmAtoms, hx]))
  obtain ⟨P1, Ps, hlen, L1, hL, hP1m, hlink1, hlink⟩ := Bundle.chainS (args := args) hpl hnZ names cls hcls hnames (fun x hx => h x (by simp [Bundle.messageArmAtoms, hx]))
  obtain ⟨Zs, LZs, hn4, hfitv, hfitc⟩ := StringT.of_atoms (args := args) (fun x hx => h x (by simp [Bundle.messageArmAtoms, hx]))
  have hfound : s.vm.findClass cls = some P1.m.cls := findClass_of_methodNamed hP1m
  obtain ⟨c1, kX, hc1, hk, hord, -, -, hn6⟩ := Cond.instantiable_spec (a (.instantiable cls 6) (by simp [Bundle.messageArmAtoms]))
  cases Option.some.inj (hc1.symm.trans hfound)
  have hinit := Cond.initialized_spec hfound hk (a (.initialized cls) (by simp [Bundle.messageArmAtoms]))
  have hctor : kX.findMethod "<init>" "(Ljava/lang/String;)V" = some P1.m.idx := findMethod_of_methodNamed hP1m hk
  have hsel0 : selectMethod e.platform s.vm P1.m.cls T.fill0 = .method T.fill0 := by
    obtain ⟨c2, r2, m2, q1, q2, q3, q4, -⟩ := Cond.selects_spec (a (.selects cls Bundle.tFill0 Bundle.tFill0) (by simp [Bundle.messageArmAtoms]))
    cases Option.some.inj (q1.symm.trans hfound)
    cases Option.some.inj (q2.symm.trans (State.methodFound?_of_named Y.fill0 (by decide)))
    cases Option.some.inj (q3.symm.trans Y.fill0)
    rw [Launch.admits_selectMethod X.admits]; exact q4
  have hselF : selectMethod e.platform s.vm P1.m.cls T.fill = .method T.fill := by
    obtain ⟨c2, r2, m2, q1, q2, q3, q4, -⟩ := Cond.selects_spec (a (.selects cls Bundle.tFill Bundle.tFill) (by simp [Bundle.messageArmAtoms]))
    cases Option.some.inj (q1.symm.trans hfound)
    cases Option.some.inj (q2.symm.trans (State.methodFound?_of_named Y.fill (by decide)))
    cases Option.some.inj (q3.symm.trans Y.fill)
    rw [Launch.admits_selectMethod X.admits]; exact q4
  obtain ⟨cellS0, hcS0, hiss⟩ := Y.statics
  obtain ⟨u0, hu0⟩ := Cond.staticRefV Y.unassigned L.unassignedStatic L.statics hcS0 hiss (a (.isRef (.static Bundle.tN "UNASSIGNED_STACK" Bundle.steD)) (by simp [Bundle.messageArmAtoms]))
  obtain ⟨sen, hsen⟩ := Cond.staticRefV Y.sentinel L.sentinelStatic L.statics hcS0 hiss (a (.isRef (.static Bundle.tN "SUPPRESSED_SENTINEL" Bundle.listD)) (by simp [Bundle.messageArmAtoms]))
  obtain ⟨ci198, i198, fB, hk198, hg198, ha198, hsB, -, hnB, htB, hffB⟩ := Cond.ownField (t := .object "java/lang/Object") Y.found L.cls (by decide +kernel) (a (.fieldLink Bundle.tN 198 Bundle.tN "backtrace" "Ljava/lang/Object;") (by simp [Bundle.messageArmAtoms])) (a (.lays Bundle.tN Bundle.tN "backtrace" "Ljava/lang/Object;") (by simp [Bundle.messageArmAtoms])) e.platform hpl
  obtain ⟨cellS, hcS', heS, -, hkeep⟩ := X.same.2.2.2.2.2 T.aS cellS0 hcS0
  have hcellS : W.heap[T.aS]? = some cellS := hcS'
  have hout' : ∀ i, (⟨T.aS, i⟩ : Loc) ∉ locs := fun i hmem => by
    have := hlocs _ hmem cellS0 hcS0
    rw [hiss] at this; cases this
  have hknownS : cellS.vm ≠ .unknown := by
    rw [heS]; intro hu
    rw [show cellS0.vm = .unknown from hu] at hiss
    cases hiss
  have hvU : cellS.slots[T.fUnassigned.slot]? = some u0.v := by rw [hkeep _ (hout' _)]; exact hu0
  have hvSen : cellS.slots[T.fSentinel.slot]? = some sen.v := by rw [hkeep _ (hout' _)]; exact hsen
  obtain ⟨iM, hffM⟩ := Y.msg
  obtain ⟨tyC, dC, hdC, hdnC⟩ := Cond.laysAt hfound hk Y.cause (a (.lays cls Bundle.tN "cause" "Ljava/lang/Throwable;") (by simp [Bundle.messageArmAtoms]))
  obtain ⟨tyS, dS, hdS, hdnS⟩ := Cond.laysAt hfound hk Y.stack (a (.lays cls Bundle.tN "stackTrace" Bundle.steD) (by simp [Bundle.messageArmAtoms]))
  obtain ⟨tyP, dP, hdP, hdnP⟩ := Cond.laysAt hfound hk Y.supp (a (.lays cls Bundle.tN "suppressedExceptions" Bundle.listD) (by simp [Bundle.messageArmAtoms]))
  obtain ⟨tyM, dM, hdM, hdnM⟩ := Cond.laysAt hfound hk hffM (a (.lays cls Bundle.tN "detailMessage" "Ljava/lang/String;") (by simp [Bundle.messageArmAtoms]))
  obtain ⟨tyB, dB, hdB, hdnB⟩ := Cond.laysAt hfound hk hffB (a (.lays cls Bundle.tN "backtrace" "Ljava/lang/Object;") (by simp [Bundle.messageArmAtoms]))
  have bC := Cond.laysApart hdB hdC hdnB hdnC (by rw [hnB, Y.causeName]; decide)
  have bS := Cond.laysApart hdB hdS hdnB hdnS (by rw [hnB, Y.stackName]; decide)
  have bP := Cond.laysApart hdB hdP hdnB hdnP (by rw [hnB, Y.suppName]; decide)
  have hbk : ((preparedCellV T.toThrowableT (freshCell P1.m.cls kX) (W.heap.size + 2) u0 sen).withEntry W.cur).slots[fB.slot]? = some .null := by
    have := fresh_default (c := P1.m.cls) tyB
    rw [htB] at this
    simpa [preparedCellV, Cell.setSlot, Cell.withEntry, Array.getElem?_setIfInBounds, bC, bS, bP, bC.symm, bS.symm, bP.symm, defaultValue] using this
  have tkC := Takes.of_laid (v := .ref (W.heap.size + 2)) hk hord tyC (by rw [Y.causeType]; rfl)
  have tkS := Takes.of_laid (v := u0.v) hk hord tyS (by rw [Y.stackType]; exact fits_refV_array _ u0)
  have tkP := Takes.of_laid (v := sen.v) hk hord tyP (by rw [Y.suppType]; exact fits_refV_object _ sen)
  have tkM := Takes.of_laid (v := .ref (W.heap.size + 1)) hk hord tyM (by rw [Y.msgType]; rfl)
  have hskip : SkipFacts T e.platform s (fun u => u) u0 ((preparedCellV T.toThrowableT (freshCell P1.m.cls kX) (W.heap.size + 2) u0 sen).withEntry W.cur) := ⟨{ ci198 := ci198, i198 := i198, fBack := fB }, ⟨hk198, hg198, ha198, hsB⟩, hbk, fun _ _ => rfl⟩
  have h0 : At W g.method c below := by rw [hg]; exact X.here
  obtain ⟨hbeyond, hfreeW⟩ := X.vmMayThrow hsize (.throwNew cls (some text) none) (fun f hf => by cases hf) rfl hRlocals
  have hfr' : W.frames.length + Ps.length + 4 < (e.platform.stackLimits W.me).1 := by have := X.framesAbove hRframes; omega
  have hwd' : (stackUse (.java g :: W.frames.tail)).2 + 13 * Ps.length + 55 ≤ (e.platform.stackLimits W.me).2 := by have := X.stackAbove hsize (K := 13 * Ps.length + 55) (by omega); omega
  have hslots : W.slotsUsed + (stringBytes (stringToUtf16 text)).size + Zs.kS.instanceTypes.size + kX.instanceTypes.size ≤ e.platform.maxSlots := by
    have := X.slotsAbove hRslots
    rw [hn4, hn6]
    omega
  obtain ⟨vm', hW', st⟩ := Steps.vmThrowsMessageColdByV p (s₀ := s) (S := W) (g := g) h0 hexec T L Z LZ M LM X.warmed (t := W.cur) rfl Zs LZs P1 L1 Ps hL hlink1 hlink hsoe hoom hfound hk hinit hord hctor
    (Launch.admits_hotImplicitExceptions X.admits) hbeyond hfreeW htext hlimit hheap (X.cellsAbove hRcells) hslots (hfitv _) (hfitc _)
    (Nn := fun u => u) heapOnly_id (fun _ _ => rfl) (fun _ => rfl) (fun u x y => setCell_twice _ _ _ _) (fun _ => Nat.le_refl _) (cN := ((preparedCellV T.toThrowableT (freshCell P1.m.cls kX) (W.heap.size + 2) u0 sen).withEntry W.cur))
    hsel0 hcellS hknownS hvU tkS (fun _ hu => hu) (fun _ hu => hu) rfl rfl rfl (by simp [preparedCellV, Cell.setSlot, Cell.withEntry]) hskip (fun _ _ hA hW _ hroom _ hrest => L.nativeOff p htr hA hW hroom hrest) hselF hvSen tkC tkP tkM Y.objLocals rfl hfr' hwd'
  rw [plainBareV_eq T.toThrowableT (W.heap.size + 2) u0 sen (.ref (W.heap.size + 1)) W.cur rfl rfl] at st
  obtain ⟨-, -, w3, w4, -, -, -⟩ := withThrown_facts e.platform W Zs text P1.m.cls kX
  have X3 := ((X.pushed (bytesOf Zs.cB (stringToUtf16 text))).pushed (stringAt Zs.cS Zs.kS Zs.fv Zs.fc (stringToUtf16 text) W.heap.size)).pushed (freshCell P1.m.cls kX)
  rw [← withString_eq] at X3
  have X4 := X3.noted hW'
  have ha : (W.heap.size + 2) < ((withThrown W Zs text P1.m.cls kX).setVm vm').heap.size := by show _ < (withThrown W Zs text P1.m.cls kX).heap.size; rw [w3]; omega
  have hcell : ((withThrown W Zs text P1.m.cls kX).setVm vm').heap[(W.heap.size + 2)]? = some (freshCell P1.m.cls kX) := w4
  have X5 := ((((X4.stored hcell T.fCause.slot (.ref (W.heap.size + 2))).storedAgain ha T.fStack.slot u0.v).storedAgain ha T.fSupp.slot sen.v).storedAgain ha T.fStack.slot u0.v).storedAgain ha T.fMsg.slot (.ref (W.heap.size + 1))
  obtain ⟨g₁, hfrM⟩ := X5.frames_eq
  have hU : ((((withThrown W Zs text P1.m.cls kX).setVm vm').setCell (W.heap.size + 2) (plainBareV T.toThrowableT (freshCell P1.m.cls kX) (W.heap.size + 2) u0 sen (.ref (W.heap.size + 1)))).setTop g).pushFrame (.throwing (W.heap.size + 2)) = (((withThrown W Zs text P1.m.cls kX).setVm vm').setCell (W.heap.size + 2) (plainBareV T.toThrowableT (freshCell P1.m.cls kX) (W.heap.size + 2) u0 sen (.ref (W.heap.size + 1)))).setFrames (.throwing (W.heap.size + 2) :: .java g :: below) := by
    rw [State.pushFrame, State.frames_setTop _ hfrM, State.setTop_of_frames _ hfrM, State.setFrames_setFrames]
  have b1 : (bytesOf Zs.cB (stringToUtf16 text)).slots.size = (stringBytes (stringToUtf16 text)).size := by
    rw [(Cell.writeAll_facts _ _).2.2]; simp [bytes0]
  have b2 : (stringAt Zs.cS Zs.kS Zs.fv Zs.fc (stringToUtf16 text) W.heap.size).slots.size = 4 := by simp [string0, Cell.setSlot, hn4]
  have b3 : (freshCell P1.m.cls kX).slots.size = 6 := by simp [hn6]
  rw [b1, b2, b3] at X5
  have e9 : slots + (stringBytes (stringToUtf16 text)).size + 4 + 6 = slots + ((stringBytes (stringToUtf16 text)).size + 4 + 6) := by omega
  rw [e9] at X5
  simp only [List.append_assoc, List.cons_append, List.nil_append] at X5
  refine ⟨((withThrown W Zs text P1.m.cls kX).setVm vm').setCell (W.heap.size + 2) (plainBareV T.toThrowableT (freshCell P1.m.cls kX) (W.heap.size + 2) u0 sen (.ref (W.heap.size + 1))), W.heap.size + 2, _, fun target ht => st _ (by rw [X.tail, ← hU]; exact ht),
    X5.forget (fun y hy => ?_), heapAt_setCell_self _ ha, hfound, rfl⟩
  simp only [List.mem_cons, List.not_mem_nil, or_false] at hy
  have hge : s.heap.size ≤ W.heap.size := X.same.2.1
  rcases hy with rfl | rfl | rfl | rfl | rfl <;> exact Nat.le_trans hge (Nat.le_add_right _ 2)
set_option maxHeartbeats 1000000 in
/-- the machine throws NullPointerException, no traces kept: from its note over the frame g to 'throwing' over the same frame (follows the proof of Stand.vmThrowsNpe, Shelf42/KT2.lean; throwsNpeColdBareVAt, Shelf42/NT91.lean, called) -/
theorem vx_npeAt {p : Program} {l : Launch} {e : Env} {R : Room} {s : State} {m₀ : MethodId} {args : Array Value} {below : List Frame} {meth : Method} {c : Code} {W : State} {locs : List Loc} {cells slots : Nat}
    (X : Stand p l e R s m₀ args below meth c W locs cells slots) (hexec : p.tables.exec = Jvm.exec) (htr : e.platform.stackTraces = false) {n : Nat}
    (h : ∀ a ∈ Bundle.npeArmAtoms n, a.before args s = true)
    (hlocs : ∀ x ∈ locs, ∀ cell, s.heap[x.base]? = some cell → cell.vm.isStatics = false)
    {g : JFrame} (hg : g.method = m₀) (hsize : g.locals.size = c.maxLocals)
    (hRframes : 7 < R.frames) (hRlocals : 2 * g.monitorRoom + (g.stack.map fun v => v.category).sum + 10240 ≤ R.locals)
    (hRcells : cells + 1 ≤ R.cells) (hRslots : slots + n ≤ R.slots) (hlocks : meth.locks = false) :
    ∃ (S : State) (q : Addr) (ce : Cell), (∀ target, Steps p.tables e below ((S.setTop g).pushFrame (.throwing q)) target → Steps p.tables e below ((W.setTop g).pushFrame (.throwNew "java/lang/NullPointerException" none none)) target) ∧
      Stand p l e R s m₀ args below meth c S locs (cells + 1) (slots + n) ∧ S.heap[q]? = some ce ∧ s.vm.findClass "java/lang/NullPointerException" = some ce.cls ∧ ce.vm = .none := by
  have howns : e.platform.frameOwnsMonitors = true := by rw [X.admits.platform]
  have hfin : e.platform.finalization = false := by rw [X.admits.platform]
  have hpl : e.platform.magicAccessors = ({} : Platform).magicAccessors := by rw [X.admits.platform]
  have hpl2 : e.platform.arrayCloneIsPublic = true := by rw [X.admits.platform]
  have a' : ∀ x, x ∈ Bundle.npeArmAtoms n → x.holds args s none s [] = true := fun x hx => h x hx
  obtain ⟨T, Z, L, LZ, Y⟩ := ThrowableC.of_atoms (args := args) howns hfin hpl (fun x hx => h x (by simp [Bundle.npeArmAtoms, hx]))
  obtain ⟨N, LN, hcN, hnNF, hordN, hffS⟩ := NpeC.of_atoms (args := args) hpl hpl2 L Y (fun x hx => h x (by simp [Bundle.npeArmAtoms, hx]))
  obtain ⟨P1, L1, hP1m, hP1s⟩ := PassC.of_atoms (args := args) (s := s) hpl (X := Bundle.nN) (Y := Bundle.rN) (by decide) (by decide) LibCode.NullPointerException.Init0.at_0 LibCode.NullPointerException.Init0.at_1 LibCode.NullPointerException.Init0.at_4 (fun x hx => h x (by simp [Bundle.npeArmAtoms, hx]))
  obtain ⟨PR, LR, hPRm, hPRs⟩ := PassC.of_atoms (args := args) (s := s) hpl (X := Bundle.rN) (Y := Bundle.eN) (by decide) (by decide) LibCode.RuntimeException.Init0.at_0 LibCode.RuntimeException.Init0.at_1 LibCode.RuntimeException.Init0.at_4 (fun x hx => h x (by simp [Bundle.npeArmAtoms, hx]))
  obtain ⟨PE, LEx, hPEm, hPEs⟩ := PassC.of_atoms (args := args) (s := s) hpl (X := Bundle.eN) (Y := Bundle.tN) (by decide) (by decide) LibCode.Exception.Init0.at_0 LibCode.Exception.Init0.at_1 LibCode.Exception.Init0.at_4 (fun x hx => h x (by simp [Bundle.npeArmAtoms, hx]))
  have hfound : s.vm.findClass Bundle.nN = some P1.m.cls := findClass_of_methodNamed hP1m
  have ecls : N.cN = P1.m.cls := Option.some.inj (hcN.symm.trans hfound)
  have hk : s.vm.classes[P1.m.cls]? = some N.kN := by rw [← ecls]; exact LN.cls
  have hinit := Cond.initialized_spec hfound hk (a' (.initialized Bundle.nN) (by simp [Bundle.npeArmAtoms]))
  have hctor : N.kN.findMethod "<init>" "()V" = some P1.m.idx := findMethod_of_methodNamed hP1m hk
  obtain ⟨c1, k1, hc1, hk1, -, -, -, hn⟩ := Cond.instantiable_spec (a' (.instantiable Bundle.nN n) (by simp [Bundle.npeArmAtoms]))
  cases Option.some.inj (hc1.symm.trans hfound)
  cases Option.some.inj (hk1.symm.trans hk)
  have hfsz : (freshCell P1.m.cls N.kN).slots.size = n := by simp [hn]
  have hlink1 : P1.sup = PR.m := Option.some.inj (hP1s.symm.trans hPRm)
  have hlinkR : PR.sup = PE.m := Option.some.inj (hPRs.symm.trans hPEm)
  have hlinkE : PE.sup = Z.m T.toThrowableT := Option.some.inj (hPEs.symm.trans Y.init0)
  have hLs : ∀ P, P ∈ [PR, PE] → P.Links0 e.platform s := fun P hP => by
    simp only [List.mem_cons, List.not_mem_nil, or_false] at hP
    rcases hP with rfl | rfl
    · exact LR
    · exact LEx
  have hsel0 : selectMethod e.platform s.vm P1.m.cls T.fill0 = .method T.fill0 := by
    obtain ⟨c2, r2, m2, q1, q2, q3, q4, -⟩ := Cond.selects_spec (a' (.selects Bundle.nN Bundle.tFill0 Bundle.tFill0) (by simp [Bundle.npeArmAtoms]))
    cases Option.some.inj (q1.symm.trans hfound)
    cases Option.some.inj (q2.symm.trans (State.methodFound?_of_named Y.fill0 (by decide)))
    cases Option.some.inj (q3.symm.trans Y.fill0)
    rw [Launch.admits_selectMethod X.admits]; exact q4
  have hselF : selectMethod e.platform s.vm P1.m.cls T.fill = .method N.fill := by
    obtain ⟨c2, r2, m2, q1, q2, q3, q4, -⟩ := Cond.selects_spec (a' (.selects Bundle.nN Bundle.tFill Bundle.nFill) (by simp [Bundle.npeArmAtoms]))
    cases Option.some.inj (q1.symm.trans hfound)
    cases Option.some.inj (q2.symm.trans (State.methodFound?_of_named Y.fill (by decide)))
    cases Option.some.inj (q3.symm.trans hnNF)
    rw [Launch.admits_selectMethod X.admits]; exact q4
  obtain ⟨cellS0, hcS0, hiss⟩ := Y.statics
  obtain ⟨u0, hu0⟩ := Cond.staticRefV Y.unassigned L.unassignedStatic L.statics hcS0 hiss (a' (.isRef (.static Bundle.tN "UNASSIGNED_STACK" Bundle.steD)) (by simp [Bundle.npeArmAtoms]))
  obtain ⟨sen, hsen⟩ := Cond.staticRefV Y.sentinel L.sentinelStatic L.statics hcS0 hiss (a' (.isRef (.static Bundle.tN "SUPPRESSED_SENTINEL" Bundle.listD)) (by simp [Bundle.npeArmAtoms]))
  obtain ⟨ci198, i198, fB, hk198, hg198, ha198, hsB, -, hnB, htB, hffB⟩ := Cond.ownField (t := .object "java/lang/Object") Y.found L.cls (by decide +kernel) (a' (.fieldLink Bundle.tN 198 Bundle.tN "backtrace" Bundle.objD) (by simp [Bundle.npeArmAtoms])) (a' (.lays Bundle.tN Bundle.tN "backtrace" Bundle.objD) (by simp [Bundle.npeArmAtoms])) e.platform hpl
  obtain ⟨cellS, hcS', heS, -, hkeep⟩ := X.same.2.2.2.2.2 T.aS cellS0 hcS0
  have hcellS : W.heap[T.aS]? = some cellS := hcS'
  have hout' : ∀ i, (⟨T.aS, i⟩ : Loc) ∉ locs := fun i hmem => by
    have := hlocs _ hmem cellS0 hcS0
    rw [hiss] at this; cases this
  have hknownS : cellS.vm ≠ .unknown := by
    rw [heS]; intro hu
    rw [show cellS0.vm = .unknown from hu] at hiss
    cases hiss
  have hvU : cellS.slots[T.fUnassigned.slot]? = some u0.v := by rw [hkeep _ (hout' _)]; exact hu0
  have hvSen : cellS.slots[T.fSentinel.slot]? = some sen.v := by rw [hkeep _ (hout' _)]; exact hsen
  obtain ⟨tyC, dC, hdC, hdnC⟩ := Cond.laysAt hfound hk Y.cause (a' (.lays Bundle.nN Bundle.tN "cause" "Ljava/lang/Throwable;") (by simp [Bundle.npeArmAtoms]))
  obtain ⟨tyS, dS, hdS, hdnS⟩ := Cond.laysAt hfound hk Y.stack (a' (.lays Bundle.nN Bundle.tN "stackTrace" Bundle.steD) (by simp [Bundle.npeArmAtoms]))
  obtain ⟨tyP, dP, hdP, hdnP⟩ := Cond.laysAt hfound hk Y.supp (a' (.lays Bundle.nN Bundle.tN "suppressedExceptions" Bundle.listD) (by simp [Bundle.npeArmAtoms]))
  obtain ⟨tyX, dX, hdX, hdnX⟩ := Cond.laysAt hfound hk hffS (a' (.lays Bundle.nN Bundle.nN "extendedMessageState" "I") (by simp [Bundle.npeArmAtoms, Bundle.npeAtoms]))
  obtain ⟨hnX, htX⟩ := State.fieldFound?_type hffS (t := .int) (by decide +kernel)
  have xC := Cond.laysApart hdC hdX hdnC hdnX (by rw [hnX, Y.causeName]; decide)
  have xS := Cond.laysApart hdS hdX hdnS hdnX (by rw [hnX, Y.stackName]; decide)
  have xP := Cond.laysApart hdP hdX hdnP hdnX (by rw [hnX, Y.suppName]; decide)
  have hv0 : (freshCell P1.m.cls N.kN).slots[N.fState.slot]? = some (.int 0) := by
    have := fresh_default (c := P1.m.cls) tyX
    rw [htX] at this; exact this
  obtain ⟨tyB, dB, hdB, hdnB⟩ := Cond.laysAt hfound hk hffB (a' (.lays Bundle.nN Bundle.tN "backtrace" Bundle.objD) (by simp [Bundle.npeArmAtoms]))
  have bC := Cond.laysApart hdB hdC hdnB hdnC (by rw [hnB, Y.causeName]; decide)
  have bS := Cond.laysApart hdB hdS hdnB hdnS (by rw [hnB, Y.stackName]; decide)
  have bP := Cond.laysApart hdB hdP hdnB hdnP (by rw [hnB, Y.suppName]; decide)
  have bX := Cond.laysApart hdB hdX hdnB hdnX (by rw [hnB, hnX]; decide)
  have hbk : ((npeCell N.toNpeT (preparedCellV T.toThrowableT (freshCell P1.m.cls N.kN) W.heap.size u0 sen) W.cur).withEntry W.cur).slots[fB.slot]? = some .null := by
    have := fresh_default (c := P1.m.cls) tyB
    rw [htB] at this
    simpa [npeCell, preparedCellV, Cell.setSlot, Cell.withEntry, Array.getElem?_setIfInBounds, bC, bS, bP, bX, bC.symm, bS.symm, bP.symm, bX.symm, defaultValue] using this
  have tkC := Takes.of_laid (v := .ref W.heap.size) hk hordN tyC (by rw [Y.causeType]; rfl)
  have tkS := Takes.of_laid (v := u0.v) hk hordN tyS (by rw [Y.stackType]; exact fits_refV_array _ u0)
  have tkP := Takes.of_laid (v := sen.v) hk hordN tyP (by rw [Y.suppType]; exact fits_refV_object _ sen)
  have tkX := Takes.of_laid (v := .int 1) hk hordN tyX (by rw [htX]; rfl)
  have hskip : SkipFacts T e.platform s (fun u => u) u0 ((npeCell N.toNpeT (preparedCellV T.toThrowableT (freshCell P1.m.cls N.kN) W.heap.size u0 sen) W.cur).withEntry W.cur) := ⟨{ ci198 := ci198, i198 := i198, fBack := fB }, ⟨hk198, hg198, ha198, hsB⟩, hbk, fun _ _ => rfl⟩
  obtain ⟨vm', X3, st, -⟩ := X.throwsNpeColdBareVAt hexec hg hsize T L Z LZ N LN P1 L1 [PR, PE] hLs hlink1 ⟨hlinkR, hlinkE, trivial⟩ hfound hk hinit hordN hctor hsel0 hselF hcellS hknownS hvU hvSen
    hv0 xC xS xP tkC tkS tkP tkX Y.objLocals hskip (fun _ _ hA hW _ hroom _ hrest => L.nativeOff p htr hA hW hroom hrest) (by simpa using hRframes) hRlocals (by simp) hRcells (by rw [hn]; exact hRslots)
  have hlt : W.heap.size < ((W.pushCell (freshCell P1.m.cls N.kN)).setVm vm').heap.size := by
    show W.heap.size < (W.pushCell (freshCell P1.m.cls N.kN)).heap.size
    rw [State.heap_size_pushCell]; omega
  rw [hfsz] at X3
  obtain ⟨g₁, hfrM⟩ := X3.frames_eq
  have hU : ((((W.pushCell (freshCell P1.m.cls N.kN)).setVm vm').setCell W.heap.size (npeBareV T.toThrowableT N.toNpeT (freshCell P1.m.cls N.kN) W.heap.size u0 sen)).setTop g).pushFrame (.throwing W.heap.size) = (((W.pushCell (freshCell P1.m.cls N.kN)).setVm vm').setCell W.heap.size (npeBareV T.toThrowableT N.toNpeT (freshCell P1.m.cls N.kN) W.heap.size u0 sen)).setFrames (.throwing W.heap.size :: .java g :: below) := by
    rw [State.pushFrame, State.frames_setTop _ hfrM, State.setTop_of_frames _ hfrM, State.setFrames_setFrames]
  refine ⟨_, W.heap.size, _, fun target ht => st.trans (by rw [← hU]; exact ht), X3.forget (fun y hy => ?_), heapAt_setCell_self _ hlt, hfound, rfl⟩
  simp only [List.mem_cons, List.not_mem_nil, or_false] at hy
  have hge : s.heap.size ≤ W.heap.size := X.same.2.1
  rcases hy with rfl | rfl | rfl | rfl | rfl <;> exact hge
/-- the words of a machine's NullPointerException, but the four that speak of the heap -/
def vx_atN (n : Nat) : List Cond := (Bundle.npeArmAtoms n).filter vx_no
/-- the words of a machine's throw with a message, but the four that speak of the heap -/
def vx_atM (X : String) (names : List String) : List Cond := (Bundle.messageArmAtoms X names).filter vx_no
section
variable {p : Program} {l : Launch} {e : Env} {R : Room} {s : State} {m : MethodId} {args : Array Value} {below : List Frame} {meth : Method} {c : Code} {H : Heap} {locs : List Loc} {cells slots : Nat}
/-- a frame seen from a rebased start, seen from the first start again -/
theorem vx_back9 {T S : State} {R' : Room} {k n : Nat} (X : Stand p l e R s m args below meth c T locs cells slots) (Y : Stand p l e R' ((T.setVm s.vm).setFrames (.invoking m args :: below)) m args below meth c T [] 0 0) (Z : Stand p l e R' ((T.setVm s.vm).setFrames (.invoking m args :: below)) m args below meth c S [] k n) :
    Stand p l e R s m args below meth c S locs (cells + k) (slots + n) := by
  have hW0 : s.WarmedH ((T.setVm s.vm).setFrames (.invoking m args :: below)).vm := State.WarmedH.refl s
  refine { admits := X.admits, cas := X.cas, clock := X.clock, frames := X.frames, room := X.room, hears := X.hears, method := X.method, code := X.code, here := Z.here, tail := Z.tail, warmed := State.WarmedH.trans hW0 Z.warmed, limits := Z.limits.trans (Y.limits.symm.trans X.limits), bytes := Z.bytes.trans (Y.bytes.symm.trans X.bytes), same := ?_ }
  obtain ⟨e1, e2⟩ := Z.same
  rw [State.setFrames_setFrames] at e1
  have h2 : (T.setVm s.vm).sameButNew (S.setVm s.vm) [] k n := ⟨e1, e2⟩
  have h3 := X.same.trans h2
  rw [List.append_nil] at h3
  exact h3
/-- from the machine's note that E is thrown here with this text -/
def vx_Note (p : Program) (l : Launch) (e : Env) (R : Room) (s : State) (m : MethodId) (args : Array Value) (below : List Frame) (meth : Method) (c : Code) (H : Heap) (locs : List Loc) (cells slots : Nat) (Q : State → Prop) (g : JFrame) (E text : String) : Prop :=
  ∀ T : State, T.heap = H → Stand p l e R s m args below meth c T locs cells slots → ∃ t, Steps p.tables e below ((T.setTop g).pushFrame (.throwNew E (some text) none)) t ∧ Q t
theorem vx_vm {pc : Nat} {ls : Array Slot} {rest : List Value} {Q : State → Prop} (hexec : p.tables.exec = Jvm.exec) (hl : l.stackTraces = false) {cls text : String} {names : List String} {nb : Nat} {A : Nat → Prop}
    (hcls : Bundle.fit cls = true) (hnames : ∀ n ∈ names, Bundle.fit n = true) (hsoe : (cls == "java/lang/StackOverflowError") = false) (hoom : (cls == "java/lang/OutOfMemoryError") = false)
    (hat : ∀ w ∈ vx_atM cls names, w.before args s = true) (hgood : ∀ w ∈ vx_atM cls names, vx_ot w = true)
    (hU : vx_Zq Bundle.tN "UNASSIGNED_STACK" Bundle.steD A s s.heap) (hN : vx_Zq Bundle.tN "SUPPRESSED_SENTINEL" Bundle.listD A s s.heap) (hS : va_S A s.heap H locs) (hsize : ls.size = c.maxLocals)
    (htext : (text == notModelled) = false) (hnb : (stringBytes (stringToUtf16 text)).size ≤ nb) (hnb1 : nb ≤ 1000)
    (hRframes : names.length + 4 < R.frames) (hRlocals : (rest.map fun v => v.category).sum + 10240 ≤ R.locals) (hshort : 13 * names.length + 55 ≤ 10240) (hRcells : cells + 3 ≤ R.cells) (hRslots : slots + (nb + 10) ≤ R.slots) (hlocks : meth.locks = false)
    (k : ∀ (H1 : Heap) (q9 : Addr) (ce : Cell), H.size ≤ H1.size → (∀ q : Nat, q < H.size → H1[q]? = H[q]?) → va_S A s.heap H1 locs → H1[q9]? = some ce → ce.vm = .none → s.vm.findClass cls = some ce.cls → vx_W p l e R s m args below meth c H1 locs (cells + 3) (slots + (nb + 10)) Q (F0 m pc ls rest) q9) :
    vx_Note p l e R s m args below meth c H locs cells slots Q (F0 m pc ls rest) cls text := by
  intro T hT X
  have htr : e.platform.stackTraces = false := (show e.platform.stackTraces = l.stackTraces by rw [X.admits.platform]).trans hl
  have Y := vx_rebase X (R' := { frames := R.frames, locals := R.locals, cells := 3, slots := nb + 10 }) (Nat.le_refl _) (Nat.le_refl _) hRcells hRslots
  have hhp : ((T.setVm s.vm).setFrames (.invoking m args :: below)).heap = H := hT
  have hW0 : s.WarmedH ((T.setVm s.vm).setFrames (.invoking m args :: below)).vm := State.WarmedH.refl s
  have hat' : ∀ w ∈ vx_atM cls names, w.before args ((T.setVm s.vm).setFrames (.invoking m args :: below)) = true := fun w hw => vx_ot_at hW0 rfl (hgood w hw) (hat w hw)
  have hU' : vx_Zq Bundle.tN "UNASSIGNED_STACK" Bundle.steD A ((T.setVm s.vm).setFrames (.invoking m args :: below)) ((T.setVm s.vm).setFrames (.invoking m args :: below)).heap := by rw [hhp]; exact vx_Zq.moved hW0.alike (hU.kept hS.2.1)
  have hN' : vx_Zq Bundle.tN "SUPPRESSED_SENTINEL" Bundle.listD A ((T.setVm s.vm).setFrames (.invoking m args :: below)) ((T.setVm s.vm).setFrames (.invoking m args :: below)).heap := by rw [hhp]; exact vx_Zq.moved hW0.alike (hN.kept hS.2.1)
  obtain ⟨S, q, ce, st, Z, hce, hcl', hv⟩ := vx_vmAt Y hexec htr (cls := cls) (names := names) (text := text) hcls hnames hsoe hoom (vx_own hat' (vx_isRefq hU'.1) (vx_isRefq hN'.1) hU'.2.word hN'.2.word) (fun x hx => nomatch hx) htext
    (by rw [Launch.admits_arrayLengthLimit X.admits]; omega) (by rw [Launch.admits_maxHeapBytes X.admits]; simp only [componentBytes]; omega)
    (g := F0 m pc ls rest) rfl hsize hRframes (by show 2 * 0 + (rest.map fun v => v.category).sum + 10240 ≤ R.locals; omega) hshort (by show 0 + 3 ≤ 3; omega) (by show 0 + (_ + 4 + 6) ≤ nb + 10; omega) hlocks
  obtain ⟨f1, f2⟩ := vx_frame Z.same
  have f1' : H.size ≤ S.heap.size := by rw [← hT]; exact f1
  have f2' : ∀ q : Nat, q < H.size → S.heap[q]? = H[q]? := fun q hq => by
    rw [← hT]
    exact f2 q (by rw [← hT] at hq; exact hq) (fun z hz => nomatch hz)
  have X5 := vx_back9 X Y Z
  have X6 : Stand p l e R s m args below meth c S locs (cells + 3) (slots + (nb + 10)) := { X5 with same := X5.same.mono (by omega) (by omega) }
  obtain ⟨t, a1, b1⟩ := k S.heap q ce f1' f2' ⟨Nat.le_trans hS.1 f1', fun q h1 h2 => (f2' q (Nat.lt_of_lt_of_le h1 hS.1)).trans (hS.2.1 q h1 h2), hS.2.2⟩ hce hv hcl' S rfl X6
  exact ⟨t, st t a1, b1⟩
/-- from the machine's note that NullPointerException is thrown here -/
def vx_NoteN (p : Program) (l : Launch) (e : Env) (R : Room) (s : State) (m : MethodId) (args : Array Value) (below : List Frame) (meth : Method) (c : Code) (H : Heap) (locs : List Loc) (cells slots : Nat) (Q : State → Prop) (g : JFrame) : Prop :=
  ∀ T : State, T.heap = H → Stand p l e R s m args below meth c T locs cells slots → ∃ t, Steps p.tables e below ((T.setTop g).pushFrame (.throwNew "java/lang/NullPointerException" none none)) t ∧ Q t
theorem vx_npe {pc : Nat} {ls : Array Slot} {rest : List Value} {Q : State → Prop} (hexec : p.tables.exec = Jvm.exec) (hl : l.stackTraces = false) {nb : Nat} {A : Nat → Prop}
    (hat : ∀ w ∈ vx_atN nb, w.before args s = true) (hgood : ∀ w ∈ vx_atN nb, vx_ot w = true)
    (hU : vx_Zq Bundle.tN "UNASSIGNED_STACK" Bundle.steD A s s.heap) (hN : vx_Zq Bundle.tN "SUPPRESSED_SENTINEL" Bundle.listD A s s.heap) (hS : va_S A s.heap H locs) (hsize : ls.size = c.maxLocals)
    (hRframes : 7 < R.frames) (hRlocals : (rest.map fun v => v.category).sum + 10240 ≤ R.locals) (hRcells : cells + 1 ≤ R.cells) (hRslots : slots + nb ≤ R.slots) (hlocks : meth.locks = false)
    (k : ∀ (H1 : Heap) (q9 : Addr) (ce : Cell), H.size ≤ H1.size → (∀ q : Nat, q < H.size → H1[q]? = H[q]?) → va_S A s.heap H1 locs → H1[q9]? = some ce → ce.vm = .none → s.vm.findClass "java/lang/NullPointerException" = some ce.cls → vx_W p l e R s m args below meth c H1 locs (cells + 1) (slots + nb) Q (F0 m pc ls rest) q9) :
    vx_NoteN p l e R s m args below meth c H locs cells slots Q (F0 m pc ls rest) := by
  intro T hT X
  have htr : e.platform.stackTraces = false := (show e.platform.stackTraces = l.stackTraces by rw [X.admits.platform]).trans hl
  have Y := vx_rebase X (R' := { frames := R.frames, locals := R.locals, cells := 1, slots := nb }) (Nat.le_refl _) (Nat.le_refl _) hRcells hRslots
  have hhp : ((T.setVm s.vm).setFrames (.invoking m args :: below)).heap = H := hT
  have hW0 : s.WarmedH ((T.setVm s.vm).setFrames (.invoking m args :: below)).vm := State.WarmedH.refl s
  have hat' : ∀ w ∈ vx_atN nb, w.before args ((T.setVm s.vm).setFrames (.invoking m args :: below)) = true := fun w hw => vx_ot_at hW0 rfl (hgood w hw) (hat w hw)
  have hU' : vx_Zq Bundle.tN "UNASSIGNED_STACK" Bundle.steD A ((T.setVm s.vm).setFrames (.invoking m args :: below)) ((T.setVm s.vm).setFrames (.invoking m args :: below)).heap := by rw [hhp]; exact vx_Zq.moved hW0.alike (hU.kept hS.2.1)
  have hN' : vx_Zq Bundle.tN "SUPPRESSED_SENTINEL" Bundle.listD A ((T.setVm s.vm).setFrames (.invoking m args :: below)) ((T.setVm s.vm).setFrames (.invoking m args :: below)).heap := by rw [hhp]; exact vx_Zq.moved hW0.alike (hN.kept hS.2.1)
  obtain ⟨S, q, ce, st, Z, hce, hcl', hv⟩ := vx_npeAt Y hexec htr (n := nb) (vx_own hat' (vx_isRefq hU'.1) (vx_isRefq hN'.1) hU'.2.word hN'.2.word) (fun x hx => nomatch hx)
    (g := F0 m pc ls rest) rfl hsize hRframes (by show 2 * 0 + (rest.map fun v => v.category).sum + 10240 ≤ R.locals; omega) (by show 0 + 1 ≤ 1; omega) (by show 0 + nb ≤ nb; omega) hlocks
  obtain ⟨f1, f2⟩ := vx_frame Z.same
  have f1' : H.size ≤ S.heap.size := by rw [← hT]; exact f1
  have f2' : ∀ q : Nat, q < H.size → S.heap[q]? = H[q]? := fun q hq => by
    rw [← hT]
    exact f2 q (by rw [← hT] at hq; exact hq) (fun z hz => nomatch hz)
  have X5 := vx_back9 X Y Z
  have X6 : Stand p l e R s m args below meth c S locs (cells + 1) (slots + nb) := { X5 with same := X5.same.mono (by omega) (by omega) }
  obtain ⟨t, a1, b1⟩ := k S.heap q ce f1' f2' ⟨Nat.le_trans hS.1 f1', fun q h1 h2 => (f2' q (Nat.lt_of_lt_of_le h1 hS.1)).trans (hS.2.1 q h1 h2), hS.2.2⟩ hce hv hcl' S rfl X6
  exact ⟨t, st t a1, b1⟩
variable {Q : State → Prop} {cc : ByteArray} {pc : Nat} {ls : Array Slot} {rest : List Value}
theorem vx_idivZ (hexec : p.tables.exec = Jvm.exec) (hb : c.code = cc) {a b : Int32} (h0 : b = 0) (d : decode cc pc = .ok (.idiv, 1)) (k : vx_Note p l e R s m args below meth c H locs cells slots Q (F0 m pc ls rest) "java/lang/ArithmeticException" "/ by zero") :
    W p l e R s m args below meth c H locs cells slots Q (F0 m pc ls (.int b :: .int a :: rest)) := by
  intro T hT X
  obtain ⟨t, st, q⟩ := k T hT X
  exact ⟨t, X.idivZero hexec (g := F0 m pc ls (.int b :: .int a :: rest)) rfl (a := a) (rest := rest) (by rw [h0]) (by rw [hb]; exact d) t st, q⟩
theorem vx_iremZ (hexec : p.tables.exec = Jvm.exec) (hb : c.code = cc) {a b : Int32} (h0 : b = 0) (d : decode cc pc = .ok (.irem, 1)) (k : vx_Note p l e R s m args below meth c H locs cells slots Q (F0 m pc ls rest) "java/lang/ArithmeticException" "/ by zero") :
    W p l e R s m args below meth c H locs cells slots Q (F0 m pc ls (.int b :: .int a :: rest)) := by
  intro T hT X
  obtain ⟨t, st, q⟩ := k T hT X
  exact ⟨t, X.iremZero hexec (g := F0 m pc ls (.int b :: .int a :: rest)) rfl (a := a) (rest := rest) (by rw [h0]) (by rw [hb]; exact d) t st, q⟩
theorem vx_ldivZ (hexec : p.tables.exec = Jvm.exec) (hb : c.code = cc) {a b : Int64} (h0 : b = 0) (d : decode cc pc = .ok (.ldiv, 1)) (k : vx_Note p l e R s m args below meth c H locs cells slots Q (F0 m pc ls rest) "java/lang/ArithmeticException" "/ by zero") :
    W p l e R s m args below meth c H locs cells slots Q (F0 m pc ls (.long b :: .long a :: rest)) := by
  intro T hT X
  obtain ⟨t, st, q⟩ := k T hT X
  exact ⟨t, X.ldivZero hexec (g := F0 m pc ls (.long b :: .long a :: rest)) rfl (a := a) (rest := rest) (by rw [h0]) (by rw [hb]; exact d) t st, q⟩
theorem vx_lremZ (hexec : p.tables.exec = Jvm.exec) (hb : c.code = cc) {a b : Int64} (h0 : b = 0) (d : decode cc pc = .ok (.lrem, 1)) (k : vx_Note p l e R s m args below meth c H locs cells slots Q (F0 m pc ls rest) "java/lang/ArithmeticException" "/ by zero") :
    W p l e R s m args below meth c H locs cells slots Q (F0 m pc ls (.long b :: .long a :: rest)) := by
  intro T hT X
  obtain ⟨t, st, q⟩ := k T hT X
  exact ⟨t, X.lremZero hexec (g := F0 m pc ls (.long b :: .long a :: rest)) rfl (a := a) (rest := rest) (by rw [h0]) (by rw [hb]; exact d) t st, q⟩
theorem vx_ialdZ {D : va_G} {cl : List vw_C} {ws : va_W} {tys : List (ClassId × FieldType)} {a : Nat} (hexec : p.tables.exec = Jvm.exec) (hb : c.code = cc) (hK : va_K D cl tys s) (hP : va_P D cl ws H) (q0 t0 : Nat) {cA : ClassId} {n : Nat} {f : Nat → Int32} (ha : ws[q0]? = some (a, .inl (cA, n, .inl f))) (ht : tys[t0]? = some (cA, .int)) {i : Int32} (hout : ¬ vp_in i n) (hdg : decode cc pc = .ok (.iaload, 1))
    (k : ∀ tx : String, tx = (toString "Index " ++ toString i ++ toString " out of bounds for length " ++ toString n : String) → vx_Note p l e R s m args below meth c H locs cells slots Q (F0 m pc ls rest) "java/lang/ArrayIndexOutOfBoundsException" tx) : W p l e R s m args below meth c H locs cells slots Q (F0 m pc ls (.int i :: .ref a :: rest)) := by
  intro T hT X
  obtain ⟨t, st, q⟩ := k _ rfl T hT X
  refine ⟨t, ?_, q⟩
  have h1 := X.ialoadOut hexec (by rw [hT]; exact hP q0 _ ha) ((hK.2 t0 _ ht).1 n (fun j => .int (f j))) (j := i) (by show (i < 0 ∨ (arrV _ _ _).slots.size ≤ _); rw [arrV_size]; exact Classical.byContradiction hout) (g := F0 m pc ls (.int i :: .ref a :: rest)) rfl (rest := rest) rfl (by rw [hb]; exact hdg) t
  simp only [arrV_size] at h1
  exact h1 st
theorem vx_iastZ {D : va_G} {cl : List vw_C} {ws : va_W} {tys : List (ClassId × FieldType)} {a : Nat} (hexec : p.tables.exec = Jvm.exec) (hb : c.code = cc) (hK : va_K D cl tys s) (hP : va_P D cl ws H) (q0 t0 : Nat) {cA : ClassId} {n : Nat} {f : Nat → Int32} (ha : ws[q0]? = some (a, .inl (cA, n, .inl f))) (ht : tys[t0]? = some (cA, .int)) {i : Int32} {x : Int32} (hout : ¬ vp_in i n) (hdg : decode cc pc = .ok (.iastore, 1))
    (k : ∀ tx : String, tx = (toString "Index " ++ toString i ++ toString " out of bounds for length " ++ toString n : String) → vx_Note p l e R s m args below meth c H locs cells slots Q (F0 m pc ls rest) "java/lang/ArrayIndexOutOfBoundsException" tx) : W p l e R s m args below meth c H locs cells slots Q (F0 m pc ls (.int x :: .int i :: .ref a :: rest)) := by
  intro T hT X
  obtain ⟨t, st, q⟩ := k _ rfl T hT X
  refine ⟨t, ?_, q⟩
  have h1 := X.iastoreOut hexec (by rw [hT]; exact hP q0 _ ha) ((hK.2 t0 _ ht).1 n (fun j => .int (f j))) (j := i) (by show (i < 0 ∨ (arrV _ _ _).slots.size ≤ _); rw [arrV_size]; exact Classical.byContradiction hout) (g := F0 m pc ls (.int x :: .int i :: .ref a :: rest)) rfl (rest := rest) rfl (by rw [hb]; exact hdg) t
  simp only [arrV_size] at h1
  exact h1 st
theorem vx_baldZ {D : va_G} {cl : List vw_C} {ws : va_W} {tys : List (ClassId × FieldType)} {a : Nat} (hexec : p.tables.exec = Jvm.exec) (hb : c.code = cc) (hK : va_K D cl tys s) (hP : va_P D cl ws H) (q0 t0 : Nat) {cA : ClassId} {n : Nat} {f : Nat → Int32} (ha : ws[q0]? = some (a, .inl (cA, n, .inl f))) (ht : tys[t0]? = some (cA, .byte)) {i : Int32} (hout : ¬ vp_in i n) (hdg : decode cc pc = .ok (.baload, 1))
    (k : ∀ tx : String, tx = (toString "Index " ++ toString i ++ toString " out of bounds for length " ++ toString n : String) → vx_Note p l e R s m args below meth c H locs cells slots Q (F0 m pc ls rest) "java/lang/ArrayIndexOutOfBoundsException" tx) : W p l e R s m args below meth c H locs cells slots Q (F0 m pc ls (.int i :: .ref a :: rest)) := by
  intro T hT X
  obtain ⟨t, st, q⟩ := k _ rfl T hT X
  refine ⟨t, ?_, q⟩
  have h1 := X.baloadOut hexec (by rw [hT]; exact hP q0 _ ha) ((hK.2 t0 _ ht).1 n (fun j => .int (f j))) (j := i) (by show (i < 0 ∨ (arrV _ _ _).slots.size ≤ _); rw [arrV_size]; exact Classical.byContradiction hout) (g := F0 m pc ls (.int i :: .ref a :: rest)) rfl (rest := rest) rfl (by rw [hb]; exact hdg) t
  simp only [arrV_size] at h1
  exact h1 st
theorem vx_bastZ {D : va_G} {cl : List vw_C} {ws : va_W} {tys : List (ClassId × FieldType)} {a : Nat} (hexec : p.tables.exec = Jvm.exec) (hb : c.code = cc) (hK : va_K D cl tys s) (hP : va_P D cl ws H) (q0 t0 : Nat) {cA : ClassId} {n : Nat} {f : Nat → Int32} (ha : ws[q0]? = some (a, .inl (cA, n, .inl f))) (ht : tys[t0]? = some (cA, .byte)) {i : Int32} {x : Int32} (hout : ¬ vp_in i n) (hdg : decode cc pc = .ok (.bastore, 1))
    (k : ∀ tx : String, tx = (toString "Index " ++ toString i ++ toString " out of bounds for length " ++ toString n : String) → vx_Note p l e R s m args below meth c H locs cells slots Q (F0 m pc ls rest) "java/lang/ArrayIndexOutOfBoundsException" tx) : W p l e R s m args below meth c H locs cells slots Q (F0 m pc ls (.int x :: .int i :: .ref a :: rest)) := by
  intro T hT X
  obtain ⟨t, st, q⟩ := k _ rfl T hT X
  refine ⟨t, ?_, q⟩
  have h1 := X.bastoreOut hexec (by rw [hT]; exact hP q0 _ ha) ((hK.2 t0 _ ht).1 n (fun j => .int (f j))) (j := i) (by show (i < 0 ∨ (arrV _ _ _).slots.size ≤ _); rw [arrV_size]; exact Classical.byContradiction hout) (g := F0 m pc ls (.int x :: .int i :: .ref a :: rest)) rfl (rest := rest) rfl (by rw [hb]; exact hdg) t
  simp only [arrV_size] at h1
  exact h1 st
theorem vx_zaldZ {D : va_G} {cl : List vw_C} {ws : va_W} {tys : List (ClassId × FieldType)} {a : Nat} (hexec : p.tables.exec = Jvm.exec) (hb : c.code = cc) (hK : va_K D cl tys s) (hP : va_P D cl ws H) (q0 t0 : Nat) {cA : ClassId} {n : Nat} {f : Nat → Int32} (ha : ws[q0]? = some (a, .inl (cA, n, .inl f))) (ht : tys[t0]? = some (cA, .boolean)) {i : Int32} (hout : ¬ vp_in i n) (hdg : decode cc pc = .ok (.baload, 1))
    (k : ∀ tx : String, tx = (toString "Index " ++ toString i ++ toString " out of bounds for length " ++ toString n : String) → vx_Note p l e R s m args below meth c H locs cells slots Q (F0 m pc ls rest) "java/lang/ArrayIndexOutOfBoundsException" tx) : W p l e R s m args below meth c H locs cells slots Q (F0 m pc ls (.int i :: .ref a :: rest)) := by
  intro T hT X
  obtain ⟨t, st, q⟩ := k _ rfl T hT X
  refine ⟨t, ?_, q⟩
  have h1 := X.baloadOut hexec (by rw [hT]; exact hP q0 _ ha) ((hK.2 t0 _ ht).1 n (fun j => .int (f j))) (j := i) (by show (i < 0 ∨ (arrV _ _ _).slots.size ≤ _); rw [arrV_size]; exact Classical.byContradiction hout) (g := F0 m pc ls (.int i :: .ref a :: rest)) rfl (rest := rest) rfl (by rw [hb]; exact hdg) t
  simp only [arrV_size] at h1
  exact h1 st
theorem vx_zastZ {D : va_G} {cl : List vw_C} {ws : va_W} {tys : List (ClassId × FieldType)} {a : Nat} (hexec : p.tables.exec = Jvm.exec) (hb : c.code = cc) (hK : va_K D cl tys s) (hP : va_P D cl ws H) (q0 t0 : Nat) {cA : ClassId} {n : Nat} {f : Nat → Int32} (ha : ws[q0]? = some (a, .inl (cA, n, .inl f))) (ht : tys[t0]? = some (cA, .boolean)) {i : Int32} {x : Int32} (hout : ¬ vp_in i n) (hdg : decode cc pc = .ok (.bastore, 1))
    (k : ∀ tx : String, tx = (toString "Index " ++ toString i ++ toString " out of bounds for length " ++ toString n : String) → vx_Note p l e R s m args below meth c H locs cells slots Q (F0 m pc ls rest) "java/lang/ArrayIndexOutOfBoundsException" tx) : W p l e R s m args below meth c H locs cells slots Q (F0 m pc ls (.int x :: .int i :: .ref a :: rest)) := by
  intro T hT X
  obtain ⟨t, st, q⟩ := k _ rfl T hT X
  refine ⟨t, ?_, q⟩
  have h1 := X.bastoreOut hexec (by rw [hT]; exact hP q0 _ ha) ((hK.2 t0 _ ht).1 n (fun j => .int (f j))) (j := i) (by show (i < 0 ∨ (arrV _ _ _).slots.size ≤ _); rw [arrV_size]; exact Classical.byContradiction hout) (g := F0 m pc ls (.int x :: .int i :: .ref a :: rest)) rfl (rest := rest) rfl (by rw [hb]; exact hdg) t
  simp only [arrV_size] at h1
  exact h1 st
theorem vx_caldZ {D : va_G} {cl : List vw_C} {ws : va_W} {tys : List (ClassId × FieldType)} {a : Nat} (hexec : p.tables.exec = Jvm.exec) (hb : c.code = cc) (hK : va_K D cl tys s) (hP : va_P D cl ws H) (q0 t0 : Nat) {cA : ClassId} {n : Nat} {f : Nat → Int32} (ha : ws[q0]? = some (a, .inl (cA, n, .inl f))) (ht : tys[t0]? = some (cA, .char)) {i : Int32} (hout : ¬ vp_in i n) (hdg : decode cc pc = .ok (.caload, 1))
    (k : ∀ tx : String, tx = (toString "Index " ++ toString i ++ toString " out of bounds for length " ++ toString n : String) → vx_Note p l e R s m args below meth c H locs cells slots Q (F0 m pc ls rest) "java/lang/ArrayIndexOutOfBoundsException" tx) : W p l e R s m args below meth c H locs cells slots Q (F0 m pc ls (.int i :: .ref a :: rest)) := by
  intro T hT X
  obtain ⟨t, st, q⟩ := k _ rfl T hT X
  refine ⟨t, ?_, q⟩
  have h1 := X.caloadOut hexec (by rw [hT]; exact hP q0 _ ha) ((hK.2 t0 _ ht).1 n (fun j => .int (f j))) (j := i) (by show (i < 0 ∨ (arrV _ _ _).slots.size ≤ _); rw [arrV_size]; exact Classical.byContradiction hout) (g := F0 m pc ls (.int i :: .ref a :: rest)) rfl (rest := rest) rfl (by rw [hb]; exact hdg) t
  simp only [arrV_size] at h1
  exact h1 st
theorem vx_castZ {D : va_G} {cl : List vw_C} {ws : va_W} {tys : List (ClassId × FieldType)} {a : Nat} (hexec : p.tables.exec = Jvm.exec) (hb : c.code = cc) (hK : va_K D cl tys s) (hP : va_P D cl ws H) (q0 t0 : Nat) {cA : ClassId} {n : Nat} {f : Nat → Int32} (ha : ws[q0]? = some (a, .inl (cA, n, .inl f))) (ht : tys[t0]? = some (cA, .char)) {i : Int32} {x : Int32} (hout : ¬ vp_in i n) (hdg : decode cc pc = .ok (.castore, 1))
    (k : ∀ tx : String, tx = (toString "Index " ++ toString i ++ toString " out of bounds for length " ++ toString n : String) → vx_Note p l e R s m args below meth c H locs cells slots Q (F0 m pc ls rest) "java/lang/ArrayIndexOutOfBoundsException" tx) : W p l e R s m args below meth c H locs cells slots Q (F0 m pc ls (.int x :: .int i :: .ref a :: rest)) := by
  intro T hT X
  obtain ⟨t, st, q⟩ := k _ rfl T hT X
  refine ⟨t, ?_, q⟩
  have h1 := X.castoreOut hexec (by rw [hT]; exact hP q0 _ ha) ((hK.2 t0 _ ht).1 n (fun j => .int (f j))) (j := i) (by show (i < 0 ∨ (arrV _ _ _).slots.size ≤ _); rw [arrV_size]; exact Classical.byContradiction hout) (g := F0 m pc ls (.int x :: .int i :: .ref a :: rest)) rfl (rest := rest) rfl (by rw [hb]; exact hdg) t
  simp only [arrV_size] at h1
  exact h1 st
theorem vx_saldZ {D : va_G} {cl : List vw_C} {ws : va_W} {tys : List (ClassId × FieldType)} {a : Nat} (hexec : p.tables.exec = Jvm.exec) (hb : c.code = cc) (hK : va_K D cl tys s) (hP : va_P D cl ws H) (q0 t0 : Nat) {cA : ClassId} {n : Nat} {f : Nat → Int32} (ha : ws[q0]? = some (a, .inl (cA, n, .inl f))) (ht : tys[t0]? = some (cA, .short)) {i : Int32} (hout : ¬ vp_in i n) (hdg : decode cc pc = .ok (.saload, 1))
    (k : ∀ tx : String, tx = (toString "Index " ++ toString i ++ toString " out of bounds for length " ++ toString n : String) → vx_Note p l e R s m args below meth c H locs cells slots Q (F0 m pc ls rest) "java/lang/ArrayIndexOutOfBoundsException" tx) : W p l e R s m args below meth c H locs cells slots Q (F0 m pc ls (.int i :: .ref a :: rest)) := by
  intro T hT X
  obtain ⟨t, st, q⟩ := k _ rfl T hT X
  refine ⟨t, ?_, q⟩
  have h1 := X.saloadOut hexec (by rw [hT]; exact hP q0 _ ha) ((hK.2 t0 _ ht).1 n (fun j => .int (f j))) (j := i) (by show (i < 0 ∨ (arrV _ _ _).slots.size ≤ _); rw [arrV_size]; exact Classical.byContradiction hout) (g := F0 m pc ls (.int i :: .ref a :: rest)) rfl (rest := rest) rfl (by rw [hb]; exact hdg) t
  simp only [arrV_size] at h1
  exact h1 st
theorem vx_sastZ {D : va_G} {cl : List vw_C} {ws : va_W} {tys : List (ClassId × FieldType)} {a : Nat} (hexec : p.tables.exec = Jvm.exec) (hb : c.code = cc) (hK : va_K D cl tys s) (hP : va_P D cl ws H) (q0 t0 : Nat) {cA : ClassId} {n : Nat} {f : Nat → Int32} (ha : ws[q0]? = some (a, .inl (cA, n, .inl f))) (ht : tys[t0]? = some (cA, .short)) {i : Int32} {x : Int32} (hout : ¬ vp_in i n) (hdg : decode cc pc = .ok (.sastore, 1))
    (k : ∀ tx : String, tx = (toString "Index " ++ toString i ++ toString " out of bounds for length " ++ toString n : String) → vx_Note p l e R s m args below meth c H locs cells slots Q (F0 m pc ls rest) "java/lang/ArrayIndexOutOfBoundsException" tx) : W p l e R s m args below meth c H locs cells slots Q (F0 m pc ls (.int x :: .int i :: .ref a :: rest)) := by
  intro T hT X
  obtain ⟨t, st, q⟩ := k _ rfl T hT X
  refine ⟨t, ?_, q⟩
  have h1 := X.sastoreOut hexec (by rw [hT]; exact hP q0 _ ha) ((hK.2 t0 _ ht).1 n (fun j => .int (f j))) (j := i) (by show (i < 0 ∨ (arrV _ _ _).slots.size ≤ _); rw [arrV_size]; exact Classical.byContradiction hout) (g := F0 m pc ls (.int x :: .int i :: .ref a :: rest)) rfl (rest := rest) rfl (by rw [hb]; exact hdg) t
  simp only [arrV_size] at h1
  exact h1 st
theorem vx_laldZ {D : va_G} {cl : List vw_C} {ws : va_W} {tys : List (ClassId × FieldType)} {a : Nat} (hexec : p.tables.exec = Jvm.exec) (hb : c.code = cc) (hK : va_K D cl tys s) (hP : va_P D cl ws H) (q0 t0 : Nat) {cA : ClassId} {n : Nat} {f : Nat → Int64} (ha : ws[q0]? = some (a, .inl (cA, n, .inr (.inl f)))) (ht : tys[t0]? = some (cA, .long)) {i : Int32} (hout : ¬ vp_in i n) (hdg : decode cc pc = .ok (.laload, 1))
    (k : ∀ tx : String, tx = (toString "Index " ++ toString i ++ toString " out of bounds for length " ++ toString n : String) → vx_Note p l e R s m args below meth c H locs cells slots Q (F0 m pc ls rest) "java/lang/ArrayIndexOutOfBoundsException" tx) : W p l e R s m args below meth c H locs cells slots Q (F0 m pc ls (.int i :: .ref a :: rest)) := by
  intro T hT X
  obtain ⟨t, st, q⟩ := k _ rfl T hT X
  refine ⟨t, ?_, q⟩
  have h1 := X.laloadOut hexec (by rw [hT]; exact hP q0 _ ha) ((hK.2 t0 _ ht).1 n (fun j => .long (f j))) (j := i) (by show (i < 0 ∨ (arrV _ _ _).slots.size ≤ _); rw [arrV_size]; exact Classical.byContradiction hout) (g := F0 m pc ls (.int i :: .ref a :: rest)) rfl (rest := rest) rfl (by rw [hb]; exact hdg) t
  simp only [arrV_size] at h1
  exact h1 st
theorem vx_lastZ {D : va_G} {cl : List vw_C} {ws : va_W} {tys : List (ClassId × FieldType)} {a : Nat} (hexec : p.tables.exec = Jvm.exec) (hb : c.code = cc) (hK : va_K D cl tys s) (hP : va_P D cl ws H) (q0 t0 : Nat) {cA : ClassId} {n : Nat} {f : Nat → Int64} (ha : ws[q0]? = some (a, .inl (cA, n, .inr (.inl f)))) (ht : tys[t0]? = some (cA, .long)) {i : Int32} {x : Int64} (hout : ¬ vp_in i n) (hdg : decode cc pc = .ok (.lastore, 1))
    (k : ∀ tx : String, tx = (toString "Index " ++ toString i ++ toString " out of bounds for length " ++ toString n : String) → vx_Note p l e R s m args below meth c H locs cells slots Q (F0 m pc ls rest) "java/lang/ArrayIndexOutOfBoundsException" tx) : W p l e R s m args below meth c H locs cells slots Q (F0 m pc ls (.long x :: .int i :: .ref a :: rest)) := by
  intro T hT X
  obtain ⟨t, st, q⟩ := k _ rfl T hT X
  refine ⟨t, ?_, q⟩
  have h1 := X.lastoreOut hexec (by rw [hT]; exact hP q0 _ ha) ((hK.2 t0 _ ht).1 n (fun j => .long (f j))) (j := i) (by show (i < 0 ∨ (arrV _ _ _).slots.size ≤ _); rw [arrV_size]; exact Classical.byContradiction hout) (g := F0 m pc ls (.long x :: .int i :: .ref a :: rest)) rfl (rest := rest) rfl (by rw [hb]; exact hdg) t
  simp only [arrV_size] at h1
  exact h1 st
theorem vx_faldZ {D : va_G} {cl : List vw_C} {ws : va_W} {tys : List (ClassId × FieldType)} {a : Nat} (hexec : p.tables.exec = Jvm.exec) (hb : c.code = cc) (hK : va_K D cl tys s) (hP : va_P D cl ws H) (q0 t0 : Nat) {cA : ClassId} {n : Nat} {f : Nat → UInt32} (ha : ws[q0]? = some (a, .inl (cA, n, .inr (.inr (.inl f))))) (ht : tys[t0]? = some (cA, .float)) {i : Int32} (hout : ¬ vp_in i n) (hdg : decode cc pc = .ok (.faload, 1))
    (k : ∀ tx : String, tx = (toString "Index " ++ toString i ++ toString " out of bounds for length " ++ toString n : String) → vx_Note p l e R s m args below meth c H locs cells slots Q (F0 m pc ls rest) "java/lang/ArrayIndexOutOfBoundsException" tx) : W p l e R s m args below meth c H locs cells slots Q (F0 m pc ls (.int i :: .ref a :: rest)) := by
  intro T hT X
  obtain ⟨t, st, q⟩ := k _ rfl T hT X
  refine ⟨t, ?_, q⟩
  have h1 := X.faloadOut hexec (by rw [hT]; exact hP q0 _ ha) ((hK.2 t0 _ ht).1 n (fun j => .float (f j))) (j := i) (by show (i < 0 ∨ (arrV _ _ _).slots.size ≤ _); rw [arrV_size]; exact Classical.byContradiction hout) (g := F0 m pc ls (.int i :: .ref a :: rest)) rfl (rest := rest) rfl (by rw [hb]; exact hdg) t
  simp only [arrV_size] at h1
  exact h1 st
theorem vx_fastZ {D : va_G} {cl : List vw_C} {ws : va_W} {tys : List (ClassId × FieldType)} {a : Nat} (hexec : p.tables.exec = Jvm.exec) (hb : c.code = cc) (hK : va_K D cl tys s) (hP : va_P D cl ws H) (q0 t0 : Nat) {cA : ClassId} {n : Nat} {f : Nat → UInt32} (ha : ws[q0]? = some (a, .inl (cA, n, .inr (.inr (.inl f))))) (ht : tys[t0]? = some (cA, .float)) {i : Int32} {x : UInt32} (hout : ¬ vp_in i n) (hdg : decode cc pc = .ok (.fastore, 1))
    (k : ∀ tx : String, tx = (toString "Index " ++ toString i ++ toString " out of bounds for length " ++ toString n : String) → vx_Note p l e R s m args below meth c H locs cells slots Q (F0 m pc ls rest) "java/lang/ArrayIndexOutOfBoundsException" tx) : W p l e R s m args below meth c H locs cells slots Q (F0 m pc ls (.float x :: .int i :: .ref a :: rest)) := by
  intro T hT X
  obtain ⟨t, st, q⟩ := k _ rfl T hT X
  refine ⟨t, ?_, q⟩
  have h1 := X.fastoreOut hexec (by rw [hT]; exact hP q0 _ ha) ((hK.2 t0 _ ht).1 n (fun j => .float (f j))) (j := i) (by show (i < 0 ∨ (arrV _ _ _).slots.size ≤ _); rw [arrV_size]; exact Classical.byContradiction hout) (g := F0 m pc ls (.float x :: .int i :: .ref a :: rest)) rfl (rest := rest) rfl (by rw [hb]; exact hdg) t
  simp only [arrV_size] at h1
  exact h1 st
theorem vx_daldZ {D : va_G} {cl : List vw_C} {ws : va_W} {tys : List (ClassId × FieldType)} {a : Nat} (hexec : p.tables.exec = Jvm.exec) (hb : c.code = cc) (hK : va_K D cl tys s) (hP : va_P D cl ws H) (q0 t0 : Nat) {cA : ClassId} {n : Nat} {f : Nat → UInt64} (ha : ws[q0]? = some (a, .inl (cA, n, .inr (.inr (.inr (.inl f)))))) (ht : tys[t0]? = some (cA, .double)) {i : Int32} (hout : ¬ vp_in i n) (hdg : decode cc pc = .ok (.daload, 1))
    (k : ∀ tx : String, tx = (toString "Index " ++ toString i ++ toString " out of bounds for length " ++ toString n : String) → vx_Note p l e R s m args below meth c H locs cells slots Q (F0 m pc ls rest) "java/lang/ArrayIndexOutOfBoundsException" tx) : W p l e R s m args below meth c H locs cells slots Q (F0 m pc ls (.int i :: .ref a :: rest)) := by
  intro T hT X
  obtain ⟨t, st, q⟩ := k _ rfl T hT X
  refine ⟨t, ?_, q⟩
  have h1 := X.daloadOut hexec (by rw [hT]; exact hP q0 _ ha) ((hK.2 t0 _ ht).1 n (fun j => .double (f j))) (j := i) (by show (i < 0 ∨ (arrV _ _ _).slots.size ≤ _); rw [arrV_size]; exact Classical.byContradiction hout) (g := F0 m pc ls (.int i :: .ref a :: rest)) rfl (rest := rest) rfl (by rw [hb]; exact hdg) t
  simp only [arrV_size] at h1
  exact h1 st
theorem vx_dastZ {D : va_G} {cl : List vw_C} {ws : va_W} {tys : List (ClassId × FieldType)} {a : Nat} (hexec : p.tables.exec = Jvm.exec) (hb : c.code = cc) (hK : va_K D cl tys s) (hP : va_P D cl ws H) (q0 t0 : Nat) {cA : ClassId} {n : Nat} {f : Nat → UInt64} (ha : ws[q0]? = some (a, .inl (cA, n, .inr (.inr (.inr (.inl f)))))) (ht : tys[t0]? = some (cA, .double)) {i : Int32} {x : UInt64} (hout : ¬ vp_in i n) (hdg : decode cc pc = .ok (.dastore, 1))
    (k : ∀ tx : String, tx = (toString "Index " ++ toString i ++ toString " out of bounds for length " ++ toString n : String) → vx_Note p l e R s m args below meth c H locs cells slots Q (F0 m pc ls rest) "java/lang/ArrayIndexOutOfBoundsException" tx) : W p l e R s m args below meth c H locs cells slots Q (F0 m pc ls (.double x :: .int i :: .ref a :: rest)) := by
  intro T hT X
  obtain ⟨t, st, q⟩ := k _ rfl T hT X
  refine ⟨t, ?_, q⟩
  have h1 := X.dastoreOut hexec (by rw [hT]; exact hP q0 _ ha) ((hK.2 t0 _ ht).1 n (fun j => .double (f j))) (j := i) (by show (i < 0 ∨ (arrV _ _ _).slots.size ≤ _); rw [arrV_size]; exact Classical.byContradiction hout) (g := F0 m pc ls (.double x :: .int i :: .ref a :: rest)) rfl (rest := rest) rfl (by rw [hb]; exact hdg) t
  simp only [arrV_size] at h1
  exact h1 st
theorem vx_arraylengthN (hexec : p.tables.exec = Jvm.exec) (hb : c.code = cc) (hdg : decode cc pc = .ok (.arraylength, 1)) (k : vx_NoteN p l e R s m args below meth c H locs cells slots Q (F0 m pc ls rest)) : W p l e R s m args below meth c H locs cells slots Q (F0 m pc ls (.null :: rest)) := by
  intro T hT X
  obtain ⟨t, st, q⟩ := k T hT X
  exact ⟨t, X.arraylengthNull hexec (g := F0 m pc ls (.null :: rest)) rfl (rest := rest) rfl (by rw [hb]; exact hdg) t st, q⟩
theorem vx_ialoadN (hexec : p.tables.exec = Jvm.exec) (hb : c.code = cc) {i : Int32} (hdg : decode cc pc = .ok (.iaload, 1)) (k : vx_NoteN p l e R s m args below meth c H locs cells slots Q (F0 m pc ls rest)) : W p l e R s m args below meth c H locs cells slots Q (F0 m pc ls (.int i :: .null :: rest)) := by
  intro T hT X
  obtain ⟨t, st, q⟩ := k T hT X
  exact ⟨t, X.ialoadNull hexec (g := F0 m pc ls (.int i :: .null :: rest)) rfl (rest := rest) rfl (by rw [hb]; exact hdg) t st, q⟩
theorem vx_laloadN (hexec : p.tables.exec = Jvm.exec) (hb : c.code = cc) {i : Int32} (hdg : decode cc pc = .ok (.laload, 1)) (k : vx_NoteN p l e R s m args below meth c H locs cells slots Q (F0 m pc ls rest)) : W p l e R s m args below meth c H locs cells slots Q (F0 m pc ls (.int i :: .null :: rest)) := by
  intro T hT X
  obtain ⟨t, st, q⟩ := k T hT X
  exact ⟨t, X.laloadNull hexec (g := F0 m pc ls (.int i :: .null :: rest)) rfl (rest := rest) rfl (by rw [hb]; exact hdg) t st, q⟩
theorem vx_faloadN (hexec : p.tables.exec = Jvm.exec) (hb : c.code = cc) {i : Int32} (hdg : decode cc pc = .ok (.faload, 1)) (k : vx_NoteN p l e R s m args below meth c H locs cells slots Q (F0 m pc ls rest)) : W p l e R s m args below meth c H locs cells slots Q (F0 m pc ls (.int i :: .null :: rest)) := by
  intro T hT X
  obtain ⟨t, st, q⟩ := k T hT X
  exact ⟨t, X.faloadNull hexec (g := F0 m pc ls (.int i :: .null :: rest)) rfl (rest := rest) rfl (by rw [hb]; exact hdg) t st, q⟩
theorem vx_daloadN (hexec : p.tables.exec = Jvm.exec) (hb : c.code = cc) {i : Int32} (hdg : decode cc pc = .ok (.daload, 1)) (k : vx_NoteN p l e R s m args below meth c H locs cells slots Q (F0 m pc ls rest)) : W p l e R s m args below meth c H locs cells slots Q (F0 m pc ls (.int i :: .null :: rest)) := by
  intro T hT X
  obtain ⟨t, st, q⟩ := k T hT X
  exact ⟨t, X.daloadNull hexec (g := F0 m pc ls (.int i :: .null :: rest)) rfl (rest := rest) rfl (by rw [hb]; exact hdg) t st, q⟩
theorem vx_aaloadN (hexec : p.tables.exec = Jvm.exec) (hb : c.code = cc) {i : Int32} (hdg : decode cc pc = .ok (.aaload, 1)) (k : vx_NoteN p l e R s m args below meth c H locs cells slots Q (F0 m pc ls rest)) : W p l e R s m args below meth c H locs cells slots Q (F0 m pc ls (.int i :: .null :: rest)) := by
  intro T hT X
  obtain ⟨t, st, q⟩ := k T hT X
  exact ⟨t, X.aaloadNull hexec (g := F0 m pc ls (.int i :: .null :: rest)) rfl (rest := rest) rfl (by rw [hb]; exact hdg) t st, q⟩
theorem vx_baloadN (hexec : p.tables.exec = Jvm.exec) (hb : c.code = cc) {i : Int32} (hdg : decode cc pc = .ok (.baload, 1)) (k : vx_NoteN p l e R s m args below meth c H locs cells slots Q (F0 m pc ls rest)) : W p l e R s m args below meth c H locs cells slots Q (F0 m pc ls (.int i :: .null :: rest)) := by
  intro T hT X
  obtain ⟨t, st, q⟩ := k T hT X
  exact ⟨t, X.baloadNull hexec (g := F0 m pc ls (.int i :: .null :: rest)) rfl (rest := rest) rfl (by rw [hb]; exact hdg) t st, q⟩
theorem vx_caloadN (hexec : p.tables.exec = Jvm.exec) (hb : c.code = cc) {i : Int32} (hdg : decode cc pc = .ok (.caload, 1)) (k : vx_NoteN p l e R s m args below meth c H locs cells slots Q (F0 m pc ls rest)) : W p l e R s m args below meth c H locs cells slots Q (F0 m pc ls (.int i :: .null :: rest)) := by
  intro T hT X
  obtain ⟨t, st, q⟩ := k T hT X
  exact ⟨t, X.caloadNull hexec (g := F0 m pc ls (.int i :: .null :: rest)) rfl (rest := rest) rfl (by rw [hb]; exact hdg) t st, q⟩
theorem vx_saloadN (hexec : p.tables.exec = Jvm.exec) (hb : c.code = cc) {i : Int32} (hdg : decode cc pc = .ok (.saload, 1)) (k : vx_NoteN p l e R s m args below meth c H locs cells slots Q (F0 m pc ls rest)) : W p l e R s m args below meth c H locs cells slots Q (F0 m pc ls (.int i :: .null :: rest)) := by
  intro T hT X
  obtain ⟨t, st, q⟩ := k T hT X
  exact ⟨t, X.saloadNull hexec (g := F0 m pc ls (.int i :: .null :: rest)) rfl (rest := rest) rfl (by rw [hb]; exact hdg) t st, q⟩
theorem vx_iastoreN (hexec : p.tables.exec = Jvm.exec) (hb : c.code = cc) {x : Int32} {i : Int32} (hdg : decode cc pc = .ok (.iastore, 1)) (k : vx_NoteN p l e R s m args below meth c H locs cells slots Q (F0 m pc ls rest)) : W p l e R s m args below meth c H locs cells slots Q (F0 m pc ls (.int x :: .int i :: .null :: rest)) := by
  intro T hT X
  obtain ⟨t, st, q⟩ := k T hT X
  exact ⟨t, X.iastoreNull hexec (g := F0 m pc ls (.int x :: .int i :: .null :: rest)) rfl (rest := rest) rfl (by rw [hb]; exact hdg) t st, q⟩
theorem vx_lastoreN (hexec : p.tables.exec = Jvm.exec) (hb : c.code = cc) {x : Int64} {i : Int32} (hdg : decode cc pc = .ok (.lastore, 1)) (k : vx_NoteN p l e R s m args below meth c H locs cells slots Q (F0 m pc ls rest)) : W p l e R s m args below meth c H locs cells slots Q (F0 m pc ls (.long x :: .int i :: .null :: rest)) := by
  intro T hT X
  obtain ⟨t, st, q⟩ := k T hT X
  exact ⟨t, X.lastoreNull hexec (g := F0 m pc ls (.long x :: .int i :: .null :: rest)) rfl (rest := rest) rfl (by rw [hb]; exact hdg) t st, q⟩
theorem vx_fastoreN (hexec : p.tables.exec = Jvm.exec) (hb : c.code = cc) {x : UInt32} {i : Int32} (hdg : decode cc pc = .ok (.fastore, 1)) (k : vx_NoteN p l e R s m args below meth c H locs cells slots Q (F0 m pc ls rest)) : W p l e R s m args below meth c H locs cells slots Q (F0 m pc ls (.float x :: .int i :: .null :: rest)) := by
  intro T hT X
  obtain ⟨t, st, q⟩ := k T hT X
  exact ⟨t, X.fastoreNull hexec (g := F0 m pc ls (.float x :: .int i :: .null :: rest)) rfl (rest := rest) rfl (by rw [hb]; exact hdg) t st, q⟩
theorem vx_dastoreN (hexec : p.tables.exec = Jvm.exec) (hb : c.code = cc) {x : UInt64} {i : Int32} (hdg : decode cc pc = .ok (.dastore, 1)) (k : vx_NoteN p l e R s m args below meth c H locs cells slots Q (F0 m pc ls rest)) : W p l e R s m args below meth c H locs cells slots Q (F0 m pc ls (.double x :: .int i :: .null :: rest)) := by
  intro T hT X
  obtain ⟨t, st, q⟩ := k T hT X
  exact ⟨t, X.dastoreNull hexec (g := F0 m pc ls (.double x :: .int i :: .null :: rest)) rfl (rest := rest) rfl (by rw [hb]; exact hdg) t st, q⟩
theorem vx_bastoreN (hexec : p.tables.exec = Jvm.exec) (hb : c.code = cc) {x : Int32} {i : Int32} (hdg : decode cc pc = .ok (.bastore, 1)) (k : vx_NoteN p l e R s m args below meth c H locs cells slots Q (F0 m pc ls rest)) : W p l e R s m args below meth c H locs cells slots Q (F0 m pc ls (.int x :: .int i :: .null :: rest)) := by
  intro T hT X
  obtain ⟨t, st, q⟩ := k T hT X
  exact ⟨t, X.bastoreNull hexec (g := F0 m pc ls (.int x :: .int i :: .null :: rest)) rfl (rest := rest) rfl (by rw [hb]; exact hdg) t st, q⟩
theorem vx_castoreN (hexec : p.tables.exec = Jvm.exec) (hb : c.code = cc) {x : Int32} {i : Int32} (hdg : decode cc pc = .ok (.castore, 1)) (k : vx_NoteN p l e R s m args below meth c H locs cells slots Q (F0 m pc ls rest)) : W p l e R s m args below meth c H locs cells slots Q (F0 m pc ls (.int x :: .int i :: .null :: rest)) := by
  intro T hT X
  obtain ⟨t, st, q⟩ := k T hT X
  exact ⟨t, X.castoreNull hexec (g := F0 m pc ls (.int x :: .int i :: .null :: rest)) rfl (rest := rest) rfl (by rw [hb]; exact hdg) t st, q⟩
theorem vx_sastoreN (hexec : p.tables.exec = Jvm.exec) (hb : c.code = cc) {x : Int32} {i : Int32} (hdg : decode cc pc = .ok (.sastore, 1)) (k : vx_NoteN p l e R s m args below meth c H locs cells slots Q (F0 m pc ls rest)) : W p l e R s m args below meth c H locs cells slots Q (F0 m pc ls (.int x :: .int i :: .null :: rest)) := by
  intro T hT X
  obtain ⟨t, st, q⟩ := k T hT X
  exact ⟨t, X.sastoreNull hexec (g := F0 m pc ls (.int x :: .int i :: .null :: rest)) rfl (rest := rest) rfl (by rw [hb]; exact hdg) t st, q⟩
theorem vx_invokeN {own C : String} {index maxL : Nat} {y : MethodName} {bytes : ByteArray} {ret : Option FieldType} (hexec : p.tables.exec = Jvm.exec) (hb : c.code = cc) (hown : s.vm.findClass own = some m.cls) (hlink : (Cond.methodLink own index y).before args s = true) (hinst : (Cond.instanceMethod y).before args s = true) (hcode : (Cond.code y bytes maxL ret).before args s = true) (hsel : (Cond.selects C y y).before args s = true)
    (hx : y.cls ≠ "java/lang/invoke/MethodHandle" ∧ y.cls ≠ "java/lang/invoke/VarHandle") {As : List Value} (hlen : (parseMethodDescriptor y.desc).map (fun d => d.parameters.length) = some As.length) (hdg : decode cc pc = .ok (.invokevirtual index, 3))
    (k : vx_NoteN p l e R s m args below meth c H locs cells slots Q (F0 m pc ls rest)) {st0 : List Value} (hst : st0 = As.reverse ++ .null :: rest) : W p l e R s m args below meth c H locs cells slots Q (F0 m pc ls st0) := by
  intro T hT X
  obtain ⟨r0, r, hn, hrm, hstR, hsigR⟩ := va_Decl.of hinst hcode
  obtain ⟨c2, r2, m2, q1, q2, q3, q4, kP, hkP, hkPi⟩ := Cond.selects_spec hsel
  cases hn.symm.trans q3
  have hl9 : As.length = r.sig.parameters.length := by
    rw [hsigR] at hlen
    exact (Option.some.inj hlen).symm
  obtain ⟨vm', X1, st1⟩ := X.invokevirtualNull hexec hown hlink hn hrm hstR hkP hkPi hx (g := F0 m pc ls st0) rfl (argsL := As) (rest := rest) hl9 hst (by rw [hb]; exact hdg)
  obtain ⟨t, st, q⟩ := k (T.setVm vm') hT X1
  exact ⟨t, st1 t st, q⟩
theorem vx_newarrayZ {atype : ArrayType} (hexec : p.tables.exec = Jvm.exec) (hb : c.code = cc) {n : Int32} (h0 : n < 0) (hdg : decode cc pc = .ok (.newarray atype, 2)) (k : ∀ tx : String, tx = toString n → vx_Note p l e R s m args below meth c H locs cells slots Q (F0 m pc ls rest) "java/lang/NegativeArraySizeException" tx) : W p l e R s m args below meth c H locs cells slots Q (F0 m pc ls (.int n :: rest)) := by
  intro T hT X
  obtain ⟨t, st, q⟩ := k _ rfl T hT X
  exact ⟨t, X.newarrayNegative hexec (g := F0 m pc ls (.int n :: rest)) rfl h0 (rest := rest) rfl (by rw [hb]; exact hdg) t st, q⟩
end
end VXM
/-! ===== END ===== -/
end
section
def R_law : String := "CoalStairsLaw"
def RX0 : String := "CoalStairs$Carrier"
def TX0 : u_T := fun k => match k with
  | 0 => ("CoalStairs$Carrier", "strength", "I", false)
  | 1 => ("CoalStairs$Carrier", "tired", "I", false)
  | 2 => ("CoalStairs$Carrier", "black", "I", false)
  | _ => ("CoalStairs$Carrier", "carriedSoFar", "I", false)
def tyX0 : Nat → FieldType := fun k => match k with
  | 0 => .int
  | 1 => .int
  | 2 => .int
  | _ => .int
theorem nmX0 : ∀ a, a < 4 → ∀ b, b < 4 → a ≠ b → (TX0 a).2.1 ≠ (TX0 b).2.1 := by decide +kernel
theorem tyX0_ok : ∀ k, k < 4 → parseFieldDescriptor (TX0 k).2.2.1 = some (tyX0 k) := by decide +kernel
abbrev cX0_init : ByteArray := prog_2_method_1_code
def yX0_init : MethodName := ⟨RX0, "<init>", "()V"⟩
abbrev cX0_copyFrom : ByteArray := prog_2_method_2_code
def yX0_copyFrom : MethodName := ⟨RX0, "copyFrom", "(LCoalStairs$Carrier;)V"⟩
abbrev cX0_number : ByteArray := prog_2_method_3_code
def yX0_number : MethodName := ⟨RX0, "number", "(I)I"⟩
abbrev cX0_tiredByASack : ByteArray := prog_2_method_4_code
def yX0_tiredByASack : MethodName := ⟨RX0, "tiredByASack", "(LCoalStairs$House;)I"⟩
abbrev cX0_sacksUntilTired : ByteArray := prog_2_method_5_code
def yX0_sacksUntilTired : MethodName := ⟨RX0, "sacksUntilTired", "(LCoalStairs$House;)I"⟩
abbrev cX0_carrySack : ByteArray := prog_2_method_6_code
def yX0_carrySack : MethodName := ⟨RX0, "carrySack", "(LCoalStairs$House;)V"⟩
abbrev cX0_beginDay : ByteArray := prog_2_method_7_code
def yX0_beginDay : MethodName := ⟨RX0, "beginDay", "()V"⟩
def RX1 : String := "CoalStairs$CommandText"
def TX1 : u_T := fun k => match k with
  | 0 => ("CoalStairs$CommandText", "characters", "[C", true)
  | 1 => ("CoalStairs$CommandText", "kinds", "[I", true)
  | 2 => ("CoalStairs$CommandText", "firsts", "[I", true)
  | 3 => ("CoalStairs$CommandText", "seconds", "[I", true)
  | 4 => ("CoalStairs$CommandText", "length", "I", false)
  | 5 => ("CoalStairs$CommandText", "count", "I", false)
  | 6 => ("CoalStairs$CommandText", "position", "I", false)
  | _ => ("CoalStairs$CommandText", "numberRead", "I", false)
def tyX1 : Nat → FieldType := fun k => match k with
  | 0 => .array .char
  | 1 => .array .int
  | 2 => .array .int
  | 3 => .array .int
  | 4 => .int
  | 5 => .int
  | 6 => .int
  | _ => .int
theorem nmX1 : ∀ a, a < 8 → ∀ b, b < 8 → a ≠ b → (TX1 a).2.1 ≠ (TX1 b).2.1 := by decide +kernel
theorem tyX1_ok : ∀ k, k < 8 → parseFieldDescriptor (TX1 k).2.2.1 = some (tyX1 k) := by decide +kernel
abbrev cX1_init : ByteArray := prog_3_method_1_code
def yX1_init : MethodName := ⟨RX1, "<init>", "()V"⟩
abbrev cX1_isRead : ByteArray := prog_3_method_2_code
def yX1_isRead : MethodName := ⟨RX1, "isRead", "()Z"⟩
abbrev cX1_isCommandRead : ByteArray := prog_3_method_3_code
def yX1_isCommandRead : MethodName := ⟨RX1, "isCommandRead", "()Z"⟩
abbrev cX1_isMarkRead : ByteArray := prog_3_method_4_code
def yX1_isMarkRead : MethodName := ⟨RX1, "isMarkRead", "(C)Z"⟩
abbrev cX1_isNumberRead : ByteArray := prog_3_method_5_code
def yX1_isNumberRead : MethodName := ⟨RX1, "isNumberRead", "(I)Z"⟩
abbrev cX1_isDigitNext : ByteArray := prog_3_method_6_code
def yX1_isDigitNext : MethodName := ⟨RX1, "isDigitNext", "()Z"⟩
def RX2 : String := "CoalStairs$History"
def TX2 : u_T := fun k => match k with
  | 0 => ("CoalStairs$History", "rows", "[LCoalStairs$Street;", true)
  | 1 => ("CoalStairs$History", "next", "I", false)
  | _ => ("CoalStairs$History", "count", "I", false)
def tyX2 : Nat → FieldType := fun k => match k with
  | 0 => .array (.object "CoalStairs$Street")
  | 1 => .int
  | _ => .int
theorem nmX2 : ∀ a, a < 3 → ∀ b, b < 3 → a ≠ b → (TX2 a).2.1 ≠ (TX2 b).2.1 := by decide +kernel
theorem tyX2_ok : ∀ k, k < 3 → parseFieldDescriptor (TX2 k).2.2.1 = some (tyX2 k) := by decide +kernel
abbrev cX2_init : ByteArray := prog_4_method_1_code
def yX2_init : MethodName := ⟨RX2, "<init>", "()V"⟩
abbrev cX2_note : ByteArray := prog_4_method_2_code
def yX2_note : MethodName := ⟨RX2, "note", "(LCoalStairs$Street;)V"⟩
abbrev cX2_bringBackNoted : ByteArray := prog_4_method_3_code
def yX2_bringBackNoted : MethodName := ⟨RX2, "bringBackNoted", "(LCoalStairs$Street;)V"⟩
abbrev cX2_keepNoted : ByteArray := prog_4_method_4_code
def yX2_keepNoted : MethodName := ⟨RX2, "keepNoted", "()V"⟩
abbrev cX2_bringBackLatest : ByteArray := prog_4_method_5_code
def yX2_bringBackLatest : MethodName := ⟨RX2, "bringBackLatest", "(LCoalStairs$Street;)V"⟩
abbrev cX2_forget : ByteArray := prog_4_method_6_code
def yX2_forget : MethodName := ⟨RX2, "forget", "()V"⟩
def RX3 : String := "CoalStairs$House"
def TX3 : u_T := fun k => match k with
  | 0 => ("CoalStairs$House", "flights", "I", false)
  | 1 => ("CoalStairs$House", "dog", "I", false)
  | 2 => ("CoalStairs$House", "ordered", "I", false)
  | 3 => ("CoalStairs$House", "due", "I", false)
  | 4 => ("CoalStairs$House", "arrears", "I", false)
  | 5 => ("CoalStairs$House", "footprints", "I", false)
  | 6 => ("CoalStairs$House", "carriedToday", "I", false)
  | 7 => ("CoalStairs$House", "hasBone", "Z", false)
  | _ => ("CoalStairs$House", "carriedSoFar", "I", false)
def tyX3 : Nat → FieldType := fun k => match k with
  | 0 => .int
  | 1 => .int
  | 2 => .int
  | 3 => .int
  | 4 => .int
  | 5 => .int
  | 6 => .int
  | 7 => .boolean
  | _ => .int
theorem nmX3 : ∀ a, a < 9 → ∀ b, b < 9 → a ≠ b → (TX3 a).2.1 ≠ (TX3 b).2.1 := by decide +kernel
theorem tyX3_ok : ∀ k, k < 9 → parseFieldDescriptor (TX3 k).2.2.1 = some (tyX3 k) := by decide +kernel
abbrev cX3_init : ByteArray := prog_5_method_1_code
def yX3_init : MethodName := ⟨RX3, "<init>", "()V"⟩
abbrev cX3_copyFrom : ByteArray := prog_5_method_2_code
def yX3_copyFrom : MethodName := ⟨RX3, "copyFrom", "(LCoalStairs$House;)V"⟩
abbrev cX3_number : ByteArray := prog_5_method_3_code
def yX3_number : MethodName := ⟨RX3, "number", "(I)I"⟩
abbrev cX3_dogStillLets : ByteArray := prog_5_method_4_code
def yX3_dogStillLets : MethodName := ⟨RX3, "dogStillLets", "()I"⟩
abbrev cX3_takeSack : ByteArray := prog_5_method_5_code
def yX3_takeSack : MethodName := ⟨RX3, "takeSack", "(I)V"⟩
abbrev cX3_beginDay : ByteArray := prog_5_method_6_code
def yX3_beginDay : MethodName := ⟨RX3, "beginDay", "()V"⟩
abbrev cX3_beginWeek : ByteArray := prog_5_method_7_code
def yX3_beginWeek : MethodName := ⟨RX3, "beginWeek", "()V"⟩
abbrev cX3_writeDog : ByteArray := prog_5_method_8_code
def yX3_writeDog : MethodName := ⟨RX3, "writeDog", "(Ljava/lang/StringBuilder;)V"⟩
def RX4 : String := "CoalStairs$Reason"
def TX4 : u_T := fun k => match k with
  | 0 => ("CoalStairs$Reason", "why", "I", false)
  | 1 => ("CoalStairs$Reason", "detail", "I", false)
  | _ => ("CoalStairs$Reason", "command", "I", false)
def tyX4 : Nat → FieldType := fun k => match k with
  | 0 => .int
  | 1 => .int
  | _ => .int
theorem nmX4 : ∀ a, a < 3 → ∀ b, b < 3 → a ≠ b → (TX4 a).2.1 ≠ (TX4 b).2.1 := by decide +kernel
theorem tyX4_ok : ∀ k, k < 3 → parseFieldDescriptor (TX4 k).2.2.1 = some (tyX4 k) := by decide +kernel
abbrev cX4_init : ByteArray := prog_6_method_1_code
def yX4_init : MethodName := ⟨RX4, "<init>", "()V"⟩
abbrev cX4_refuse : ByteArray := prog_6_method_2_code
def yX4_refuse : MethodName := ⟨RX4, "refuse", "(II)I"⟩
def RX5 : String := "CoalStairs$Street"
def TX5 : u_T := fun k => match k with
  | 0 => ("CoalStairs$Street", "houses", "[LCoalStairs$House;", true)
  | 1 => ("CoalStairs$Street", "carriers", "[LCoalStairs$Carrier;", true)
  | 2 => ("CoalStairs$Street", "worn", "[I", true)
  | 3 => ("CoalStairs$Street", "houseCount", "I", false)
  | 4 => ("CoalStairs$Street", "carrierCount", "I", false)
  | 5 => ("CoalStairs$Street", "day", "I", false)
  | 6 => ("CoalStairs$Street", "place", "I", false)
  | 7 => ("CoalStairs$Street", "onCart", "I", false)
  | 8 => ("CoalStairs$Street", "inYard", "I", false)
  | 9 => ("CoalStairs$Street", "coins", "I", false)
  | 10 => ("CoalStairs$Street", "bonesLeft", "I", false)
  | 11 => ("CoalStairs$Street", "paid", "I", false)
  | _ => ("CoalStairs$Street", "uphill", "I", false)
def tyX5 : Nat → FieldType := fun k => match k with
  | 0 => .array (.object "CoalStairs$House")
  | 1 => .array (.object "CoalStairs$Carrier")
  | 2 => .array .int
  | 3 => .int
  | 4 => .int
  | 5 => .int
  | 6 => .int
  | 7 => .int
  | 8 => .int
  | 9 => .int
  | 10 => .int
  | 11 => .int
  | _ => .int
theorem nmX5 : ∀ a, a < 13 → ∀ b, b < 13 → a ≠ b → (TX5 a).2.1 ≠ (TX5 b).2.1 := by decide +kernel
theorem tyX5_ok : ∀ k, k < 13 → parseFieldDescriptor (TX5 k).2.2.1 = some (tyX5 k) := by decide +kernel
abbrev cX5_init : ByteArray := prog_7_method_1_code
def yX5_init : MethodName := ⟨RX5, "<init>", "()V"⟩
abbrev cX5_copyFrom : ByteArray := prog_7_method_2_code
def yX5_copyFrom : MethodName := ⟨RX5, "copyFrom", "(LCoalStairs$Street;)V"⟩
abbrev cX5_houseAt : ByteArray := prog_7_method_3_code
def yX5_houseAt : MethodName := ⟨RX5, "houseAt", "(I)LCoalStairs$House;"⟩
abbrev cX5_houseHere : ByteArray := prog_7_method_4_code
def yX5_houseHere : MethodName := ⟨RX5, "houseHere", "()LCoalStairs$House;"⟩
abbrev cX5_carrierAt : ByteArray := prog_7_method_5_code
def yX5_carrierAt : MethodName := ⟨RX5, "carrierAt", "(I)LCoalStairs$Carrier;"⟩
abbrev cX5_shoesLeft : ByteArray := prog_7_method_6_code
def yX5_shoesLeft : MethodName := ⟨RX5, "shoesLeft", "()I"⟩
abbrev cX5_goUphill : ByteArray := prog_7_method_7_code
def yX5_goUphill : MethodName := ⟨RX5, "goUphill", "(I)V"⟩
abbrev cX5_beginDay : ByteArray := prog_7_method_8_code
def yX5_beginDay : MethodName := ⟨RX5, "beginDay", "()V"⟩
abbrev cX5_sumOf : ByteArray := prog_7_method_9_code
def yX5_sumOf : MethodName := ⟨RX5, "sumOf", "(I)I"⟩
abbrev cX5_sacksOfCarriers : ByteArray := prog_7_method_10_code
def yX5_sacksOfCarriers : MethodName := ⟨RX5, "sacksOfCarriers", "()I"⟩
abbrev cX5_coinsForSacks : ByteArray := prog_7_method_11_code
def yX5_coinsForSacks : MethodName := ⟨RX5, "coinsForSacks", "()I"⟩
abbrev cX5_strongestFor : ByteArray := prog_7_method_12_code
def yX5_strongestFor : MethodName := ⟨RX5, "strongestFor", "(LCoalStairs$House;)I"⟩
abbrev cX5_houseOfRank : ByteArray := prog_7_method_13_code
def yX5_houseOfRank : MethodName := ⟨RX5, "houseOfRank", "(I)I"⟩
abbrev cX5_isAhead : ByteArray := prog_7_method_14_code
def yX5_isAhead : MethodName := ⟨RX5, "isAhead", "(II)Z"⟩
abbrev cX5_number : ByteArray := prog_7_method_15_code
def yX5_number : MethodName := ⟨RX5, "number", "(I)I"⟩
def RX6 : String := "CoalStairs$Work"
def TX6 : u_T := fun k => match k with
  | 0 => ("CoalStairs$Work", "street", "LCoalStairs$Street;", true)
  | _ => ("CoalStairs$Work", "reason", "LCoalStairs$Reason;", true)
def tyX6 : Nat → FieldType := fun k => match k with
  | 0 => .object "CoalStairs$Street"
  | _ => .object "CoalStairs$Reason"
theorem nmX6 : ∀ a, a < 2 → ∀ b, b < 2 → a ≠ b → (TX6 a).2.1 ≠ (TX6 b).2.1 := by decide +kernel
theorem tyX6_ok : ∀ k, k < 2 → parseFieldDescriptor (TX6 k).2.2.1 = some (tyX6 k) := by decide +kernel
abbrev cX6_init : ByteArray := prog_8_method_1_code
def yX6_init : MethodName := ⟨RX6, "<init>", "()V"⟩
abbrev cX6_addHouse : ByteArray := prog_8_method_2_code
def yX6_addHouse : MethodName := ⟨RX6, "addHouse", "(II)I"⟩
abbrev cX6_setOrder : ByteArray := prog_8_method_3_code
def yX6_setOrder : MethodName := ⟨RX6, "setOrder", "(II)I"⟩
abbrev cX6_addCarrier : ByteArray := prog_8_method_4_code
def yX6_addCarrier : MethodName := ⟨RX6, "addCarrier", "(I)I"⟩
abbrev cX6_loadCart : ByteArray := prog_8_method_5_code
def yX6_loadCart : MethodName := ⟨RX6, "loadCart", "(I)I"⟩
abbrev cX6_driveCart : ByteArray := prog_8_method_6_code
def yX6_driveCart : MethodName := ⟨RX6, "driveCart", "(I)I"⟩
abbrev cX6_carryUp : ByteArray := prog_8_method_7_code
def yX6_carryUp : MethodName := ⟨RX6, "carryUp", "(II)I"⟩
abbrev cX6_isRefusedByHouse : ByteArray := prog_8_method_8_code
def yX6_isRefusedByHouse : MethodName := ⟨RX6, "isRefusedByHouse", "(LCoalStairs$House;I)Z"⟩
abbrev cX6_mostThatAreLet : ByteArray := prog_8_method_9_code
def yX6_mostThatAreLet : MethodName := ⟨RX6, "mostThatAreLet", "(LCoalStairs$Carrier;)I"⟩
abbrev cX6_giveBone : ByteArray := prog_8_method_10_code
def yX6_giveBone : MethodName := ⟨RX6, "giveBone", "()I"⟩
abbrev cX6_buyBones : ByteArray := prog_8_method_11_code
def yX6_buyBones : MethodName := ⟨RX6, "buyBones", "(I)I"⟩
abbrev cX6_mopStairs : ByteArray := prog_8_method_12_code
def yX6_mopStairs : MethodName := ⟨RX6, "mopStairs", "(I)I"⟩
abbrev cX6_takePay : ByteArray := prog_8_method_13_code
def yX6_takePay : MethodName := ⟨RX6, "takePay", "(II)I"⟩
abbrev cX6_shoeHorse : ByteArray := prog_8_method_14_code
def yX6_shoeHorse : MethodName := ⟨RX6, "shoeHorse", "(I)I"⟩
abbrev cX6_passDays : ByteArray := prog_8_method_15_code
def yX6_passDays : MethodName := ⟨RX6, "passDays", "(I)I"⟩
abbrev cX6_carryOut : ByteArray := prog_8_method_16_code
def yX6_carryOut : MethodName := ⟨RX6, "carryOut", "(III)I"⟩
def RX7 : String := "CoalStairs"
def TX7 : u_T := fun k => match k with
  | 0 => ("CoalStairs", "work", "LCoalStairs$Work;", true)
  | 1 => ("CoalStairs", "street", "LCoalStairs$Street;", true)
  | 2 => ("CoalStairs", "kept", "LCoalStairs$Reason;", true)
  | 3 => ("CoalStairs", "history", "LCoalStairs$History;", true)
  | 4 => ("CoalStairs", "snapshot", "LCoalStairs$Street;", true)
  | 5 => ("CoalStairs", "hasSnapshot", "Z", false)
  | 6 => ("CoalStairs", "text", "LCoalStairs$CommandText;", true)
  | 7 => ("CoalStairs", "fault", "I", false)
  | _ => ("CoalStairs", "written", "Ljava/lang/StringBuilder;", true)
def tyX7 : Nat → FieldType := fun k => match k with
  | 0 => .object "CoalStairs$Work"
  | 1 => .object "CoalStairs$Street"
  | 2 => .object "CoalStairs$Reason"
  | 3 => .object "CoalStairs$History"
  | 4 => .object "CoalStairs$Street"
  | 5 => .boolean
  | 6 => .object "CoalStairs$CommandText"
  | 7 => .int
  | _ => .object "java/lang/StringBuilder"
theorem nmX7 : ∀ a, a < 9 → ∀ b, b < 9 → a ≠ b → (TX7 a).2.1 ≠ (TX7 b).2.1 := by decide +kernel
theorem tyX7_ok : ∀ k, k < 9 → parseFieldDescriptor (TX7 k).2.2.1 = some (tyX7 k) := by decide +kernel
abbrev cX7_init : ByteArray := prog_1_method_1_code
def yX7_init : MethodName := ⟨RX7, "<init>", "()V"⟩
abbrev cX7_house : ByteArray := prog_1_method_2_code
def yX7_house : MethodName := ⟨RX7, "house", "(II)I"⟩
abbrev cX7_order : ByteArray := prog_1_method_3_code
def yX7_order : MethodName := ⟨RX7, "order", "(II)I"⟩
abbrev cX7_carrier : ByteArray := prog_1_method_4_code
def yX7_carrier : MethodName := ⟨RX7, "carrier", "(I)I"⟩
abbrev cX7_load : ByteArray := prog_1_method_5_code
def yX7_load : MethodName := ⟨RX7, "load", "(I)I"⟩
abbrev cX7_drive : ByteArray := prog_1_method_6_code
def yX7_drive : MethodName := ⟨RX7, "drive", "(I)I"⟩
abbrev cX7_carry : ByteArray := prog_1_method_7_code
def yX7_carry : MethodName := ⟨RX7, "carry", "(II)I"⟩
abbrev cX7_bone : ByteArray := prog_1_method_8_code
def yX7_bone : MethodName := ⟨RX7, "bone", "()I"⟩
abbrev cX7_bones : ByteArray := prog_1_method_9_code
def yX7_bones : MethodName := ⟨RX7, "bones", "(I)I"⟩
abbrev cX7_mop : ByteArray := prog_1_method_10_code
def yX7_mop : MethodName := ⟨RX7, "mop", "(I)I"⟩
abbrev cX7_pay : ByteArray := prog_1_method_11_code
def yX7_pay : MethodName := ⟨RX7, "pay", "(II)I"⟩
abbrev cX7_shoe : ByteArray := prog_1_method_12_code
def yX7_shoe : MethodName := ⟨RX7, "shoe", "(I)I"⟩
abbrev cX7_days : ByteArray := prog_1_method_13_code
def yX7_days : MethodName := ⟨RX7, "days", "(I)I"⟩
abbrev cX7_houseOf : ByteArray := prog_1_method_14_code
def yX7_houseOf : MethodName := ⟨RX7, "houseOf", "(II)I"⟩
abbrev cX7_carrierOf : ByteArray := prog_1_method_15_code
def yX7_carrierOf : MethodName := ⟨RX7, "carrierOf", "(II)I"⟩
abbrev cX7_shoeOf : ByteArray := prog_1_method_16_code
def yX7_shoeOf : MethodName := ⟨RX7, "shoeOf", "(I)I"⟩
abbrev cX7_tires : ByteArray := prog_1_method_17_code
def yX7_tires : MethodName := ⟨RX7, "tires", "(II)I"⟩
abbrev cX7_canCarry : ByteArray := prog_1_method_18_code
def yX7_canCarry : MethodName := ⟨RX7, "canCarry", "(II)I"⟩
abbrev cX7_mayCarry : ByteArray := prog_1_method_19_code
def yX7_mayCarry : MethodName := ⟨RX7, "mayCarry", "(I)I"⟩
abbrev cX7_bestCarrier : ByteArray := prog_1_method_20_code
def yX7_bestCarrier : MethodName := ⟨RX7, "bestCarrier", "(I)I"⟩
abbrev cX7_reach : ByteArray := prog_1_method_21_code
def yX7_reach : MethodName := ⟨RX7, "reach", "()I"⟩
abbrev cX7_isQuiet : ByteArray := prog_1_method_22_code
def yX7_isQuiet : MethodName := ⟨RX7, "isQuiet", "(I)Z"⟩
abbrev cX7_ranked : ByteArray := prog_1_method_23_code
def yX7_ranked : MethodName := ⟨RX7, "ranked", "(I)I"⟩
abbrev cX7_carried : ByteArray := prog_1_method_24_code
def yX7_carried : MethodName := ⟨RX7, "carried", "()I"⟩
abbrev cX7_carriedAgain : ByteArray := prog_1_method_25_code
def yX7_carriedAgain : MethodName := ⟨RX7, "carriedAgain", "()I"⟩
abbrev cX7_append : ByteArray := prog_1_method_26_code
def yX7_append : MethodName := ⟨RX7, "append", "(C)I"⟩
abbrev cX7_commands : ByteArray := prog_1_method_27_code
def yX7_commands : MethodName := ⟨RX7, "commands", "()I"⟩
abbrev cX7_faultPosition : ByteArray := prog_1_method_28_code
def yX7_faultPosition : MethodName := ⟨RX7, "faultPosition", "()I"⟩
abbrev cX7_reason : ByteArray := prog_1_method_29_code
def yX7_reason : MethodName := ⟨RX7, "reason", "(I)I"⟩
abbrev cX7_line : ByteArray := prog_1_method_30_code
def yX7_line : MethodName := ⟨RX7, "line", "(I)I"⟩
abbrev cX7_character : ByteArray := prog_1_method_31_code
def yX7_character : MethodName := ⟨RX7, "character", "(I)C"⟩
abbrev cX7_meanArrears : ByteArray := prog_1_method_32_code
def yX7_meanArrears : MethodName := ⟨RX7, "meanArrears", "()F"⟩
abbrev cX7_paidShare : ByteArray := prog_1_method_33_code
def yX7_paidShare : MethodName := ⟨RX7, "paidShare", "()D"⟩
abbrev cX7_account : ByteArray := prog_1_method_34_code
def yX7_account : MethodName := ⟨RX7, "account", "(I)I"⟩
abbrev cX7_undo : ByteArray := prog_1_method_35_code
def yX7_undo : MethodName := ⟨RX7, "undo", "()I"⟩
abbrev cX7_save : ByteArray := prog_1_method_36_code
def yX7_save : MethodName := ⟨RX7, "save", "()I"⟩
abbrev cX7_restore : ByteArray := prog_1_method_37_code
def yX7_restore : MethodName := ⟨RX7, "restore", "()I"⟩
abbrev cX7_settled : ByteArray := prog_1_method_38_code
def yX7_settled : MethodName := ⟨RX7, "settled", "(I)I"⟩
abbrev cX7_allCarriedOut : ByteArray := prog_1_method_39_code
def yX7_allCarriedOut : MethodName := ⟨RX7, "allCarriedOut", "()Z"⟩
abbrev cX7_isOutside : ByteArray := prog_1_method_40_code
def yX7_isOutside : MethodName := ⟨RX7, "isOutside", "(III)Z"⟩
def RX8 : String := "CoalStairsModel"
def TX8 : u_T := fun k => match k with
  | 0 => ("CoalStairsModel", "now", "[I", true)
  | 1 => ("CoalStairsModel", "before", "[I", true)
  | 2 => ("CoalStairsModel", "saved", "[I", true)
  | 3 => ("CoalStairsModel", "history", "[I", true)
  | 4 => ("CoalStairsModel", "isSaved", "Z", false)
  | 5 => ("CoalStairsModel", "remembered", "I", false)
  | 6 => ("CoalStairsModel", "thrown", "I", false)
  | 7 => ("CoalStairsModel", "reason", "I", false)
  | 8 => ("CoalStairsModel", "detail", "I", false)
  | 9 => ("CoalStairsModel", "reasonAt", "I", false)
  | 10 => ("CoalStairsModel", "text", "[I", true)
  | 11 => ("CoalStairsModel", "typed", "I", false)
  | 12 => ("CoalStairsModel", "errorAt", "I", false)
  | 13 => ("CoalStairsModel", "line", "[I", true)
  | 14 => ("CoalStairsModel", "lined", "I", false)
  | 15 => ("CoalStairsModel", "why", "I", false)
  | 16 => ("CoalStairsModel", "what", "I", false)
  | 17 => ("CoalStairsModel", "size", "I", false)
  | 18 => ("CoalStairsModel", "at", "I", false)
  | 19 => ("CoalStairsModel", "wrong", "I", false)
  | 20 => ("CoalStairsModel", "told", "I", false)
  | 21 => ("CoalStairsModel", "kinds", "[I", true)
  | _ => ("CoalStairsModel", "numbers", "[I", true)
def tyX8 : Nat → FieldType := fun k => match k with
  | 0 => .array .int
  | 1 => .array .int
  | 2 => .array .int
  | 3 => .array .int
  | 4 => .boolean
  | 5 => .int
  | 6 => .int
  | 7 => .int
  | 8 => .int
  | 9 => .int
  | 10 => .array .int
  | 11 => .int
  | 12 => .int
  | 13 => .array .int
  | 14 => .int
  | 15 => .int
  | 16 => .int
  | 17 => .int
  | 18 => .int
  | 19 => .int
  | 20 => .int
  | 21 => .array .int
  | _ => .array .int
theorem nmX8 : ∀ a, a < 23 → ∀ b, b < 23 → a ≠ b → (TX8 a).2.1 ≠ (TX8 b).2.1 := by decide +kernel
theorem tyX8_ok : ∀ k, k < 23 → parseFieldDescriptor (TX8 k).2.2.1 = some (tyX8 k) := by decide +kernel
abbrev cX8_init : ByteArray := prog_10_method_1_code
def yX8_init : MethodName := ⟨RX8, "<init>", "()V"⟩
abbrev cX8_thrown : ByteArray := prog_10_method_2_code
def yX8_thrown : MethodName := ⟨RX8, "thrown", "()I"⟩
abbrev cX8_isIn : ByteArray := prog_10_method_3_code
def yX8_isIn : MethodName := ⟨RX8, "isIn", "(III)Z"⟩
abbrev cX8_copies : ByteArray := prog_10_method_4_code
def yX8_copies : MethodName := ⟨RX8, "copies", "([II[II)V"⟩
abbrev cX8_hinders : ByteArray := prog_10_method_5_code
def yX8_hinders : MethodName := ⟨RX8, "hinders", "(ZII)V"⟩
abbrev cX8_begins : ByteArray := prog_10_method_6_code
def yX8_begins : MethodName := ⟨RX8, "begins", "()V"⟩
abbrev cX8_remembers : ByteArray := prog_10_method_7_code
def yX8_remembers : MethodName := ⟨RX8, "remembers", "()V"⟩
abbrev cX8_ends : ByteArray := prog_10_method_8_code
def yX8_ends : MethodName := ⟨RX8, "ends", "(III)I"⟩
abbrev cX8_reason : ByteArray := prog_10_method_9_code
def yX8_reason : MethodName := ⟨RX8, "reason", "(I)I"⟩
abbrev cX8_undo : ByteArray := prog_10_method_10_code
def yX8_undo : MethodName := ⟨RX8, "undo", "()I"⟩
abbrev cX8_save : ByteArray := prog_10_method_11_code
def yX8_save : MethodName := ⟨RX8, "save", "()I"⟩
abbrev cX8_restore : ByteArray := prog_10_method_12_code
def yX8_restore : MethodName := ⟨RX8, "restore", "()I"⟩
abbrev cX8_isHouse : ByteArray := prog_10_method_13_code
def yX8_isHouse : MethodName := ⟨RX8, "isHouse", "(I)Z"⟩
abbrev cX8_of : ByteArray := prog_10_method_14_code
def yX8_of : MethodName := ⟨RX8, "of", "(II)I"⟩
abbrev cX8_becomes : ByteArray := prog_10_method_15_code
def yX8_becomes : MethodName := ⟨RX8, "becomes", "(III)V"⟩
abbrev cX8_isCarrier : ByteArray := prog_10_method_16_code
def yX8_isCarrier : MethodName := ⟨RX8, "isCarrier", "(I)Z"⟩
abbrev cX8_ofCarrier : ByteArray := prog_10_method_17_code
def yX8_ofCarrier : MethodName := ⟨RX8, "ofCarrier", "(II)I"⟩
abbrev cX8_carrierBecomes : ByteArray := prog_10_method_18_code
def yX8_carrierBecomes : MethodName := ⟨RX8, "carrierBecomes", "(III)V"⟩
abbrev cX8_lets : ByteArray := prog_10_method_19_code
def yX8_lets : MethodName := ⟨RX8, "lets", "(I)I"⟩
abbrev cX8_tiredBy : ByteArray := prog_10_method_20_code
def yX8_tiredBy : MethodName := ⟨RX8, "tiredBy", "(II)I"⟩
abbrev cX8_canBy : ByteArray := prog_10_method_21_code
def yX8_canBy : MethodName := ⟨RX8, "canBy", "(II)I"⟩
abbrev cX8_house : ByteArray := prog_10_method_22_code
def yX8_house : MethodName := ⟨RX8, "house", "(II)I"⟩
abbrev cX8_order : ByteArray := prog_10_method_23_code
def yX8_order : MethodName := ⟨RX8, "order", "(II)I"⟩
abbrev cX8_carrier : ByteArray := prog_10_method_24_code
def yX8_carrier : MethodName := ⟨RX8, "carrier", "(I)I"⟩
abbrev cX8_houseOf : ByteArray := prog_10_method_25_code
def yX8_houseOf : MethodName := ⟨RX8, "houseOf", "(II)I"⟩
abbrev cX8_carrierOf : ByteArray := prog_10_method_26_code
def yX8_carrierOf : MethodName := ⟨RX8, "carrierOf", "(II)I"⟩
abbrev cX8_isShoe : ByteArray := prog_10_method_27_code
def yX8_isShoe : MethodName := ⟨RX8, "isShoe", "(I)Z"⟩
abbrev cX8_shoes : ByteArray := prog_10_method_28_code
def yX8_shoes : MethodName := ⟨RX8, "shoes", "()I"⟩
abbrev cX8_loads : ByteArray := prog_10_method_29_code
def yX8_loads : MethodName := ⟨RX8, "loads", "(I)I"⟩
abbrev cX8_load : ByteArray := prog_10_method_30_code
def yX8_load : MethodName := ⟨RX8, "load", "(I)I"⟩
abbrev cX8_drives : ByteArray := prog_10_method_31_code
def yX8_drives : MethodName := ⟨RX8, "drives", "(I)I"⟩
abbrev cX8_drive : ByteArray := prog_10_method_32_code
def yX8_drive : MethodName := ⟨RX8, "drive", "(I)I"⟩
abbrev cX8_shods : ByteArray := prog_10_method_33_code
def yX8_shods : MethodName := ⟨RX8, "shods", "(I)I"⟩
abbrev cX8_shoe : ByteArray := prog_10_method_34_code
def yX8_shoe : MethodName := ⟨RX8, "shoe", "(I)I"⟩
abbrev cX8_shoeOf : ByteArray := prog_10_method_35_code
def yX8_shoeOf : MethodName := ⟨RX8, "shoeOf", "(I)I"⟩
abbrev cX8_reach : ByteArray := prog_10_method_36_code
def yX8_reach : MethodName := ⟨RX8, "reach", "()I"⟩
abbrev cX8_here : ByteArray := prog_10_method_37_code
def yX8_here : MethodName := ⟨RX8, "here", "()I"⟩
abbrev cX8_sackGoesUp : ByteArray := prog_10_method_38_code
def yX8_sackGoesUp : MethodName := ⟨RX8, "sackGoesUp", "(II)V"⟩
abbrev cX8_carries : ByteArray := prog_10_method_39_code
def yX8_carries : MethodName := ⟨RX8, "carries", "(II)I"⟩
abbrev cX8_carry : ByteArray := prog_10_method_40_code
def yX8_carry : MethodName := ⟨RX8, "carry", "(II)I"⟩
abbrev cX8_givesBone : ByteArray := prog_10_method_41_code
def yX8_givesBone : MethodName := ⟨RX8, "givesBone", "()I"⟩
abbrev cX8_bone : ByteArray := prog_10_method_42_code
def yX8_bone : MethodName := ⟨RX8, "bone", "()I"⟩
abbrev cX8_bones : ByteArray := prog_10_method_43_code
def yX8_bones : MethodName := ⟨RX8, "bones", "(I)I"⟩
abbrev cX8_mops : ByteArray := prog_10_method_44_code
def yX8_mops : MethodName := ⟨RX8, "mops", "(I)I"⟩
abbrev cX8_mop : ByteArray := prog_10_method_45_code
def yX8_mop : MethodName := ⟨RX8, "mop", "(I)I"⟩
abbrev cX8_pays : ByteArray := prog_10_method_46_code
def yX8_pays : MethodName := ⟨RX8, "pays", "(II)I"⟩
abbrev cX8_pay : ByteArray := prog_10_method_47_code
def yX8_pay : MethodName := ⟨RX8, "pay", "(II)I"⟩
abbrev cX8_dayGoes : ByteArray := prog_10_method_48_code
def yX8_dayGoes : MethodName := ⟨RX8, "dayGoes", "()V"⟩
abbrev cX8_sum : ByteArray := prog_10_method_49_code
def yX8_sum : MethodName := ⟨RX8, "sum", "(I)I"⟩
abbrev cX8_goes : ByteArray := prog_10_method_50_code
def yX8_goes : MethodName := ⟨RX8, "goes", "(I)I"⟩
abbrev cX8_days : ByteArray := prog_10_method_51_code
def yX8_days : MethodName := ⟨RX8, "days", "(I)I"⟩
abbrev cX8_tires : ByteArray := prog_10_method_52_code
def yX8_tires : MethodName := ⟨RX8, "tires", "(II)I"⟩
abbrev cX8_canCarry : ByteArray := prog_10_method_53_code
def yX8_canCarry : MethodName := ⟨RX8, "canCarry", "(II)I"⟩
abbrev cX8_mayCarry : ByteArray := prog_10_method_54_code
def yX8_mayCarry : MethodName := ⟨RX8, "mayCarry", "(I)I"⟩
abbrev cX8_bestCarrier : ByteArray := prog_10_method_55_code
def yX8_bestCarrier : MethodName := ⟨RX8, "bestCarrier", "(I)I"⟩
abbrev cX8_isQuiet : ByteArray := prog_10_method_56_code
def yX8_isQuiet : MethodName := ⟨RX8, "isQuiet", "(I)Z"⟩
abbrev cX8_isAhead : ByteArray := prog_10_method_57_code
def yX8_isAhead : MethodName := ⟨RX8, "isAhead", "(II)Z"⟩
abbrev cX8_ranked : ByteArray := prog_10_method_58_code
def yX8_ranked : MethodName := ⟨RX8, "ranked", "(I)I"⟩
abbrev cX8_carried : ByteArray := prog_10_method_59_code
def yX8_carried : MethodName := ⟨RX8, "carried", "()I"⟩
abbrev cX8_carriedAgain : ByteArray := prog_10_method_60_code
def yX8_carriedAgain : MethodName := ⟨RX8, "carriedAgain", "()I"⟩
abbrev cX8_put : ByteArray := prog_10_method_61_code
def yX8_put : MethodName := ⟨RX8, "put", "(II)I"⟩
abbrev cX8_writesNumber : ByteArray := prog_10_method_62_code
def yX8_writesNumber : MethodName := ⟨RX8, "writesNumber", "(II)I"⟩
abbrev cX8_line : ByteArray := prog_10_method_63_code
def yX8_line : MethodName := ⟨RX8, "line", "(I)I"⟩
abbrev cX8_character : ByteArray := prog_10_method_64_code
def yX8_character : MethodName := ⟨RX8, "character", "(I)C"⟩
abbrev cX8_meanArrears : ByteArray := prog_10_method_65_code
def yX8_meanArrears : MethodName := ⟨RX8, "meanArrears", "()F"⟩
abbrev cX8_paidShare : ByteArray := prog_10_method_66_code
def yX8_paidShare : MethodName := ⟨RX8, "paidShare", "()D"⟩
abbrev cX8_account : ByteArray := prog_10_method_67_code
def yX8_account : MethodName := ⟨RX8, "account", "(I)I"⟩
abbrev cX8_append : ByteArray := prog_10_method_68_code
def yX8_append : MethodName := ⟨RX8, "append", "(C)I"⟩
abbrev cX8_sign : ByteArray := prog_10_method_69_code
def yX8_sign : MethodName := ⟨RX8, "sign", "()I"⟩
abbrev cX8_reads : ByteArray := prog_10_method_70_code
def yX8_reads : MethodName := ⟨RX8, "reads", "(II)I"⟩
abbrev cX8_digits : ByteArray := prog_10_method_71_code
def yX8_digits : MethodName := ⟨RX8, "digits", "(Z)I"⟩
abbrev cX8_kind : ByteArray := prog_10_method_72_code
def yX8_kind : MethodName := ⟨RX8, "kind", "()I"⟩
abbrev cX8_readsCommand : ByteArray := prog_10_method_73_code
def yX8_readsCommand : MethodName := ⟨RX8, "readsCommand", "()V"⟩
abbrev cX8_readsAll : ByteArray := prog_10_method_74_code
def yX8_readsAll : MethodName := ⟨RX8, "readsAll", "()V"⟩
abbrev cX8_does : ByteArray := prog_10_method_75_code
def yX8_does : MethodName := ⟨RX8, "does", "(III)I"⟩
abbrev cX8_commands : ByteArray := prog_10_method_76_code
def yX8_commands : MethodName := ⟨RX8, "commands", "()I"⟩
abbrev cX8_faultPosition : ByteArray := prog_10_method_77_code
def yX8_faultPosition : MethodName := ⟨RX8, "faultPosition", "()I"⟩
def RJx145de : String := "java/io/Serializable"
def TJx145de : u_T := fun k => match k with
  | _ => ("", "", "", false)
def tyJx145de : Nat → FieldType := fun k => match k with
  | _ => .int
theorem nmJx145de : ∀ a, a < 0 → ∀ b, b < 0 → a ≠ b → (TJx145de a).2.1 ≠ (TJx145de b).2.1 := by decide +kernel
theorem tyJx145de_ok : ∀ k, k < 0 → parseFieldDescriptor (TJx145de k).2.2.1 = some (tyJx145de k) := by decide +kernel
def RJ5 : String := "java/lang/AbstractStringBuilder"
def TJ5 : u_T := fun k => match k with
  | _ => ("", "", "", false)
def tyJ5 : Nat → FieldType := fun k => match k with
  | _ => .int
theorem nmJ5 : ∀ a, a < 0 → ∀ b, b < 0 → a ≠ b → (TJ5 a).2.1 ≠ (TJ5 b).2.1 := by decide +kernel
theorem tyJ5_ok : ∀ k, k < 0 → parseFieldDescriptor (TJ5 k).2.2.1 = some (tyJ5 k) := by decide +kernel
abbrev cJ5_init_d00df : ByteArray := prog_12_method_2_code
def yJ5_init_d00df : MethodName := ⟨RJ5, "<init>", "(I)V"⟩
abbrev cJ5_length_8abf5 : ByteArray := prog_12_method_6_code
def yJ5_length_8abf5 : MethodName := ⟨RJ5, "length", "()I"⟩
abbrev cJ5_ensureCapacityInternal_d00df : ByteArray := prog_12_method_9_code
def yJ5_ensureCapacityInternal_d00df : MethodName := ⟨RJ5, "ensureCapacityInternal", "(I)V"⟩
abbrev cJ5_newCapacity_0f7a4 : ByteArray := prog_12_method_10_code
def yJ5_newCapacity_0f7a4 : MethodName := ⟨RJ5, "newCapacity", "(I)I"⟩
abbrev cJ5_inflate_da8c8 : ByteArray := prog_12_method_11_code
def yJ5_inflate_da8c8 : MethodName := ⟨RJ5, "inflate", "()V"⟩
abbrev cJ5_setLength_d00df : ByteArray := prog_12_method_13_code
def yJ5_setLength_d00df : MethodName := ⟨RJ5, "setLength", "(I)V"⟩
abbrev cJ5_charAt_5068e : ByteArray := prog_12_method_14_code
def yJ5_charAt_5068e : MethodName := ⟨RJ5, "charAt", "(I)C"⟩
abbrev cJ5_append_cf1ce : ByteArray := prog_12_method_22_code
def yJ5_append_cf1ce : MethodName := ⟨RJ5, "append", "(Ljava/lang/String;)Ljava/lang/AbstractStringBuilder;"⟩
abbrev cJ5_appendNull_278bc : ByteArray := prog_12_method_26_code
def yJ5_appendNull_278bc : MethodName := ⟨RJ5, "appendNull", "()Ljava/lang/AbstractStringBuilder;"⟩
abbrev cJ5_append_3fe6f : ByteArray := prog_12_method_31_code
def yJ5_append_3fe6f : MethodName := ⟨RJ5, "append", "(C)Ljava/lang/AbstractStringBuilder;"⟩
abbrev cJ5_append_c97b9 : ByteArray := prog_12_method_32_code
def yJ5_append_c97b9 : MethodName := ⟨RJ5, "append", "(I)Ljava/lang/AbstractStringBuilder;"⟩
abbrev cJ5_getValue_6d5f1 : ByteArray := prog_12_method_64_code
def yJ5_getValue_6d5f1 : MethodName := ⟨RJ5, "getValue", "()[B"⟩
abbrev cJ5_isLatin1_aae02 : ByteArray := prog_12_method_68_code
def yJ5_isLatin1_aae02 : MethodName := ⟨RJ5, "isLatin1", "()Z"⟩
abbrev cJ5_inflateIfNeededFor_a7421 : ByteArray := prog_12_method_71_code
def yJ5_inflateIfNeededFor_a7421 : MethodName := ⟨RJ5, "inflateIfNeededFor", "(Ljava/lang/String;)V"⟩
abbrev cJ5_putStringAt_47b60 : ByteArray := prog_12_method_73_code
def yJ5_putStringAt_47b60 : MethodName := ⟨RJ5, "putStringAt", "(ILjava/lang/String;)V"⟩
def RJx2cfe8 : String := "java/lang/Appendable"
def TJx2cfe8 : u_T := fun k => match k with
  | _ => ("", "", "", false)
def tyJx2cfe8 : Nat → FieldType := fun k => match k with
  | _ => .int
theorem nmJx2cfe8 : ∀ a, a < 0 → ∀ b, b < 0 → a ≠ b → (TJx2cfe8 a).2.1 ≠ (TJx2cfe8 b).2.1 := by decide +kernel
theorem tyJx2cfe8_ok : ∀ k, k < 0 → parseFieldDescriptor (TJx2cfe8 k).2.2.1 = some (tyJx2cfe8 k) := by decide +kernel
def RJx00060 : String := "java/lang/ArrayIndexOutOfBoundsException"
def TJx00060 : u_T := fun k => match k with
  | 0 => ("java/lang/Throwable", "backtrace", "Ljava/lang/Object;", false)
  | 1 => ("java/lang/Throwable", "detailMessage", "Ljava/lang/String;", false)
  | 2 => ("java/lang/Throwable", "cause", "Ljava/lang/Throwable;", false)
  | 3 => ("java/lang/Throwable", "stackTrace", "[Ljava/lang/StackTraceElement;", false)
  | 4 => ("java/lang/Throwable", "depth", "I", false)
  | _ => ("java/lang/Throwable", "suppressedExceptions", "Ljava/util/List;", false)
def tyJx00060 : Nat → FieldType := fun k => match k with
  | 0 => .object "java/lang/Object"
  | 1 => .object "java/lang/String"
  | 2 => .object "java/lang/Throwable"
  | 3 => .array (.object "java/lang/StackTraceElement")
  | 4 => .int
  | _ => .object "java/util/List"
theorem nmJx00060 : ∀ a, a < 6 → ∀ b, b < 6 → a ≠ b → (TJx00060 a).2.1 ≠ (TJx00060 b).2.1 := by decide +kernel
theorem tyJx00060_ok : ∀ k, k < 6 → parseFieldDescriptor (TJx00060 k).2.2.1 = some (tyJx00060 k) := by decide +kernel
abbrev cJx00060_init_a7421 : ByteArray := prog_15_method_2_code
def yJx00060_init_a7421 : MethodName := ⟨RJx00060, "<init>", "(Ljava/lang/String;)V"⟩
abbrev cJx00060_init_d00df : ByteArray := prog_15_method_3_code
def yJx00060_init_d00df : MethodName := ⟨RJx00060, "<init>", "(I)V"⟩
def RJx9f9b0 : String := "java/lang/CharSequence"
def TJx9f9b0 : u_T := fun k => match k with
  | _ => ("", "", "", false)
def tyJx9f9b0 : Nat → FieldType := fun k => match k with
  | _ => .int
theorem nmJx9f9b0 : ∀ a, a < 0 → ∀ b, b < 0 → a ≠ b → (TJx9f9b0 a).2.1 ≠ (TJx9f9b0 b).2.1 := by decide +kernel
theorem tyJx9f9b0_ok : ∀ k, k < 0 → parseFieldDescriptor (TJx9f9b0 k).2.2.1 = some (tyJx9f9b0 k) := by decide +kernel
def RJ11 : String := "java/lang/Character"
def TJ11 : u_T := fun k => match k with
  | _ => ("", "", "", false)
def tyJ11 : Nat → FieldType := fun k => match k with
  | _ => .int
theorem nmJ11 : ∀ a, a < 0 → ∀ b, b < 0 → a ≠ b → (TJ11 a).2.1 ≠ (TJ11 b).2.1 := by decide +kernel
theorem tyJ11_ok : ∀ k, k < 0 → parseFieldDescriptor (TJ11 k).2.2.1 = some (tyJ11 k) := by decide +kernel
abbrev cJ11_isValidCodePoint_9a6ad : ByteArray := prog_17_method_11_code
def yJ11_isValidCodePoint_9a6ad : MethodName := ⟨RJ11, "isValidCodePoint", "(I)Z"⟩
abbrev cJ11_highSurrogate_5068e : ByteArray := prog_17_method_28_code
def yJ11_highSurrogate_5068e : MethodName := ⟨RJ11, "highSurrogate", "(I)C"⟩
abbrev cJ11_lowSurrogate_5068e : ByteArray := prog_17_method_29_code
def yJ11_lowSurrogate_5068e : MethodName := ⟨RJ11, "lowSurrogate", "(I)C"⟩
def RJx8e188 : String := "java/lang/Cloneable"
def TJx8e188 : u_T := fun k => match k with
  | _ => ("", "", "", false)
def tyJx8e188 : Nat → FieldType := fun k => match k with
  | _ => .int
theorem nmJx8e188 : ∀ a, a < 0 → ∀ b, b < 0 → a ≠ b → (TJx8e188 a).2.1 ≠ (TJx8e188 b).2.1 := by decide +kernel
theorem tyJx8e188_ok : ∀ k, k < 0 → parseFieldDescriptor (TJx8e188 k).2.2.1 = some (tyJx8e188 k) := by decide +kernel
def RJxb160c : String := "java/lang/Comparable"
def TJxb160c : u_T := fun k => match k with
  | _ => ("", "", "", false)
def tyJxb160c : Nat → FieldType := fun k => match k with
  | _ => .int
theorem nmJxb160c : ∀ a, a < 0 → ∀ b, b < 0 → a ≠ b → (TJxb160c a).2.1 ≠ (TJxb160c b).2.1 := by decide +kernel
theorem tyJxb160c_ok : ∀ k, k < 0 → parseFieldDescriptor (TJxb160c k).2.2.1 = some (tyJxb160c k) := by decide +kernel
def RJ6 : String := "java/lang/Integer"
def TJ6 : u_T := fun k => match k with
  | _ => ("", "", "", false)
def tyJ6 : Nat → FieldType := fun k => match k with
  | _ => .int
theorem nmJ6 : ∀ a, a < 0 → ∀ b, b < 0 → a ≠ b → (TJ6 a).2.1 ≠ (TJ6 b).2.1 := by decide +kernel
theorem tyJ6_ok : ∀ k, k < 0 → parseFieldDescriptor (TJ6 k).2.2.1 = some (tyJ6 k) := by decide +kernel
abbrev cJ6_getChars_ba4f3 : ByteArray := prog_24_method_12_code
def yJ6_getChars_ba4f3 : MethodName := ⟨RJ6, "getChars", "(II[B)I"⟩
abbrev cJ6_stringSize_0f7a4 : ByteArray := prog_24_method_13_code
def yJ6_stringSize_0f7a4 : MethodName := ⟨RJ6, "stringSize", "(I)I"⟩
def RJ9 : String := "java/lang/Math"
def TJ9 : u_T := fun k => match k with
  | _ => ("", "", "", false)
def tyJ9 : Nat → FieldType := fun k => match k with
  | _ => .int
theorem nmJ9 : ∀ a, a < 0 → ∀ b, b < 0 → a ≠ b → (TJ9 a).2.1 ≠ (TJ9 b).2.1 := by decide +kernel
theorem tyJ9_ok : ∀ k, k < 0 → parseFieldDescriptor (TJ9 k).2.2.1 = some (tyJ9 k) := by decide +kernel
abbrev cJ9_max_7cf53 : ByteArray := prog_25_method_65_code
def yJ9_max_7cf53 : MethodName := ⟨RJ9, "max", "(II)I"⟩
abbrev cJ9_min_7cf53 : ByteArray := prog_25_method_69_code
def yJ9_min_7cf53 : MethodName := ⟨RJ9, "min", "(II)I"⟩
def RJxd2413 : String := "java/lang/Number"
def TJxd2413 : u_T := fun k => match k with
  | _ => ("", "", "", false)
def tyJxd2413 : Nat → FieldType := fun k => match k with
  | _ => .int
theorem nmJxd2413 : ∀ a, a < 0 → ∀ b, b < 0 → a ≠ b → (TJxd2413 a).2.1 ≠ (TJxd2413 b).2.1 := by decide +kernel
theorem tyJxd2413_ok : ∀ k, k < 0 → parseFieldDescriptor (TJxd2413 k).2.2.1 = some (tyJxd2413 k) := by decide +kernel
def RJ0 : String := "java/lang/String"
def TJ0 : u_T := fun k => match k with
  | 0 => ("java/lang/String", "value", "[B", true)
  | 1 => ("java/lang/String", "coder", "B", true)
  | 2 => ("java/lang/String", "hash", "I", false)
  | _ => ("java/lang/String", "hashIsZero", "Z", false)
def tyJ0 : Nat → FieldType := fun k => match k with
  | 0 => .array .byte
  | 1 => .byte
  | 2 => .int
  | _ => .boolean
theorem nmJ0 : ∀ a, a < 4 → ∀ b, b < 4 → a ≠ b → (TJ0 a).2.1 ≠ (TJ0 b).2.1 := by decide +kernel
theorem tyJ0_ok : ∀ k, k < 4 → parseFieldDescriptor (TJ0 k).2.2.1 = some (tyJ0 k) := by decide +kernel
abbrev cJ0_init_81219 : ByteArray := prog_28_method_53_code
def yJ0_init_81219 : MethodName := ⟨RJ0, "<init>", "(Ljava/lang/StringBuilder;)V"⟩
abbrev cJ0_length_8abf5 : ByteArray := prog_28_method_54_code
def yJ0_length_8abf5 : MethodName := ⟨RJ0, "length", "()I"⟩
abbrev cJ0_charAt_5068e : ByteArray := prog_28_method_56_code
def yJ0_charAt_5068e : MethodName := ⟨RJ0, "charAt", "(I)C"⟩
abbrev cJ0_indexOf_0f7a4 : ByteArray := prog_28_method_79_code
def yJ0_indexOf_0f7a4 : MethodName := ⟨RJ0, "indexOf", "(I)I"⟩
abbrev cJ0_indexOf_7cf53 : ByteArray := prog_28_method_80_code
def yJ0_indexOf_7cf53 : MethodName := ⟨RJ0, "indexOf", "(II)I"⟩
abbrev cJ0_getBytes_840e7 : ByteArray := prog_28_method_147_code
def yJ0_getBytes_840e7 : MethodName := ⟨RJ0, "getBytes", "([BIB)V"⟩
abbrev cJ0_init_db425 : ByteArray := prog_28_method_150_code
def yJ0_init_db425 : MethodName := ⟨RJ0, "<init>", "(Ljava/lang/AbstractStringBuilder;Ljava/lang/Void;)V"⟩
abbrev cJ0_coder_7d493 : ByteArray := prog_28_method_152_code
def yJ0_coder_7d493 : MethodName := ⟨RJ0, "coder", "()B"⟩
abbrev cJ0_isLatin1_aae02 : ByteArray := prog_28_method_154_code
def yJ0_isLatin1_aae02 : MethodName := ⟨RJ0, "isLatin1", "()Z"⟩
abbrev cJ0_checkIndex_df160 : ByteArray := prog_28_method_155_code
def yJ0_checkIndex_df160 : MethodName := ⟨RJ0, "checkIndex", "(II)V"⟩
abbrev cJ0_checkBoundsOffCount_cabcc : ByteArray := prog_28_method_157_code
def yJ0_checkBoundsOffCount_cabcc : MethodName := ⟨RJ0, "checkBoundsOffCount", "(III)I"⟩
abbrev cJ0_checkBoundsBeginEnd_23922 : ByteArray := prog_28_method_158_code
def yJ0_checkBoundsBeginEnd_23922 : MethodName := ⟨RJ0, "checkBoundsBeginEnd", "(III)V"⟩
def RJ4 : String := "java/lang/StringBuilder"
def TJ4 : u_T := fun k => match k with
  | 0 => ("java/lang/AbstractStringBuilder", "value", "[B", false)
  | 1 => ("java/lang/AbstractStringBuilder", "coder", "B", false)
  | 2 => ("java/lang/AbstractStringBuilder", "maybeLatin1", "Z", false)
  | _ => ("java/lang/AbstractStringBuilder", "count", "I", false)
def tyJ4 : Nat → FieldType := fun k => match k with
  | 0 => .array .byte
  | 1 => .byte
  | 2 => .boolean
  | _ => .int
theorem nmJ4 : ∀ a, a < 4 → ∀ b, b < 4 → a ≠ b → (TJ4 a).2.1 ≠ (TJ4 b).2.1 := by decide +kernel
theorem tyJ4_ok : ∀ k, k < 4 → parseFieldDescriptor (TJ4 k).2.2.1 = some (tyJ4 k) := by decide +kernel
abbrev cJ4_init_da8c8 : ByteArray := prog_29_method_1_code
def yJ4_init_da8c8 : MethodName := ⟨RJ4, "<init>", "()V"⟩
abbrev cJ4_append_15ec4 : ByteArray := prog_29_method_7_code
def yJ4_append_15ec4 : MethodName := ⟨RJ4, "append", "(Ljava/lang/String;)Ljava/lang/StringBuilder;"⟩
abbrev cJ4_append_cf468 : ByteArray := prog_29_method_14_code
def yJ4_append_cf468 : MethodName := ⟨RJ4, "append", "(C)Ljava/lang/StringBuilder;"⟩
abbrev cJ4_append_bf812 : ByteArray := prog_29_method_15_code
def yJ4_append_bf812 : MethodName := ⟨RJ4, "append", "(I)Ljava/lang/StringBuilder;"⟩
abbrev cJ4_toString_0e30d : ByteArray := prog_29_method_42_code
def yJ4_toString_0e30d : MethodName := ⟨RJ4, "toString", "()Ljava/lang/String;"⟩
abbrev cJ4_charAt_5068e : ByteArray := prog_29_method_88_code
def yJ4_charAt_5068e : MethodName := ⟨RJ4, "charAt", "(I)C"⟩
abbrev cJ4_setLength_d00df : ByteArray := prog_29_method_89_code
def yJ4_setLength_d00df : MethodName := ⟨RJ4, "setLength", "(I)V"⟩
abbrev cJ4_length_8abf5 : ByteArray := prog_29_method_93_code
def yJ4_length_8abf5 : MethodName := ⟨RJ4, "length", "()I"⟩
def RJx7c733 : String := "java/lang/StringIndexOutOfBoundsException"
def TJx7c733 : u_T := fun k => match k with
  | 0 => ("java/lang/Throwable", "backtrace", "Ljava/lang/Object;", false)
  | 1 => ("java/lang/Throwable", "detailMessage", "Ljava/lang/String;", false)
  | 2 => ("java/lang/Throwable", "cause", "Ljava/lang/Throwable;", false)
  | 3 => ("java/lang/Throwable", "stackTrace", "[Ljava/lang/StackTraceElement;", false)
  | 4 => ("java/lang/Throwable", "depth", "I", false)
  | _ => ("java/lang/Throwable", "suppressedExceptions", "Ljava/util/List;", false)
def tyJx7c733 : Nat → FieldType := fun k => match k with
  | 0 => .object "java/lang/Object"
  | 1 => .object "java/lang/String"
  | 2 => .object "java/lang/Throwable"
  | 3 => .array (.object "java/lang/StackTraceElement")
  | 4 => .int
  | _ => .object "java/util/List"
theorem nmJx7c733 : ∀ a, a < 6 → ∀ b, b < 6 → a ≠ b → (TJx7c733 a).2.1 ≠ (TJx7c733 b).2.1 := by decide +kernel
theorem tyJx7c733_ok : ∀ k, k < 6 → parseFieldDescriptor (TJx7c733 k).2.2.1 = some (tyJx7c733 k) := by decide +kernel
abbrev cJx7c733_init_d00df : ByteArray := prog_30_method_3_code
def yJx7c733_init_d00df : MethodName := ⟨RJx7c733, "<init>", "(I)V"⟩
def RJ1 : String := "java/lang/StringLatin1"
def TJ1 : u_T := fun k => match k with
  | _ => ("", "", "", false)
def tyJ1 : Nat → FieldType := fun k => match k with
  | _ => .int
theorem nmJ1 : ∀ a, a < 0 → ∀ b, b < 0 → a ≠ b → (TJ1 a).2.1 ≠ (TJ1 b).2.1 := by decide +kernel
theorem tyJ1_ok : ∀ k, k < 0 → parseFieldDescriptor (TJ1 k).2.2.1 = some (tyJ1 k) := by decide +kernel
abbrev cJ1_charAt_3b067 : ByteArray := prog_31_method_2_code
def yJ1_charAt_3b067 : MethodName := ⟨RJ1, "charAt", "([BI)C"⟩
abbrev cJ1_canEncode_fc78d : ByteArray := prog_31_method_3_code
def yJ1_canEncode_fc78d : MethodName := ⟨RJ1, "canEncode", "(C)Z"⟩
abbrev cJ1_canEncode_9a6ad : ByteArray := prog_31_method_4_code
def yJ1_canEncode_9a6ad : MethodName := ⟨RJ1, "canEncode", "(I)Z"⟩
abbrev cJ1_indexOf_4cfef : ByteArray := prog_31_method_22_code
def yJ1_indexOf_4cfef : MethodName := ⟨RJ1, "indexOf", "([BIII)I"⟩
abbrev cJ1_indexOfChar_4cfef : ByteArray := prog_31_method_23_code
def yJ1_indexOfChar_4cfef : MethodName := ⟨RJ1, "indexOfChar", "([BIII)I"⟩
abbrev cJ1_fillNull_b72d1 : ByteArray := prog_31_method_48_code
def yJ1_fillNull_b72d1 : MethodName := ⟨RJ1, "fillNull", "([BII)V"⟩
abbrev cJ1_inflate_0e8fd : ByteArray := prog_31_method_50_code
def yJ1_inflate_0e8fd : MethodName := ⟨RJ1, "inflate", "([BI[BII)V"⟩
def RJ2 : String := "java/lang/StringUTF16"
def TJ2 : u_T := fun k => match k with
  | _ => ("", "", "", false)
def tyJ2 : Nat → FieldType := fun k => match k with
  | _ => .int
theorem nmJ2 : ∀ a, a < 0 → ∀ b, b < 0 → a ≠ b → (TJ2 a).2.1 ≠ (TJ2 b).2.1 := by decide +kernel
theorem tyJ2_ok : ∀ k, k < 0 → parseFieldDescriptor (TJ2 k).2.2.1 = some (tyJ2 k) := by decide +kernel
abbrev cJ2_newBytesFor_77867 : ByteArray := prog_32_method_2_code
def yJ2_newBytesFor_77867 : MethodName := ⟨RJ2, "newBytesFor", "(I)[B"⟩
abbrev cJ2_newBytesLength_0f7a4 : ByteArray := prog_32_method_3_code
def yJ2_newBytesLength_0f7a4 : MethodName := ⟨RJ2, "newBytesLength", "(I)I"⟩
abbrev cJ2_putChar_b72d1 : ByteArray := prog_32_method_4_code
def yJ2_putChar_b72d1 : MethodName := ⟨RJ2, "putChar", "([BII)V"⟩
abbrev cJ2_getChar_3b067 : ByteArray := prog_32_method_5_code
def yJ2_getChar_3b067 : MethodName := ⟨RJ2, "getChar", "([BI)C"⟩
abbrev cJ2_length_9d52b : ByteArray := prog_32_method_6_code
def yJ2_length_9d52b : MethodName := ⟨RJ2, "length", "([B)I"⟩
abbrev cJ2_coderFromArrayLen_85cad : ByteArray := prog_32_method_15_code
def yJ2_coderFromArrayLen_85cad : MethodName := ⟨RJ2, "coderFromArrayLen", "([BI)B"⟩
abbrev cJ2_compress_39247 : ByteArray := prog_32_method_17_code
def yJ2_compress_39247 : MethodName := ⟨RJ2, "compress", "([BII)[B"⟩
abbrev cJ2_compress_5af95 : ByteArray := prog_32_method_22_code
def yJ2_compress_5af95 : MethodName := ⟨RJ2, "compress", "([BI[BII)I"⟩
abbrev cJ2_indexOf_4cfef : ByteArray := prog_32_method_40_code
def yJ2_indexOf_4cfef : MethodName := ⟨RJ2, "indexOf", "([BIII)I"⟩
abbrev cJ2_indexOfChar_4cfef : ByteArray := prog_32_method_47_code
def yJ2_indexOfChar_4cfef : MethodName := ⟨RJ2, "indexOfChar", "([BIII)I"⟩
abbrev cJ2_indexOfCharUnsafe_4cfef : ByteArray := prog_32_method_48_code
def yJ2_indexOfCharUnsafe_4cfef : MethodName := ⟨RJ2, "indexOfCharUnsafe", "([BIII)I"⟩
abbrev cJ2_indexOfSupplementary_4cfef : ByteArray := prog_32_method_49_code
def yJ2_indexOfSupplementary_4cfef : MethodName := ⟨RJ2, "indexOfSupplementary", "([BIII)I"⟩
abbrev cJ2_fillNull_b72d1 : ByteArray := prog_32_method_70_code
def yJ2_fillNull_b72d1 : MethodName := ⟨RJ2, "fillNull", "([BII)V"⟩
abbrev cJ2_putCharSB_b72d1 : ByteArray := prog_32_method_71_code
def yJ2_putCharSB_b72d1 : MethodName := ⟨RJ2, "putCharSB", "([BII)V"⟩
abbrev cJ2_getChars_46870 : ByteArray := prog_32_method_77_code
def yJ2_getChars_46870 : MethodName := ⟨RJ2, "getChars", "(III[B)I"⟩
abbrev cJ2_putCharsAt_cd4e5 : ByteArray := prog_32_method_81_code
def yJ2_putCharsAt_cd4e5 : MethodName := ⟨RJ2, "putCharsAt", "([BICCCC)I"⟩
abbrev cJ2_charAt_3b067 : ByteArray := prog_32_method_83_code
def yJ2_charAt_3b067 : MethodName := ⟨RJ2, "charAt", "([BI)C"⟩
abbrev cJ2_inflate_0e8fd : ByteArray := prog_32_method_86_code
def yJ2_inflate_0e8fd : MethodName := ⟨RJ2, "inflate", "([BI[BII)V"⟩
abbrev cJ2_getChars_ba4f3 : ByteArray := prog_32_method_89_code
def yJ2_getChars_ba4f3 : MethodName := ⟨RJ2, "getChars", "(II[B)I"⟩
abbrev cJ2_checkIndex_2214a : ByteArray := prog_32_method_91_code
def yJ2_checkIndex_2214a : MethodName := ⟨RJ2, "checkIndex", "(I[B)V"⟩
abbrev cJ2_checkBoundsBeginEnd_d044e : ByteArray := prog_32_method_93_code
def yJ2_checkBoundsBeginEnd_d044e : MethodName := ⟨RJ2, "checkBoundsBeginEnd", "(II[B)V"⟩
abbrev cJ2_checkBoundsOffCount_d044e : ByteArray := prog_32_method_94_code
def yJ2_checkBoundsOffCount_d044e : MethodName := ⟨RJ2, "checkBoundsOffCount", "(II[B)V"⟩
def RJ10 : String := "java/lang/System"
def TJ10 : u_T := fun k => match k with
  | _ => ("", "", "", false)
def tyJ10 : Nat → FieldType := fun k => match k with
  | _ => .int
theorem nmJ10 : ∀ a, a < 0 → ∀ b, b < 0 → a ≠ b → (TJ10 a).2.1 ≠ (TJ10 b).2.1 := by decide +kernel
theorem tyJ10_ok : ∀ k, k < 0 → parseFieldDescriptor (TJ10 k).2.2.1 = some (tyJ10 k) := by decide +kernel
def RJxfd54e : String := "java/lang/constant/Constable"
def TJxfd54e : u_T := fun k => match k with
  | _ => ("", "", "", false)
def tyJxfd54e : Nat → FieldType := fun k => match k with
  | _ => .int
theorem nmJxfd54e : ∀ a, a < 0 → ∀ b, b < 0 → a ≠ b → (TJxfd54e a).2.1 ≠ (TJxfd54e b).2.1 := by decide +kernel
theorem tyJxfd54e_ok : ∀ k, k < 0 → parseFieldDescriptor (TJxfd54e k).2.2.1 = some (tyJxfd54e k) := by decide +kernel
def RJx3cf43 : String := "java/lang/constant/ConstantDesc"
def TJx3cf43 : u_T := fun k => match k with
  | _ => ("", "", "", false)
def tyJx3cf43 : Nat → FieldType := fun k => match k with
  | _ => .int
theorem nmJx3cf43 : ∀ a, a < 0 → ∀ b, b < 0 → a ≠ b → (TJx3cf43 a).2.1 ≠ (TJx3cf43 b).2.1 := by decide +kernel
theorem tyJx3cf43_ok : ∀ k, k < 0 → parseFieldDescriptor (TJx3cf43 k).2.2.1 = some (tyJx3cf43 k) := by decide +kernel
def RJ7 : String := "java/util/Arrays"
def TJ7 : u_T := fun k => match k with
  | _ => ("", "", "", false)
def tyJ7 : Nat → FieldType := fun k => match k with
  | _ => .int
theorem nmJ7 : ∀ a, a < 0 → ∀ b, b < 0 → a ≠ b → (TJ7 a).2.1 ≠ (TJ7 b).2.1 := by decide +kernel
theorem tyJ7_ok : ∀ k, k < 0 → parseFieldDescriptor (TJ7 k).2.2.1 = some (tyJ7 k) := by decide +kernel
abbrev cJ7_rangeCheck_23922 : ByteArray := prog_38_method_30_code
def yJ7_rangeCheck_23922 : MethodName := ⟨RJ7, "rangeCheck", "(III)V"⟩
abbrev cJ7_fill_eb02e : ByteArray := prog_38_method_110_code
def yJ7_fill_eb02e : MethodName := ⟨RJ7, "fill", "([BIIB)V"⟩
abbrev cJ7_copyOf_9075b : ByteArray := prog_38_method_121_code
def yJ7_copyOf_9075b : MethodName := ⟨RJ7, "copyOf", "([BI)[B"⟩
abbrev cJ7_checkLength_df160 : ByteArray := prog_38_method_131_code
def yJ7_checkLength_df160 : MethodName := ⟨RJ7, "checkLength", "(II)V"⟩
abbrev cJ7_copyOfRange_39247 : ByteArray := prog_38_method_132_code
def yJ7_copyOfRange_39247 : MethodName := ⟨RJ7, "copyOfRange", "([BII)[B"⟩
abbrev cJ7_copyOfRangeByte_39247 : ByteArray := prog_38_method_133_code
def yJ7_copyOfRangeByte_39247 : MethodName := ⟨RJ7, "copyOfRangeByte", "([BII)[B"⟩
def RJ8 : String := "jdk/internal/util/ArraysSupport"
def TJ8 : u_T := fun k => match k with
  | _ => ("", "", "", false)
def tyJ8 : Nat → FieldType := fun k => match k with
  | _ => .int
theorem nmJ8 : ∀ a, a < 0 → ∀ b, b < 0 → a ≠ b → (TJ8 a).2.1 ≠ (TJ8 b).2.1 := by decide +kernel
theorem tyJ8_ok : ∀ k, k < 0 → parseFieldDescriptor (TJ8 k).2.2.1 = some (tyJ8 k) := by decide +kernel
abbrev cJ8_newLength_cabcc : ByteArray := prog_40_method_27_code
def yJ8_newLength_cabcc : MethodName := ⟨RJ8, "newLength", "(III)I"⟩
abbrev cJ8_hugeLength_7cf53 : ByteArray := prog_40_method_28_code
def yJ8_hugeLength_7cf53 : MethodName := ⟨RJ8, "hugeLength", "(II)I"⟩
def RJ3 : String := "jdk/internal/util/Preconditions"
def TJ3 : u_T := fun k => match k with
  | _ => ("", "", "", false)
def tyJ3 : Nat → FieldType := fun k => match k with
  | _ => .int
theorem nmJ3 : ∀ a, a < 0 → ∀ b, b < 0 → a ≠ b → (TJ3 a).2.1 ≠ (TJ3 b).2.1 := by decide +kernel
theorem tyJ3_ok : ∀ k, k < 0 → parseFieldDescriptor (TJ3 k).2.2.1 = some (tyJ3 k) := by decide +kernel
abbrev cJ3_checkIndex_8e157 : ByteArray := prog_41_method_11_code
def yJ3_checkIndex_8e157 : MethodName := ⟨RJ3, "checkIndex", "(IILjava/util/function/BiFunction;)I"⟩
abbrev cJ3_checkFromToIndex_8c36e : ByteArray := prog_41_method_12_code
def yJ3_checkFromToIndex_8c36e : MethodName := ⟨RJ3, "checkFromToIndex", "(IIILjava/util/function/BiFunction;)I"⟩
abbrev cJ3_checkFromIndexSize_8c36e : ByteArray := prog_41_method_13_code
def yJ3_checkFromIndexSize_8c36e : MethodName := ⟨RJ3, "checkFromIndexSize", "(IIILjava/util/function/BiFunction;)I"⟩
def RL : String := "CoalStairsLaw"
abbrev cL_house : ByteArray := method_3_code
def yL_house : MethodName := ⟨RL, "house", "(LCoalStairs;II[J)I"⟩
abbrev cL_order : ByteArray := method_4_code
def yL_order : MethodName := ⟨RL, "order", "(LCoalStairs;II[J)I"⟩
abbrev cL_carrier : ByteArray := method_5_code
def yL_carrier : MethodName := ⟨RL, "carrier", "(LCoalStairs;I[J)I"⟩
abbrev cL_load : ByteArray := method_6_code
def yL_load : MethodName := ⟨RL, "load", "(LCoalStairs;I[J)I"⟩
abbrev cL_drive : ByteArray := method_7_code
def yL_drive : MethodName := ⟨RL, "drive", "(LCoalStairs;I[J)I"⟩
abbrev cL_carry : ByteArray := method_8_code
def yL_carry : MethodName := ⟨RL, "carry", "(LCoalStairs;II[J)I"⟩
abbrev cL_bone : ByteArray := method_9_code
def yL_bone : MethodName := ⟨RL, "bone", "(LCoalStairs;[J)I"⟩
abbrev cL_bones : ByteArray := method_10_code
def yL_bones : MethodName := ⟨RL, "bones", "(LCoalStairs;I[J)I"⟩
abbrev cL_mop : ByteArray := method_11_code
def yL_mop : MethodName := ⟨RL, "mop", "(LCoalStairs;I[J)I"⟩
abbrev cL_pay : ByteArray := method_12_code
def yL_pay : MethodName := ⟨RL, "pay", "(LCoalStairs;II[J)I"⟩
abbrev cL_shoe : ByteArray := method_13_code
def yL_shoe : MethodName := ⟨RL, "shoe", "(LCoalStairs;I[J)I"⟩
abbrev cL_days : ByteArray := method_14_code
def yL_days : MethodName := ⟨RL, "days", "(LCoalStairs;I[J)I"⟩
abbrev cL_houseOf : ByteArray := method_15_code
def yL_houseOf : MethodName := ⟨RL, "houseOf", "(LCoalStairs;II[J)I"⟩
abbrev cL_carrierOf : ByteArray := method_16_code
def yL_carrierOf : MethodName := ⟨RL, "carrierOf", "(LCoalStairs;II[J)I"⟩
abbrev cL_shoeOf : ByteArray := method_17_code
def yL_shoeOf : MethodName := ⟨RL, "shoeOf", "(LCoalStairs;I[J)I"⟩
abbrev cL_tires : ByteArray := method_18_code
def yL_tires : MethodName := ⟨RL, "tires", "(LCoalStairs;II[J)I"⟩
abbrev cL_canCarry : ByteArray := method_19_code
def yL_canCarry : MethodName := ⟨RL, "canCarry", "(LCoalStairs;II[J)I"⟩
abbrev cL_mayCarry : ByteArray := method_20_code
def yL_mayCarry : MethodName := ⟨RL, "mayCarry", "(LCoalStairs;I[J)I"⟩
abbrev cL_bestCarrier : ByteArray := method_21_code
def yL_bestCarrier : MethodName := ⟨RL, "bestCarrier", "(LCoalStairs;I[J)I"⟩
abbrev cL_isQuiet : ByteArray := method_22_code
def yL_isQuiet : MethodName := ⟨RL, "isQuiet", "(LCoalStairs;I[J)I"⟩
abbrev cL_ranked : ByteArray := method_23_code
def yL_ranked : MethodName := ⟨RL, "ranked", "(LCoalStairs;I[J)I"⟩
abbrev cL_append : ByteArray := method_24_code
def yL_append : MethodName := ⟨RL, "append", "(LCoalStairs;C[J)I"⟩
abbrev cL_commands : ByteArray := method_25_code
def yL_commands : MethodName := ⟨RL, "commands", "(LCoalStairs;[J)I"⟩
abbrev cL_reason : ByteArray := method_26_code
def yL_reason : MethodName := ⟨RL, "reason", "(LCoalStairs;I[J)I"⟩
abbrev cL_line : ByteArray := method_27_code
def yL_line : MethodName := ⟨RL, "line", "(LCoalStairs;I[J)I"⟩
abbrev cL_character : ByteArray := method_28_code
def yL_character : MethodName := ⟨RL, "character", "(LCoalStairs;I[J)I"⟩
abbrev cL_meanArrears : ByteArray := method_29_code
def yL_meanArrears : MethodName := ⟨RL, "meanArrears", "(LCoalStairs;[D)I"⟩
abbrev cL_paidShare : ByteArray := method_30_code
def yL_paidShare : MethodName := ⟨RL, "paidShare", "(LCoalStairs;[D)I"⟩
abbrev cL_account : ByteArray := method_31_code
def yL_account : MethodName := ⟨RL, "account", "(LCoalStairs;I[J)I"⟩
abbrev cL_undo : ByteArray := method_32_code
def yL_undo : MethodName := ⟨RL, "undo", "(LCoalStairs;[J)I"⟩
abbrev cL_restore : ByteArray := method_33_code
def yL_restore : MethodName := ⟨RL, "restore", "(LCoalStairs;[J)I"⟩
abbrev cL_law : ByteArray := code
def yL_law : MethodName := ⟨RL, "law", "([I)Z"⟩
end
section
theorem dX0_init_0 : decode cX0_init 0 = .ok (.aload_n 0, 1) := by decide +kernel
theorem dX0_init_1 : decode cX0_init 1 = .ok (.invokespecial 3, 3) := by decide +kernel
theorem dX0_init_4 : decode cX0_init 4 = .ok (.return_, 1) := by decide +kernel
theorem dX0_copyFrom_0 : decode cX0_copyFrom 0 = .ok (.aload_n 0, 1) := by decide +kernel
theorem dX0_copyFrom_1 : decode cX0_copyFrom 1 = .ok (.aload_n 1, 1) := by decide +kernel
theorem dX0_copyFrom_2 : decode cX0_copyFrom 2 = .ok (.getfield 9, 3) := by decide +kernel
theorem dX0_copyFrom_5 : decode cX0_copyFrom 5 = .ok (.putfield 9, 3) := by decide +kernel
theorem dX0_copyFrom_8 : decode cX0_copyFrom 8 = .ok (.aload_n 0, 1) := by decide +kernel
theorem dX0_copyFrom_9 : decode cX0_copyFrom 9 = .ok (.aload_n 1, 1) := by decide +kernel
theorem dX0_copyFrom_10 : decode cX0_copyFrom 10 = .ok (.getfield 15, 3) := by decide +kernel
theorem dX0_copyFrom_13 : decode cX0_copyFrom 13 = .ok (.putfield 15, 3) := by decide +kernel
theorem dX0_copyFrom_16 : decode cX0_copyFrom 16 = .ok (.aload_n 0, 1) := by decide +kernel
theorem dX0_copyFrom_17 : decode cX0_copyFrom 17 = .ok (.aload_n 1, 1) := by decide +kernel
theorem dX0_copyFrom_18 : decode cX0_copyFrom 18 = .ok (.getfield 18, 3) := by decide +kernel
theorem dX0_copyFrom_21 : decode cX0_copyFrom 21 = .ok (.putfield 18, 3) := by decide +kernel
theorem dX0_copyFrom_24 : decode cX0_copyFrom 24 = .ok (.aload_n 0, 1) := by decide +kernel
theorem dX0_copyFrom_25 : decode cX0_copyFrom 25 = .ok (.aload_n 1, 1) := by decide +kernel
theorem dX0_copyFrom_26 : decode cX0_copyFrom 26 = .ok (.getfield 21, 3) := by decide +kernel
theorem dX0_copyFrom_29 : decode cX0_copyFrom 29 = .ok (.putfield 21, 3) := by decide +kernel
theorem dX0_copyFrom_32 : decode cX0_copyFrom 32 = .ok (.return_, 1) := by decide +kernel
theorem dX0_number_0 : decode cX0_number 0 = .ok (.iload_n 1, 1) := by decide +kernel
theorem dX0_number_1 : decode cX0_number 1 = .ok (.tableswitch 42 0 2 #[27, 32, 37], 27) := by decide +kernel
theorem dX0_number_28 : decode cX0_number 28 = .ok (.aload_n 0, 1) := by decide +kernel
theorem dX0_number_29 : decode cX0_number 29 = .ok (.getfield 9, 3) := by decide +kernel
theorem dX0_number_32 : decode cX0_number 32 = .ok (.ireturn, 1) := by decide +kernel
theorem dX0_number_33 : decode cX0_number 33 = .ok (.aload_n 0, 1) := by decide +kernel
theorem dX0_number_34 : decode cX0_number 34 = .ok (.getfield 15, 3) := by decide +kernel
theorem dX0_number_37 : decode cX0_number 37 = .ok (.ireturn, 1) := by decide +kernel
theorem dX0_number_38 : decode cX0_number 38 = .ok (.aload_n 0, 1) := by decide +kernel
theorem dX0_number_39 : decode cX0_number 39 = .ok (.getfield 18, 3) := by decide +kernel
theorem dX0_number_42 : decode cX0_number 42 = .ok (.ireturn, 1) := by decide +kernel
theorem dX0_number_43 : decode cX0_number 43 = .ok (.aload_n 0, 1) := by decide +kernel
theorem dX0_number_44 : decode cX0_number 44 = .ok (.getfield 21, 3) := by decide +kernel
theorem dX0_number_47 : decode cX0_number 47 = .ok (.ireturn, 1) := by decide +kernel
theorem dX0_tiredByASack_0 : decode cX0_tiredByASack 0 = .ok (.iconst 5, 1) := by decide +kernel
theorem dX0_tiredByASack_1 : decode cX0_tiredByASack 1 = .ok (.aload_n 0, 1) := by decide +kernel
theorem dX0_tiredByASack_2 : decode cX0_tiredByASack 2 = .ok (.getfield 9, 3) := by decide +kernel
theorem dX0_tiredByASack_5 : decode cX0_tiredByASack 5 = .ok (.iadd, 1) := by decide +kernel
theorem dX0_tiredByASack_6 : decode cX0_tiredByASack 6 = .ok (.istore_n 2, 1) := by decide +kernel
theorem dX0_tiredByASack_7 : decode cX0_tiredByASack 7 = .ok (.iload_n 2, 1) := by decide +kernel
theorem dX0_tiredByASack_8 : decode cX0_tiredByASack 8 = .ok (.ifCond .gt 7, 3) := by decide +kernel
theorem dX0_tiredByASack_11 : decode cX0_tiredByASack 11 = .ok (.iconst 1, 1) := by decide +kernel
theorem dX0_tiredByASack_12 : decode cX0_tiredByASack 12 = .ok (.goto 14, 3) := by decide +kernel
theorem dX0_tiredByASack_15 : decode cX0_tiredByASack 15 = .ok (.iconst 1, 1) := by decide +kernel
theorem dX0_tiredByASack_16 : decode cX0_tiredByASack 16 = .ok (.bipush 6, 2) := by decide +kernel
theorem dX0_tiredByASack_18 : decode cX0_tiredByASack 18 = .ok (.aload_n 1, 1) := by decide +kernel
theorem dX0_tiredByASack_19 : decode cX0_tiredByASack 19 = .ok (.getfield 24, 3) := by decide +kernel
theorem dX0_tiredByASack_22 : decode cX0_tiredByASack 22 = .ok (.imul, 1) := by decide +kernel
theorem dX0_tiredByASack_23 : decode cX0_tiredByASack 23 = .ok (.iload_n 2, 1) := by decide +kernel
theorem dX0_tiredByASack_24 : decode cX0_tiredByASack 24 = .ok (.idiv, 1) := by decide +kernel
theorem dX0_tiredByASack_25 : decode cX0_tiredByASack 25 = .ok (.iadd, 1) := by decide +kernel
theorem dX0_tiredByASack_26 : decode cX0_tiredByASack 26 = .ok (.ireturn, 1) := by decide +kernel
theorem dX0_sacksUntilTired_0 : decode cX0_sacksUntilTired 0 = .ok (.aload_n 0, 1) := by decide +kernel
theorem dX0_sacksUntilTired_1 : decode cX0_sacksUntilTired 1 = .ok (.aload_n 1, 1) := by decide +kernel
theorem dX0_sacksUntilTired_2 : decode cX0_sacksUntilTired 2 = .ok (.invokevirtual 29, 3) := by decide +kernel
theorem dX0_sacksUntilTired_5 : decode cX0_sacksUntilTired 5 = .ok (.istore_n 2, 1) := by decide +kernel
theorem dX0_sacksUntilTired_6 : decode cX0_sacksUntilTired 6 = .ok (.iload_n 2, 1) := by decide +kernel
theorem dX0_sacksUntilTired_7 : decode cX0_sacksUntilTired 7 = .ok (.ifCond .gt 7, 3) := by decide +kernel
theorem dX0_sacksUntilTired_10 : decode cX0_sacksUntilTired 10 = .ok (.iconst 0, 1) := by decide +kernel
theorem dX0_sacksUntilTired_11 : decode cX0_sacksUntilTired 11 = .ok (.goto 12, 3) := by decide +kernel
theorem dX0_sacksUntilTired_14 : decode cX0_sacksUntilTired 14 = .ok (.bipush 30, 2) := by decide +kernel
theorem dX0_sacksUntilTired_16 : decode cX0_sacksUntilTired 16 = .ok (.aload_n 0, 1) := by decide +kernel
theorem dX0_sacksUntilTired_17 : decode cX0_sacksUntilTired 17 = .ok (.getfield 15, 3) := by decide +kernel
theorem dX0_sacksUntilTired_20 : decode cX0_sacksUntilTired 20 = .ok (.isub, 1) := by decide +kernel
theorem dX0_sacksUntilTired_21 : decode cX0_sacksUntilTired 21 = .ok (.iload_n 2, 1) := by decide +kernel
theorem dX0_sacksUntilTired_22 : decode cX0_sacksUntilTired 22 = .ok (.idiv, 1) := by decide +kernel
theorem dX0_sacksUntilTired_23 : decode cX0_sacksUntilTired 23 = .ok (.ireturn, 1) := by decide +kernel
theorem dX0_carrySack_0 : decode cX0_carrySack 0 = .ok (.aload_n 0, 1) := by decide +kernel
theorem dX0_carrySack_1 : decode cX0_carrySack 1 = .ok (.dup, 1) := by decide +kernel
theorem dX0_carrySack_2 : decode cX0_carrySack 2 = .ok (.getfield 15, 3) := by decide +kernel
theorem dX0_carrySack_5 : decode cX0_carrySack 5 = .ok (.aload_n 0, 1) := by decide +kernel
theorem dX0_carrySack_6 : decode cX0_carrySack 6 = .ok (.aload_n 1, 1) := by decide +kernel
theorem dX0_carrySack_7 : decode cX0_carrySack 7 = .ok (.invokevirtual 29, 3) := by decide +kernel
theorem dX0_carrySack_10 : decode cX0_carrySack 10 = .ok (.iadd, 1) := by decide +kernel
theorem dX0_carrySack_11 : decode cX0_carrySack 11 = .ok (.putfield 15, 3) := by decide +kernel
theorem dX0_carrySack_14 : decode cX0_carrySack 14 = .ok (.aload_n 0, 1) := by decide +kernel
theorem dX0_carrySack_15 : decode cX0_carrySack 15 = .ok (.bipush 9, 2) := by decide +kernel
theorem dX0_carrySack_17 : decode cX0_carrySack 17 = .ok (.aload_n 0, 1) := by decide +kernel
theorem dX0_carrySack_18 : decode cX0_carrySack 18 = .ok (.getfield 18, 3) := by decide +kernel
theorem dX0_carrySack_21 : decode cX0_carrySack 21 = .ok (.iconst 1, 1) := by decide +kernel
theorem dX0_carrySack_22 : decode cX0_carrySack 22 = .ok (.iadd, 1) := by decide +kernel
theorem dX0_carrySack_23 : decode cX0_carrySack 23 = .ok (.invokestatic 33, 3) := by decide +kernel
theorem dX0_carrySack_26 : decode cX0_carrySack 26 = .ok (.putfield 18, 3) := by decide +kernel
theorem dX0_carrySack_29 : decode cX0_carrySack 29 = .ok (.aload_n 0, 1) := by decide +kernel
theorem dX0_carrySack_30 : decode cX0_carrySack 30 = .ok (.dup, 1) := by decide +kernel
theorem dX0_carrySack_31 : decode cX0_carrySack 31 = .ok (.getfield 21, 3) := by decide +kernel
theorem dX0_carrySack_34 : decode cX0_carrySack 34 = .ok (.iconst 1, 1) := by decide +kernel
theorem dX0_carrySack_35 : decode cX0_carrySack 35 = .ok (.iadd, 1) := by decide +kernel
theorem dX0_carrySack_36 : decode cX0_carrySack 36 = .ok (.putfield 21, 3) := by decide +kernel
theorem dX0_carrySack_39 : decode cX0_carrySack 39 = .ok (.aload_n 1, 1) := by decide +kernel
theorem dX0_carrySack_40 : decode cX0_carrySack 40 = .ok (.aload_n 0, 1) := by decide +kernel
theorem dX0_carrySack_41 : decode cX0_carrySack 41 = .ok (.getfield 18, 3) := by decide +kernel
theorem dX0_carrySack_44 : decode cX0_carrySack 44 = .ok (.invokevirtual 39, 3) := by decide +kernel
theorem dX0_carrySack_47 : decode cX0_carrySack 47 = .ok (.return_, 1) := by decide +kernel
theorem dX0_beginDay_0 : decode cX0_beginDay 0 = .ok (.aload_n 0, 1) := by decide +kernel
theorem dX0_beginDay_1 : decode cX0_beginDay 1 = .ok (.iconst 0, 1) := by decide +kernel
theorem dX0_beginDay_2 : decode cX0_beginDay 2 = .ok (.aload_n 0, 1) := by decide +kernel
theorem dX0_beginDay_3 : decode cX0_beginDay 3 = .ok (.getfield 15, 3) := by decide +kernel
theorem dX0_beginDay_6 : decode cX0_beginDay 6 = .ok (.bipush 8, 2) := by decide +kernel
theorem dX0_beginDay_8 : decode cX0_beginDay 8 = .ok (.isub, 1) := by decide +kernel
theorem dX0_beginDay_9 : decode cX0_beginDay 9 = .ok (.invokestatic 43, 3) := by decide +kernel
theorem dX0_beginDay_12 : decode cX0_beginDay 12 = .ok (.putfield 15, 3) := by decide +kernel
theorem dX0_beginDay_15 : decode cX0_beginDay 15 = .ok (.aload_n 0, 1) := by decide +kernel
theorem dX0_beginDay_16 : decode cX0_beginDay 16 = .ok (.iconst 0, 1) := by decide +kernel
theorem dX0_beginDay_17 : decode cX0_beginDay 17 = .ok (.putfield 18, 3) := by decide +kernel
theorem dX0_beginDay_20 : decode cX0_beginDay 20 = .ok (.return_, 1) := by decide +kernel
theorem dX1_init_0 : decode cX1_init 0 = .ok (.aload_n 0, 1) := by decide +kernel
theorem dX1_init_1 : decode cX1_init 1 = .ok (.invokespecial 3, 3) := by decide +kernel
theorem dX1_init_4 : decode cX1_init 4 = .ok (.aload_n 0, 1) := by decide +kernel
theorem dX1_init_5 : decode cX1_init 5 = .ok (.bipush 60, 2) := by decide +kernel
theorem dX1_init_7 : decode cX1_init 7 = .ok (.newarray .char, 2) := by decide +kernel
theorem dX1_init_9 : decode cX1_init 9 = .ok (.putfield 9, 3) := by decide +kernel
theorem dX1_init_12 : decode cX1_init 12 = .ok (.aload_n 0, 1) := by decide +kernel
theorem dX1_init_13 : decode cX1_init 13 = .ok (.bipush 30, 2) := by decide +kernel
theorem dX1_init_15 : decode cX1_init 15 = .ok (.newarray .int, 2) := by decide +kernel
theorem dX1_init_17 : decode cX1_init 17 = .ok (.putfield 15, 3) := by decide +kernel
theorem dX1_init_20 : decode cX1_init 20 = .ok (.aload_n 0, 1) := by decide +kernel
theorem dX1_init_21 : decode cX1_init 21 = .ok (.bipush 30, 2) := by decide +kernel
theorem dX1_init_23 : decode cX1_init 23 = .ok (.newarray .int, 2) := by decide +kernel
theorem dX1_init_25 : decode cX1_init 25 = .ok (.putfield 19, 3) := by decide +kernel
theorem dX1_init_28 : decode cX1_init 28 = .ok (.aload_n 0, 1) := by decide +kernel
theorem dX1_init_29 : decode cX1_init 29 = .ok (.bipush 30, 2) := by decide +kernel
theorem dX1_init_31 : decode cX1_init 31 = .ok (.newarray .int, 2) := by decide +kernel
theorem dX1_init_33 : decode cX1_init 33 = .ok (.putfield 22, 3) := by decide +kernel
theorem dX1_init_36 : decode cX1_init 36 = .ok (.return_, 1) := by decide +kernel
theorem dX1_isRead_0 : decode cX1_isRead 0 = .ok (.aload_n 0, 1) := by decide +kernel
theorem dX1_isRead_1 : decode cX1_isRead 1 = .ok (.iconst 0, 1) := by decide +kernel
theorem dX1_isRead_2 : decode cX1_isRead 2 = .ok (.putfield 25, 3) := by decide +kernel
theorem dX1_isRead_5 : decode cX1_isRead 5 = .ok (.aload_n 0, 1) := by decide +kernel
theorem dX1_isRead_6 : decode cX1_isRead 6 = .ok (.iconst 0, 1) := by decide +kernel
theorem dX1_isRead_7 : decode cX1_isRead 7 = .ok (.putfield 29, 3) := by decide +kernel
theorem dX1_isRead_10 : decode cX1_isRead 10 = .ok (.iconst 0, 1) := by decide +kernel
theorem dX1_isRead_11 : decode cX1_isRead 11 = .ok (.istore_n 1, 1) := by decide +kernel
theorem dX1_isRead_12 : decode cX1_isRead 12 = .ok (.iload_n 1, 1) := by decide +kernel
theorem dX1_isRead_13 : decode cX1_isRead 13 = .ok (.bipush 30, 2) := by decide +kernel
theorem dX1_isRead_15 : decode cX1_isRead 15 = .ok (.if_icmp .ge 42, 3) := by decide +kernel
theorem dX1_isRead_18 : decode cX1_isRead 18 = .ok (.aload_n 0, 1) := by decide +kernel
theorem dX1_isRead_19 : decode cX1_isRead 19 = .ok (.invokevirtual 32, 3) := by decide +kernel
theorem dX1_isRead_22 : decode cX1_isRead 22 = .ok (.ifCond .ne 5, 3) := by decide +kernel
theorem dX1_isRead_25 : decode cX1_isRead 25 = .ok (.iconst 0, 1) := by decide +kernel
theorem dX1_isRead_26 : decode cX1_isRead 26 = .ok (.ireturn, 1) := by decide +kernel
theorem dX1_isRead_27 : decode cX1_isRead 27 = .ok (.aload_n 0, 1) := by decide +kernel
theorem dX1_isRead_28 : decode cX1_isRead 28 = .ok (.getfield 25, 3) := by decide +kernel
theorem dX1_isRead_31 : decode cX1_isRead 31 = .ok (.aload_n 0, 1) := by decide +kernel
theorem dX1_isRead_32 : decode cX1_isRead 32 = .ok (.getfield 36, 3) := by decide +kernel
theorem dX1_isRead_35 : decode cX1_isRead 35 = .ok (.if_icmp .ne 5, 3) := by decide +kernel
theorem dX1_isRead_38 : decode cX1_isRead 38 = .ok (.iconst 1, 1) := by decide +kernel
theorem dX1_isRead_39 : decode cX1_isRead 39 = .ok (.ireturn, 1) := by decide +kernel
theorem dX1_isRead_40 : decode cX1_isRead 40 = .ok (.aload_n 0, 1) := by decide +kernel
theorem dX1_isRead_41 : decode cX1_isRead 41 = .ok (.bipush 59, 2) := by decide +kernel
theorem dX1_isRead_43 : decode cX1_isRead 43 = .ok (.invokevirtual 39, 3) := by decide +kernel
theorem dX1_isRead_46 : decode cX1_isRead 46 = .ok (.ifCond .ne 5, 3) := by decide +kernel
theorem dX1_isRead_49 : decode cX1_isRead 49 = .ok (.iconst 0, 1) := by decide +kernel
theorem dX1_isRead_50 : decode cX1_isRead 50 = .ok (.ireturn, 1) := by decide +kernel
theorem dX1_isRead_51 : decode cX1_isRead 51 = .ok (.iinc 1 1, 3) := by decide +kernel
theorem dX1_isRead_54 : decode cX1_isRead 54 = .ok (.goto (-42), 3) := by decide +kernel
theorem dX1_isRead_57 : decode cX1_isRead 57 = .ok (.iconst 0, 1) := by decide +kernel
theorem dX1_isRead_58 : decode cX1_isRead 58 = .ok (.ireturn, 1) := by decide +kernel
theorem dX1_isCommandRead_0 : decode cX1_isCommandRead 0 = .ok (.aload_n 0, 1) := by decide +kernel
theorem dX1_isCommandRead_1 : decode cX1_isCommandRead 1 = .ok (.getfield 25, 3) := by decide +kernel
theorem dX1_isCommandRead_4 : decode cX1_isCommandRead 4 = .ok (.aload_n 0, 1) := by decide +kernel
theorem dX1_isCommandRead_5 : decode cX1_isCommandRead 5 = .ok (.getfield 36, 3) := by decide +kernel
theorem dX1_isCommandRead_8 : decode cX1_isCommandRead 8 = .ok (.if_icmp .ge 20, 3) := by decide +kernel
theorem dX1_isCommandRead_11 : decode cX1_isCommandRead 11 = .ok (.ldc 43, 2) := by decide +kernel
theorem dX1_isCommandRead_13 : decode cX1_isCommandRead 13 = .ok (.aload_n 0, 1) := by decide +kernel
theorem dX1_isCommandRead_14 : decode cX1_isCommandRead 14 = .ok (.getfield 9, 3) := by decide +kernel
theorem dX1_isCommandRead_17 : decode cX1_isCommandRead 17 = .ok (.aload_n 0, 1) := by decide +kernel
theorem dX1_isCommandRead_18 : decode cX1_isCommandRead 18 = .ok (.getfield 25, 3) := by decide +kernel
theorem dX1_isCommandRead_21 : decode cX1_isCommandRead 21 = .ok (.caload, 1) := by decide +kernel
theorem dX1_isCommandRead_22 : decode cX1_isCommandRead 22 = .ok (.invokevirtual 45, 3) := by decide +kernel
theorem dX1_isCommandRead_25 : decode cX1_isCommandRead 25 = .ok (.goto 4, 3) := by decide +kernel
theorem dX1_isCommandRead_28 : decode cX1_isCommandRead 28 = .ok (.iconst (-1), 1) := by decide +kernel
theorem dX1_isCommandRead_29 : decode cX1_isCommandRead 29 = .ok (.istore_n 1, 1) := by decide +kernel
theorem dX1_isCommandRead_30 : decode cX1_isCommandRead 30 = .ok (.iload_n 1, 1) := by decide +kernel
theorem dX1_isCommandRead_31 : decode cX1_isCommandRead 31 = .ok (.ifCond .lt 20, 3) := by decide +kernel
theorem dX1_isCommandRead_34 : decode cX1_isCommandRead 34 = .ok (.iload_n 1, 1) := by decide +kernel
theorem dX1_isCommandRead_35 : decode cX1_isCommandRead 35 = .ok (.getstatic 51, 3) := by decide +kernel
theorem dX1_isCommandRead_38 : decode cX1_isCommandRead 38 = .ok (.arraylength, 1) := by decide +kernel
theorem dX1_isCommandRead_39 : decode cX1_isCommandRead 39 = .ok (.if_icmp .ge 12, 3) := by decide +kernel
theorem dX1_isCommandRead_42 : decode cX1_isCommandRead 42 = .ok (.aload_n 0, 1) := by decide +kernel
theorem dX1_isCommandRead_43 : decode cX1_isCommandRead 43 = .ok (.getfield 29, 3) := by decide +kernel
theorem dX1_isCommandRead_46 : decode cX1_isCommandRead 46 = .ok (.bipush 30, 2) := by decide +kernel
theorem dX1_isCommandRead_48 : decode cX1_isCommandRead 48 = .ok (.if_icmp .lt 5, 3) := by decide +kernel
theorem dX1_isCommandRead_51 : decode cX1_isCommandRead 51 = .ok (.iconst 0, 1) := by decide +kernel
theorem dX1_isCommandRead_52 : decode cX1_isCommandRead 52 = .ok (.ireturn, 1) := by decide +kernel
theorem dX1_isCommandRead_53 : decode cX1_isCommandRead 53 = .ok (.aload_n 0, 1) := by decide +kernel
theorem dX1_isCommandRead_54 : decode cX1_isCommandRead 54 = .ok (.dup, 1) := by decide +kernel
theorem dX1_isCommandRead_55 : decode cX1_isCommandRead 55 = .ok (.getfield 25, 3) := by decide +kernel
theorem dX1_isCommandRead_58 : decode cX1_isCommandRead 58 = .ok (.iconst 1, 1) := by decide +kernel
theorem dX1_isCommandRead_59 : decode cX1_isCommandRead 59 = .ok (.iadd, 1) := by decide +kernel
theorem dX1_isCommandRead_60 : decode cX1_isCommandRead 60 = .ok (.putfield 25, 3) := by decide +kernel
theorem dX1_isCommandRead_63 : decode cX1_isCommandRead 63 = .ok (.aload_n 0, 1) := by decide +kernel
theorem dX1_isCommandRead_64 : decode cX1_isCommandRead 64 = .ok (.getstatic 54, 3) := by decide +kernel
theorem dX1_isCommandRead_67 : decode cX1_isCommandRead 67 = .ok (.iload_n 1, 1) := by decide +kernel
theorem dX1_isCommandRead_68 : decode cX1_isCommandRead 68 = .ok (.iaload, 1) := by decide +kernel
theorem dX1_isCommandRead_69 : decode cX1_isCommandRead 69 = .ok (.invokevirtual 57, 3) := by decide +kernel
theorem dX1_isCommandRead_72 : decode cX1_isCommandRead 72 = .ok (.ifCond .ne 5, 3) := by decide +kernel
theorem dX1_isCommandRead_75 : decode cX1_isCommandRead 75 = .ok (.iconst 0, 1) := by decide +kernel
theorem dX1_isCommandRead_76 : decode cX1_isCommandRead 76 = .ok (.ireturn, 1) := by decide +kernel
theorem dX1_isCommandRead_77 : decode cX1_isCommandRead 77 = .ok (.aload_n 0, 1) := by decide +kernel
theorem dX1_isCommandRead_78 : decode cX1_isCommandRead 78 = .ok (.getfield 61, 3) := by decide +kernel
theorem dX1_isCommandRead_81 : decode cX1_isCommandRead 81 = .ok (.istore_n 2, 1) := by decide +kernel
theorem dX1_isCommandRead_82 : decode cX1_isCommandRead 82 = .ok (.getstatic 51, 3) := by decide +kernel
theorem dX1_isCommandRead_85 : decode cX1_isCommandRead 85 = .ok (.iload_n 1, 1) := by decide +kernel
theorem dX1_isCommandRead_86 : decode cX1_isCommandRead 86 = .ok (.caload, 1) := by decide +kernel
theorem dX1_isCommandRead_87 : decode cX1_isCommandRead 87 = .ok (.ifCond .eq 17, 3) := by decide +kernel
theorem dX1_isCommandRead_90 : decode cX1_isCommandRead 90 = .ok (.aload_n 0, 1) := by decide +kernel
theorem dX1_isCommandRead_91 : decode cX1_isCommandRead 91 = .ok (.getstatic 51, 3) := by decide +kernel
theorem dX1_isCommandRead_94 : decode cX1_isCommandRead 94 = .ok (.iload_n 1, 1) := by decide +kernel
theorem dX1_isCommandRead_95 : decode cX1_isCommandRead 95 = .ok (.caload, 1) := by decide +kernel
theorem dX1_isCommandRead_96 : decode cX1_isCommandRead 96 = .ok (.invokevirtual 39, 3) := by decide +kernel
theorem dX1_isCommandRead_99 : decode cX1_isCommandRead 99 = .ok (.ifCond .ne 5, 3) := by decide +kernel
theorem dX1_isCommandRead_102 : decode cX1_isCommandRead 102 = .ok (.iconst 0, 1) := by decide +kernel
theorem dX1_isCommandRead_103 : decode cX1_isCommandRead 103 = .ok (.ireturn, 1) := by decide +kernel
theorem dX1_isCommandRead_104 : decode cX1_isCommandRead 104 = .ok (.aload_n 0, 1) := by decide +kernel
theorem dX1_isCommandRead_105 : decode cX1_isCommandRead 105 = .ok (.getstatic 64, 3) := by decide +kernel
theorem dX1_isCommandRead_108 : decode cX1_isCommandRead 108 = .ok (.iload_n 1, 1) := by decide +kernel
theorem dX1_isCommandRead_109 : decode cX1_isCommandRead 109 = .ok (.iaload, 1) := by decide +kernel
theorem dX1_isCommandRead_110 : decode cX1_isCommandRead 110 = .ok (.invokevirtual 57, 3) := by decide +kernel
theorem dX1_isCommandRead_113 : decode cX1_isCommandRead 113 = .ok (.ifCond .ne 5, 3) := by decide +kernel
theorem dX1_isCommandRead_116 : decode cX1_isCommandRead 116 = .ok (.iconst 0, 1) := by decide +kernel
theorem dX1_isCommandRead_117 : decode cX1_isCommandRead 117 = .ok (.ireturn, 1) := by decide +kernel
theorem dX1_isCommandRead_118 : decode cX1_isCommandRead 118 = .ok (.aload_n 0, 1) := by decide +kernel
theorem dX1_isCommandRead_119 : decode cX1_isCommandRead 119 = .ok (.getfield 15, 3) := by decide +kernel
theorem dX1_isCommandRead_122 : decode cX1_isCommandRead 122 = .ok (.aload_n 0, 1) := by decide +kernel
theorem dX1_isCommandRead_123 : decode cX1_isCommandRead 123 = .ok (.getfield 29, 3) := by decide +kernel
theorem dX1_isCommandRead_126 : decode cX1_isCommandRead 126 = .ok (.iload_n 1, 1) := by decide +kernel
theorem dX1_isCommandRead_127 : decode cX1_isCommandRead 127 = .ok (.iastore, 1) := by decide +kernel
theorem dX1_isCommandRead_128 : decode cX1_isCommandRead 128 = .ok (.aload_n 0, 1) := by decide +kernel
theorem dX1_isCommandRead_129 : decode cX1_isCommandRead 129 = .ok (.getfield 19, 3) := by decide +kernel
theorem dX1_isCommandRead_132 : decode cX1_isCommandRead 132 = .ok (.aload_n 0, 1) := by decide +kernel
theorem dX1_isCommandRead_133 : decode cX1_isCommandRead 133 = .ok (.getfield 29, 3) := by decide +kernel
theorem dX1_isCommandRead_136 : decode cX1_isCommandRead 136 = .ok (.iload_n 2, 1) := by decide +kernel
theorem dX1_isCommandRead_137 : decode cX1_isCommandRead 137 = .ok (.iastore, 1) := by decide +kernel
theorem dX1_isCommandRead_138 : decode cX1_isCommandRead 138 = .ok (.aload_n 0, 1) := by decide +kernel
theorem dX1_isCommandRead_139 : decode cX1_isCommandRead 139 = .ok (.getfield 22, 3) := by decide +kernel
theorem dX1_isCommandRead_142 : decode cX1_isCommandRead 142 = .ok (.aload_n 0, 1) := by decide +kernel
theorem dX1_isCommandRead_143 : decode cX1_isCommandRead 143 = .ok (.getfield 29, 3) := by decide +kernel
theorem dX1_isCommandRead_146 : decode cX1_isCommandRead 146 = .ok (.aload_n 0, 1) := by decide +kernel
theorem dX1_isCommandRead_147 : decode cX1_isCommandRead 147 = .ok (.getfield 61, 3) := by decide +kernel
theorem dX1_isCommandRead_150 : decode cX1_isCommandRead 150 = .ok (.iastore, 1) := by decide +kernel
theorem dX1_isCommandRead_151 : decode cX1_isCommandRead 151 = .ok (.aload_n 0, 1) := by decide +kernel
theorem dX1_isCommandRead_152 : decode cX1_isCommandRead 152 = .ok (.dup, 1) := by decide +kernel
theorem dX1_isCommandRead_153 : decode cX1_isCommandRead 153 = .ok (.getfield 29, 3) := by decide +kernel
theorem dX1_isCommandRead_156 : decode cX1_isCommandRead 156 = .ok (.iconst 1, 1) := by decide +kernel
theorem dX1_isCommandRead_157 : decode cX1_isCommandRead 157 = .ok (.iadd, 1) := by decide +kernel
theorem dX1_isCommandRead_158 : decode cX1_isCommandRead 158 = .ok (.putfield 29, 3) := by decide +kernel
theorem dX1_isCommandRead_161 : decode cX1_isCommandRead 161 = .ok (.iconst 1, 1) := by decide +kernel
theorem dX1_isCommandRead_162 : decode cX1_isCommandRead 162 = .ok (.ireturn, 1) := by decide +kernel
theorem dX1_isMarkRead_0 : decode cX1_isMarkRead 0 = .ok (.aload_n 0, 1) := by decide +kernel
theorem dX1_isMarkRead_1 : decode cX1_isMarkRead 1 = .ok (.getfield 25, 3) := by decide +kernel
theorem dX1_isMarkRead_4 : decode cX1_isMarkRead 4 = .ok (.aload_n 0, 1) := by decide +kernel
theorem dX1_isMarkRead_5 : decode cX1_isMarkRead 5 = .ok (.getfield 36, 3) := by decide +kernel
theorem dX1_isMarkRead_8 : decode cX1_isMarkRead 8 = .ok (.if_icmp .ge 16, 3) := by decide +kernel
theorem dX1_isMarkRead_11 : decode cX1_isMarkRead 11 = .ok (.aload_n 0, 1) := by decide +kernel
theorem dX1_isMarkRead_12 : decode cX1_isMarkRead 12 = .ok (.getfield 9, 3) := by decide +kernel
theorem dX1_isMarkRead_15 : decode cX1_isMarkRead 15 = .ok (.aload_n 0, 1) := by decide +kernel
theorem dX1_isMarkRead_16 : decode cX1_isMarkRead 16 = .ok (.getfield 25, 3) := by decide +kernel
theorem dX1_isMarkRead_19 : decode cX1_isMarkRead 19 = .ok (.caload, 1) := by decide +kernel
theorem dX1_isMarkRead_20 : decode cX1_isMarkRead 20 = .ok (.iload_n 1, 1) := by decide +kernel
theorem dX1_isMarkRead_21 : decode cX1_isMarkRead 21 = .ok (.if_icmp .eq 5, 3) := by decide +kernel
theorem dX1_isMarkRead_24 : decode cX1_isMarkRead 24 = .ok (.iconst 0, 1) := by decide +kernel
theorem dX1_isMarkRead_25 : decode cX1_isMarkRead 25 = .ok (.ireturn, 1) := by decide +kernel
theorem dX1_isMarkRead_26 : decode cX1_isMarkRead 26 = .ok (.aload_n 0, 1) := by decide +kernel
theorem dX1_isMarkRead_27 : decode cX1_isMarkRead 27 = .ok (.dup, 1) := by decide +kernel
theorem dX1_isMarkRead_28 : decode cX1_isMarkRead 28 = .ok (.getfield 25, 3) := by decide +kernel
theorem dX1_isMarkRead_31 : decode cX1_isMarkRead 31 = .ok (.iconst 1, 1) := by decide +kernel
theorem dX1_isMarkRead_32 : decode cX1_isMarkRead 32 = .ok (.iadd, 1) := by decide +kernel
theorem dX1_isMarkRead_33 : decode cX1_isMarkRead 33 = .ok (.putfield 25, 3) := by decide +kernel
theorem dX1_isMarkRead_36 : decode cX1_isMarkRead 36 = .ok (.iconst 1, 1) := by decide +kernel
theorem dX1_isMarkRead_37 : decode cX1_isMarkRead 37 = .ok (.ireturn, 1) := by decide +kernel
theorem dX1_isNumberRead_0 : decode cX1_isNumberRead 0 = .ok (.aload_n 0, 1) := by decide +kernel
theorem dX1_isNumberRead_1 : decode cX1_isNumberRead 1 = .ok (.iconst 0, 1) := by decide +kernel
theorem dX1_isNumberRead_2 : decode cX1_isNumberRead 2 = .ok (.putfield 61, 3) := by decide +kernel
theorem dX1_isNumberRead_5 : decode cX1_isNumberRead 5 = .ok (.iconst 0, 1) := by decide +kernel
theorem dX1_isNumberRead_6 : decode cX1_isNumberRead 6 = .ok (.istore_n 2, 1) := by decide +kernel
theorem dX1_isNumberRead_7 : decode cX1_isNumberRead 7 = .ok (.iload_n 2, 1) := by decide +kernel
theorem dX1_isNumberRead_8 : decode cX1_isNumberRead 8 = .ok (.iload_n 1, 1) := by decide +kernel
theorem dX1_isNumberRead_9 : decode cX1_isNumberRead 9 = .ok (.if_icmp .ge 50, 3) := by decide +kernel
theorem dX1_isNumberRead_12 : decode cX1_isNumberRead 12 = .ok (.aload_n 0, 1) := by decide +kernel
theorem dX1_isNumberRead_13 : decode cX1_isNumberRead 13 = .ok (.invokevirtual 67, 3) := by decide +kernel
theorem dX1_isNumberRead_16 : decode cX1_isNumberRead 16 = .ok (.ifCond .eq 43, 3) := by decide +kernel
theorem dX1_isNumberRead_19 : decode cX1_isNumberRead 19 = .ok (.aload_n 0, 1) := by decide +kernel
theorem dX1_isNumberRead_20 : decode cX1_isNumberRead 20 = .ok (.bipush 10, 2) := by decide +kernel
theorem dX1_isNumberRead_22 : decode cX1_isNumberRead 22 = .ok (.aload_n 0, 1) := by decide +kernel
theorem dX1_isNumberRead_23 : decode cX1_isNumberRead 23 = .ok (.getfield 61, 3) := by decide +kernel
theorem dX1_isNumberRead_26 : decode cX1_isNumberRead 26 = .ok (.imul, 1) := by decide +kernel
theorem dX1_isNumberRead_27 : decode cX1_isNumberRead 27 = .ok (.aload_n 0, 1) := by decide +kernel
theorem dX1_isNumberRead_28 : decode cX1_isNumberRead 28 = .ok (.getfield 9, 3) := by decide +kernel
theorem dX1_isNumberRead_31 : decode cX1_isNumberRead 31 = .ok (.aload_n 0, 1) := by decide +kernel
theorem dX1_isNumberRead_32 : decode cX1_isNumberRead 32 = .ok (.getfield 25, 3) := by decide +kernel
theorem dX1_isNumberRead_35 : decode cX1_isNumberRead 35 = .ok (.caload, 1) := by decide +kernel
theorem dX1_isNumberRead_36 : decode cX1_isNumberRead 36 = .ok (.iadd, 1) := by decide +kernel
theorem dX1_isNumberRead_37 : decode cX1_isNumberRead 37 = .ok (.bipush 48, 2) := by decide +kernel
theorem dX1_isNumberRead_39 : decode cX1_isNumberRead 39 = .ok (.isub, 1) := by decide +kernel
theorem dX1_isNumberRead_40 : decode cX1_isNumberRead 40 = .ok (.putfield 61, 3) := by decide +kernel
theorem dX1_isNumberRead_43 : decode cX1_isNumberRead 43 = .ok (.aload_n 0, 1) := by decide +kernel
theorem dX1_isNumberRead_44 : decode cX1_isNumberRead 44 = .ok (.dup, 1) := by decide +kernel
theorem dX1_isNumberRead_45 : decode cX1_isNumberRead 45 = .ok (.getfield 25, 3) := by decide +kernel
theorem dX1_isNumberRead_48 : decode cX1_isNumberRead 48 = .ok (.iconst 1, 1) := by decide +kernel
theorem dX1_isNumberRead_49 : decode cX1_isNumberRead 49 = .ok (.iadd, 1) := by decide +kernel
theorem dX1_isNumberRead_50 : decode cX1_isNumberRead 50 = .ok (.putfield 25, 3) := by decide +kernel
theorem dX1_isNumberRead_53 : decode cX1_isNumberRead 53 = .ok (.iinc 2 1, 3) := by decide +kernel
theorem dX1_isNumberRead_56 : decode cX1_isNumberRead 56 = .ok (.goto (-49), 3) := by decide +kernel
theorem dX1_isNumberRead_59 : decode cX1_isNumberRead 59 = .ok (.iload_n 2, 1) := by decide +kernel
theorem dX1_isNumberRead_60 : decode cX1_isNumberRead 60 = .ok (.ifCond .gt 7, 3) := by decide +kernel
theorem dX1_isNumberRead_63 : decode cX1_isNumberRead 63 = .ok (.iload_n 1, 1) := by decide +kernel
theorem dX1_isNumberRead_64 : decode cX1_isNumberRead 64 = .ok (.ifCond .ne 7, 3) := by decide +kernel
theorem dX1_isNumberRead_67 : decode cX1_isNumberRead 67 = .ok (.iconst 1, 1) := by decide +kernel
theorem dX1_isNumberRead_68 : decode cX1_isNumberRead 68 = .ok (.goto 4, 3) := by decide +kernel
theorem dX1_isNumberRead_71 : decode cX1_isNumberRead 71 = .ok (.iconst 0, 1) := by decide +kernel
theorem dX1_isNumberRead_72 : decode cX1_isNumberRead 72 = .ok (.ireturn, 1) := by decide +kernel
theorem dX1_isDigitNext_0 : decode cX1_isDigitNext 0 = .ok (.aload_n 0, 1) := by decide +kernel
theorem dX1_isDigitNext_1 : decode cX1_isDigitNext 1 = .ok (.getfield 25, 3) := by decide +kernel
theorem dX1_isDigitNext_4 : decode cX1_isDigitNext 4 = .ok (.aload_n 0, 1) := by decide +kernel
theorem dX1_isDigitNext_5 : decode cX1_isDigitNext 5 = .ok (.getfield 36, 3) := by decide +kernel
theorem dX1_isDigitNext_8 : decode cX1_isDigitNext 8 = .ok (.if_icmp .ge 35, 3) := by decide +kernel
theorem dX1_isDigitNext_11 : decode cX1_isDigitNext 11 = .ok (.aload_n 0, 1) := by decide +kernel
theorem dX1_isDigitNext_12 : decode cX1_isDigitNext 12 = .ok (.getfield 9, 3) := by decide +kernel
theorem dX1_isDigitNext_15 : decode cX1_isDigitNext 15 = .ok (.aload_n 0, 1) := by decide +kernel
theorem dX1_isDigitNext_16 : decode cX1_isDigitNext 16 = .ok (.getfield 25, 3) := by decide +kernel
theorem dX1_isDigitNext_19 : decode cX1_isDigitNext 19 = .ok (.caload, 1) := by decide +kernel
theorem dX1_isDigitNext_20 : decode cX1_isDigitNext 20 = .ok (.bipush 48, 2) := by decide +kernel
theorem dX1_isDigitNext_22 : decode cX1_isDigitNext 22 = .ok (.if_icmp .lt 21, 3) := by decide +kernel
theorem dX1_isDigitNext_25 : decode cX1_isDigitNext 25 = .ok (.aload_n 0, 1) := by decide +kernel
theorem dX1_isDigitNext_26 : decode cX1_isDigitNext 26 = .ok (.getfield 9, 3) := by decide +kernel
theorem dX1_isDigitNext_29 : decode cX1_isDigitNext 29 = .ok (.aload_n 0, 1) := by decide +kernel
theorem dX1_isDigitNext_30 : decode cX1_isDigitNext 30 = .ok (.getfield 25, 3) := by decide +kernel
theorem dX1_isDigitNext_33 : decode cX1_isDigitNext 33 = .ok (.caload, 1) := by decide +kernel
theorem dX1_isDigitNext_34 : decode cX1_isDigitNext 34 = .ok (.bipush 57, 2) := by decide +kernel
theorem dX1_isDigitNext_36 : decode cX1_isDigitNext 36 = .ok (.if_icmp .gt 7, 3) := by decide +kernel
theorem dX1_isDigitNext_39 : decode cX1_isDigitNext 39 = .ok (.iconst 1, 1) := by decide +kernel
theorem dX1_isDigitNext_40 : decode cX1_isDigitNext 40 = .ok (.goto 4, 3) := by decide +kernel
theorem dX1_isDigitNext_43 : decode cX1_isDigitNext 43 = .ok (.iconst 0, 1) := by decide +kernel
theorem dX1_isDigitNext_44 : decode cX1_isDigitNext 44 = .ok (.ireturn, 1) := by decide +kernel
theorem dX2_init_0 : decode cX2_init 0 = .ok (.aload_n 0, 1) := by decide +kernel
theorem dX2_init_1 : decode cX2_init 1 = .ok (.invokespecial 3, 3) := by decide +kernel
theorem dX2_init_4 : decode cX2_init 4 = .ok (.aload_n 0, 1) := by decide +kernel
theorem dX2_init_5 : decode cX2_init 5 = .ok (.bipush 9, 2) := by decide +kernel
theorem dX2_init_7 : decode cX2_init 7 = .ok (.anewarray 11, 3) := by decide +kernel
theorem dX2_init_10 : decode cX2_init 10 = .ok (.putfield 13, 3) := by decide +kernel
theorem dX2_init_13 : decode cX2_init 13 = .ok (.iconst 0, 1) := by decide +kernel
theorem dX2_init_14 : decode cX2_init 14 = .ok (.istore_n 1, 1) := by decide +kernel
theorem dX2_init_15 : decode cX2_init 15 = .ok (.iload_n 1, 1) := by decide +kernel
theorem dX2_init_16 : decode cX2_init 16 = .ok (.bipush 9, 2) := by decide +kernel
theorem dX2_init_18 : decode cX2_init 18 = .ok (.if_icmp .ge 22, 3) := by decide +kernel
theorem dX2_init_21 : decode cX2_init 21 = .ok (.aload_n 0, 1) := by decide +kernel
theorem dX2_init_22 : decode cX2_init 22 = .ok (.getfield 13, 3) := by decide +kernel
theorem dX2_init_25 : decode cX2_init 25 = .ok (.iload_n 1, 1) := by decide +kernel
theorem dX2_init_26 : decode cX2_init 26 = .ok (.new 11, 3) := by decide +kernel
theorem dX2_init_29 : decode cX2_init 29 = .ok (.dup, 1) := by decide +kernel
theorem dX2_init_30 : decode cX2_init 30 = .ok (.invokespecial 17, 3) := by decide +kernel
theorem dX2_init_33 : decode cX2_init 33 = .ok (.aastore, 1) := by decide +kernel
theorem dX2_init_34 : decode cX2_init 34 = .ok (.iinc 1 1, 3) := by decide +kernel
theorem dX2_init_37 : decode cX2_init 37 = .ok (.goto (-22), 3) := by decide +kernel
theorem dX2_init_40 : decode cX2_init 40 = .ok (.return_, 1) := by decide +kernel
theorem dX2_note_0 : decode cX2_note 0 = .ok (.aload_n 0, 1) := by decide +kernel
theorem dX2_note_1 : decode cX2_note 1 = .ok (.getfield 13, 3) := by decide +kernel
theorem dX2_note_4 : decode cX2_note 4 = .ok (.aload_n 0, 1) := by decide +kernel
theorem dX2_note_5 : decode cX2_note 5 = .ok (.getfield 18, 3) := by decide +kernel
theorem dX2_note_8 : decode cX2_note 8 = .ok (.aaload, 1) := by decide +kernel
theorem dX2_note_9 : decode cX2_note 9 = .ok (.aload_n 1, 1) := by decide +kernel
theorem dX2_note_10 : decode cX2_note 10 = .ok (.invokevirtual 22, 3) := by decide +kernel
theorem dX2_note_13 : decode cX2_note 13 = .ok (.return_, 1) := by decide +kernel
theorem dX2_bringBackNoted_0 : decode cX2_bringBackNoted 0 = .ok (.aload_n 1, 1) := by decide +kernel
theorem dX2_bringBackNoted_1 : decode cX2_bringBackNoted 1 = .ok (.aload_n 0, 1) := by decide +kernel
theorem dX2_bringBackNoted_2 : decode cX2_bringBackNoted 2 = .ok (.getfield 13, 3) := by decide +kernel
theorem dX2_bringBackNoted_5 : decode cX2_bringBackNoted 5 = .ok (.aload_n 0, 1) := by decide +kernel
theorem dX2_bringBackNoted_6 : decode cX2_bringBackNoted 6 = .ok (.getfield 18, 3) := by decide +kernel
theorem dX2_bringBackNoted_9 : decode cX2_bringBackNoted 9 = .ok (.aaload, 1) := by decide +kernel
theorem dX2_bringBackNoted_10 : decode cX2_bringBackNoted 10 = .ok (.invokevirtual 22, 3) := by decide +kernel
theorem dX2_bringBackNoted_13 : decode cX2_bringBackNoted 13 = .ok (.return_, 1) := by decide +kernel
theorem dX2_keepNoted_0 : decode cX2_keepNoted 0 = .ok (.aload_n 0, 1) := by decide +kernel
theorem dX2_keepNoted_1 : decode cX2_keepNoted 1 = .ok (.aload_n 0, 1) := by decide +kernel
theorem dX2_keepNoted_2 : decode cX2_keepNoted 2 = .ok (.getfield 18, 3) := by decide +kernel
theorem dX2_keepNoted_5 : decode cX2_keepNoted 5 = .ok (.iconst 1, 1) := by decide +kernel
theorem dX2_keepNoted_6 : decode cX2_keepNoted 6 = .ok (.iadd, 1) := by decide +kernel
theorem dX2_keepNoted_7 : decode cX2_keepNoted 7 = .ok (.bipush 9, 2) := by decide +kernel
theorem dX2_keepNoted_9 : decode cX2_keepNoted 9 = .ok (.irem, 1) := by decide +kernel
theorem dX2_keepNoted_10 : decode cX2_keepNoted 10 = .ok (.putfield 18, 3) := by decide +kernel
theorem dX2_keepNoted_13 : decode cX2_keepNoted 13 = .ok (.aload_n 0, 1) := by decide +kernel
theorem dX2_keepNoted_14 : decode cX2_keepNoted 14 = .ok (.bipush 8, 2) := by decide +kernel
theorem dX2_keepNoted_16 : decode cX2_keepNoted 16 = .ok (.aload_n 0, 1) := by decide +kernel
theorem dX2_keepNoted_17 : decode cX2_keepNoted 17 = .ok (.getfield 26, 3) := by decide +kernel
theorem dX2_keepNoted_20 : decode cX2_keepNoted 20 = .ok (.iconst 1, 1) := by decide +kernel
theorem dX2_keepNoted_21 : decode cX2_keepNoted 21 = .ok (.iadd, 1) := by decide +kernel
theorem dX2_keepNoted_22 : decode cX2_keepNoted 22 = .ok (.invokestatic 29, 3) := by decide +kernel
theorem dX2_keepNoted_25 : decode cX2_keepNoted 25 = .ok (.putfield 26, 3) := by decide +kernel
theorem dX2_keepNoted_28 : decode cX2_keepNoted 28 = .ok (.return_, 1) := by decide +kernel
theorem dX2_bringBackLatest_0 : decode cX2_bringBackLatest 0 = .ok (.aload_n 0, 1) := by decide +kernel
theorem dX2_bringBackLatest_1 : decode cX2_bringBackLatest 1 = .ok (.aload_n 0, 1) := by decide +kernel
theorem dX2_bringBackLatest_2 : decode cX2_bringBackLatest 2 = .ok (.getfield 18, 3) := by decide +kernel
theorem dX2_bringBackLatest_5 : decode cX2_bringBackLatest 5 = .ok (.bipush 9, 2) := by decide +kernel
theorem dX2_bringBackLatest_7 : decode cX2_bringBackLatest 7 = .ok (.iadd, 1) := by decide +kernel
theorem dX2_bringBackLatest_8 : decode cX2_bringBackLatest 8 = .ok (.iconst 1, 1) := by decide +kernel
theorem dX2_bringBackLatest_9 : decode cX2_bringBackLatest 9 = .ok (.isub, 1) := by decide +kernel
theorem dX2_bringBackLatest_10 : decode cX2_bringBackLatest 10 = .ok (.bipush 9, 2) := by decide +kernel
theorem dX2_bringBackLatest_12 : decode cX2_bringBackLatest 12 = .ok (.irem, 1) := by decide +kernel
theorem dX2_bringBackLatest_13 : decode cX2_bringBackLatest 13 = .ok (.putfield 18, 3) := by decide +kernel
theorem dX2_bringBackLatest_16 : decode cX2_bringBackLatest 16 = .ok (.aload_n 0, 1) := by decide +kernel
theorem dX2_bringBackLatest_17 : decode cX2_bringBackLatest 17 = .ok (.dup, 1) := by decide +kernel
theorem dX2_bringBackLatest_18 : decode cX2_bringBackLatest 18 = .ok (.getfield 26, 3) := by decide +kernel
theorem dX2_bringBackLatest_21 : decode cX2_bringBackLatest 21 = .ok (.iconst 1, 1) := by decide +kernel
theorem dX2_bringBackLatest_22 : decode cX2_bringBackLatest 22 = .ok (.isub, 1) := by decide +kernel
theorem dX2_bringBackLatest_23 : decode cX2_bringBackLatest 23 = .ok (.putfield 26, 3) := by decide +kernel
theorem dX2_bringBackLatest_26 : decode cX2_bringBackLatest 26 = .ok (.aload_n 1, 1) := by decide +kernel
theorem dX2_bringBackLatest_27 : decode cX2_bringBackLatest 27 = .ok (.aload_n 0, 1) := by decide +kernel
theorem dX2_bringBackLatest_28 : decode cX2_bringBackLatest 28 = .ok (.getfield 13, 3) := by decide +kernel
theorem dX2_bringBackLatest_31 : decode cX2_bringBackLatest 31 = .ok (.aload_n 0, 1) := by decide +kernel
theorem dX2_bringBackLatest_32 : decode cX2_bringBackLatest 32 = .ok (.getfield 18, 3) := by decide +kernel
theorem dX2_bringBackLatest_35 : decode cX2_bringBackLatest 35 = .ok (.aaload, 1) := by decide +kernel
theorem dX2_bringBackLatest_36 : decode cX2_bringBackLatest 36 = .ok (.invokevirtual 22, 3) := by decide +kernel
theorem dX2_bringBackLatest_39 : decode cX2_bringBackLatest 39 = .ok (.return_, 1) := by decide +kernel
theorem dX2_forget_0 : decode cX2_forget 0 = .ok (.aload_n 0, 1) := by decide +kernel
theorem dX2_forget_1 : decode cX2_forget 1 = .ok (.iconst 0, 1) := by decide +kernel
theorem dX2_forget_2 : decode cX2_forget 2 = .ok (.putfield 26, 3) := by decide +kernel
theorem dX2_forget_5 : decode cX2_forget 5 = .ok (.return_, 1) := by decide +kernel
theorem dX3_init_0 : decode cX3_init 0 = .ok (.aload_n 0, 1) := by decide +kernel
theorem dX3_init_1 : decode cX3_init 1 = .ok (.invokespecial 3, 3) := by decide +kernel
theorem dX3_init_4 : decode cX3_init 4 = .ok (.return_, 1) := by decide +kernel
theorem dX3_copyFrom_0 : decode cX3_copyFrom 0 = .ok (.aload_n 0, 1) := by decide +kernel
theorem dX3_copyFrom_1 : decode cX3_copyFrom 1 = .ok (.aload_n 1, 1) := by decide +kernel
theorem dX3_copyFrom_2 : decode cX3_copyFrom 2 = .ok (.getfield 9, 3) := by decide +kernel
theorem dX3_copyFrom_5 : decode cX3_copyFrom 5 = .ok (.putfield 9, 3) := by decide +kernel
theorem dX3_copyFrom_8 : decode cX3_copyFrom 8 = .ok (.aload_n 0, 1) := by decide +kernel
theorem dX3_copyFrom_9 : decode cX3_copyFrom 9 = .ok (.aload_n 1, 1) := by decide +kernel
theorem dX3_copyFrom_10 : decode cX3_copyFrom 10 = .ok (.getfield 15, 3) := by decide +kernel
theorem dX3_copyFrom_13 : decode cX3_copyFrom 13 = .ok (.putfield 15, 3) := by decide +kernel
theorem dX3_copyFrom_16 : decode cX3_copyFrom 16 = .ok (.aload_n 0, 1) := by decide +kernel
theorem dX3_copyFrom_17 : decode cX3_copyFrom 17 = .ok (.aload_n 1, 1) := by decide +kernel
theorem dX3_copyFrom_18 : decode cX3_copyFrom 18 = .ok (.getfield 18, 3) := by decide +kernel
theorem dX3_copyFrom_21 : decode cX3_copyFrom 21 = .ok (.putfield 18, 3) := by decide +kernel
theorem dX3_copyFrom_24 : decode cX3_copyFrom 24 = .ok (.aload_n 0, 1) := by decide +kernel
theorem dX3_copyFrom_25 : decode cX3_copyFrom 25 = .ok (.aload_n 1, 1) := by decide +kernel
theorem dX3_copyFrom_26 : decode cX3_copyFrom 26 = .ok (.getfield 21, 3) := by decide +kernel
theorem dX3_copyFrom_29 : decode cX3_copyFrom 29 = .ok (.putfield 21, 3) := by decide +kernel
theorem dX3_copyFrom_32 : decode cX3_copyFrom 32 = .ok (.aload_n 0, 1) := by decide +kernel
theorem dX3_copyFrom_33 : decode cX3_copyFrom 33 = .ok (.aload_n 1, 1) := by decide +kernel
theorem dX3_copyFrom_34 : decode cX3_copyFrom 34 = .ok (.getfield 24, 3) := by decide +kernel
theorem dX3_copyFrom_37 : decode cX3_copyFrom 37 = .ok (.putfield 24, 3) := by decide +kernel
theorem dX3_copyFrom_40 : decode cX3_copyFrom 40 = .ok (.aload_n 0, 1) := by decide +kernel
theorem dX3_copyFrom_41 : decode cX3_copyFrom 41 = .ok (.aload_n 1, 1) := by decide +kernel
theorem dX3_copyFrom_42 : decode cX3_copyFrom 42 = .ok (.getfield 27, 3) := by decide +kernel
theorem dX3_copyFrom_45 : decode cX3_copyFrom 45 = .ok (.putfield 27, 3) := by decide +kernel
theorem dX3_copyFrom_48 : decode cX3_copyFrom 48 = .ok (.aload_n 0, 1) := by decide +kernel
theorem dX3_copyFrom_49 : decode cX3_copyFrom 49 = .ok (.aload_n 1, 1) := by decide +kernel
theorem dX3_copyFrom_50 : decode cX3_copyFrom 50 = .ok (.getfield 30, 3) := by decide +kernel
theorem dX3_copyFrom_53 : decode cX3_copyFrom 53 = .ok (.putfield 30, 3) := by decide +kernel
theorem dX3_copyFrom_56 : decode cX3_copyFrom 56 = .ok (.aload_n 0, 1) := by decide +kernel
theorem dX3_copyFrom_57 : decode cX3_copyFrom 57 = .ok (.aload_n 1, 1) := by decide +kernel
theorem dX3_copyFrom_58 : decode cX3_copyFrom 58 = .ok (.getfield 33, 3) := by decide +kernel
theorem dX3_copyFrom_61 : decode cX3_copyFrom 61 = .ok (.putfield 33, 3) := by decide +kernel
theorem dX3_copyFrom_64 : decode cX3_copyFrom 64 = .ok (.aload_n 0, 1) := by decide +kernel
theorem dX3_copyFrom_65 : decode cX3_copyFrom 65 = .ok (.aload_n 1, 1) := by decide +kernel
theorem dX3_copyFrom_66 : decode cX3_copyFrom 66 = .ok (.getfield 37, 3) := by decide +kernel
theorem dX3_copyFrom_69 : decode cX3_copyFrom 69 = .ok (.putfield 37, 3) := by decide +kernel
theorem dX3_copyFrom_72 : decode cX3_copyFrom 72 = .ok (.return_, 1) := by decide +kernel
theorem dX3_number_0 : decode cX3_number 0 = .ok (.iload_n 1, 1) := by decide +kernel
theorem dX3_number_1 : decode cX3_number 1 = .ok (.tableswitch 78 0 6 #[43, 48, 53, 58, 63, 68, 73], 43) := by decide +kernel
theorem dX3_number_44 : decode cX3_number 44 = .ok (.aload_n 0, 1) := by decide +kernel
theorem dX3_number_45 : decode cX3_number 45 = .ok (.getfield 9, 3) := by decide +kernel
theorem dX3_number_48 : decode cX3_number 48 = .ok (.ireturn, 1) := by decide +kernel
theorem dX3_number_49 : decode cX3_number 49 = .ok (.aload_n 0, 1) := by decide +kernel
theorem dX3_number_50 : decode cX3_number 50 = .ok (.getfield 15, 3) := by decide +kernel
theorem dX3_number_53 : decode cX3_number 53 = .ok (.ireturn, 1) := by decide +kernel
theorem dX3_number_54 : decode cX3_number 54 = .ok (.aload_n 0, 1) := by decide +kernel
theorem dX3_number_55 : decode cX3_number 55 = .ok (.getfield 18, 3) := by decide +kernel
theorem dX3_number_58 : decode cX3_number 58 = .ok (.ireturn, 1) := by decide +kernel
theorem dX3_number_59 : decode cX3_number 59 = .ok (.aload_n 0, 1) := by decide +kernel
theorem dX3_number_60 : decode cX3_number 60 = .ok (.getfield 21, 3) := by decide +kernel
theorem dX3_number_63 : decode cX3_number 63 = .ok (.ireturn, 1) := by decide +kernel
theorem dX3_number_64 : decode cX3_number 64 = .ok (.aload_n 0, 1) := by decide +kernel
theorem dX3_number_65 : decode cX3_number 65 = .ok (.getfield 24, 3) := by decide +kernel
theorem dX3_number_68 : decode cX3_number 68 = .ok (.ireturn, 1) := by decide +kernel
theorem dX3_number_69 : decode cX3_number 69 = .ok (.aload_n 0, 1) := by decide +kernel
theorem dX3_number_70 : decode cX3_number 70 = .ok (.getfield 27, 3) := by decide +kernel
theorem dX3_number_73 : decode cX3_number 73 = .ok (.ireturn, 1) := by decide +kernel
theorem dX3_number_74 : decode cX3_number 74 = .ok (.aload_n 0, 1) := by decide +kernel
theorem dX3_number_75 : decode cX3_number 75 = .ok (.invokevirtual 40, 3) := by decide +kernel
theorem dX3_number_78 : decode cX3_number 78 = .ok (.ireturn, 1) := by decide +kernel
theorem dX3_number_79 : decode cX3_number 79 = .ok (.aload_n 0, 1) := by decide +kernel
theorem dX3_number_80 : decode cX3_number 80 = .ok (.getfield 37, 3) := by decide +kernel
theorem dX3_number_83 : decode cX3_number 83 = .ok (.ireturn, 1) := by decide +kernel
theorem dX3_dogStillLets_0 : decode cX3_dogStillLets 0 = .ok (.aload_n 0, 1) := by decide +kernel
theorem dX3_dogStillLets_1 : decode cX3_dogStillLets 1 = .ok (.getfield 15, 3) := by decide +kernel
theorem dX3_dogStillLets_4 : decode cX3_dogStillLets 4 = .ok (.ifCond .eq 10, 3) := by decide +kernel
theorem dX3_dogStillLets_7 : decode cX3_dogStillLets 7 = .ok (.aload_n 0, 1) := by decide +kernel
theorem dX3_dogStillLets_8 : decode cX3_dogStillLets 8 = .ok (.getfield 33, 3) := by decide +kernel
theorem dX3_dogStillLets_11 : decode cX3_dogStillLets 11 = .ok (.ifCond .eq 6, 3) := by decide +kernel
theorem dX3_dogStillLets_14 : decode cX3_dogStillLets 14 = .ok (.bipush 99, 2) := by decide +kernel
theorem dX3_dogStillLets_16 : decode cX3_dogStillLets 16 = .ok (.ireturn, 1) := by decide +kernel
theorem dX3_dogStillLets_17 : decode cX3_dogStillLets 17 = .ok (.aload_n 0, 1) := by decide +kernel
theorem dX3_dogStillLets_18 : decode cX3_dogStillLets 18 = .ok (.getfield 15, 3) := by decide +kernel
theorem dX3_dogStillLets_21 : decode cX3_dogStillLets 21 = .ok (.iconst 2, 1) := by decide +kernel
theorem dX3_dogStillLets_22 : decode cX3_dogStillLets 22 = .ok (.if_icmp .ne 7, 3) := by decide +kernel
theorem dX3_dogStillLets_25 : decode cX3_dogStillLets 25 = .ok (.iconst 0, 1) := by decide +kernel
theorem dX3_dogStillLets_26 : decode cX3_dogStillLets 26 = .ok (.goto 13, 3) := by decide +kernel
theorem dX3_dogStillLets_29 : decode cX3_dogStillLets 29 = .ok (.iconst 0, 1) := by decide +kernel
theorem dX3_dogStillLets_30 : decode cX3_dogStillLets 30 = .ok (.iconst 2, 1) := by decide +kernel
theorem dX3_dogStillLets_31 : decode cX3_dogStillLets 31 = .ok (.aload_n 0, 1) := by decide +kernel
theorem dX3_dogStillLets_32 : decode cX3_dogStillLets 32 = .ok (.getfield 30, 3) := by decide +kernel
theorem dX3_dogStillLets_35 : decode cX3_dogStillLets 35 = .ok (.isub, 1) := by decide +kernel
theorem dX3_dogStillLets_36 : decode cX3_dogStillLets 36 = .ok (.invokestatic 44, 3) := by decide +kernel
theorem dX3_dogStillLets_39 : decode cX3_dogStillLets 39 = .ok (.ireturn, 1) := by decide +kernel
theorem dX3_takeSack_0 : decode cX3_takeSack 0 = .ok (.aload_n 0, 1) := by decide +kernel
theorem dX3_takeSack_1 : decode cX3_takeSack 1 = .ok (.dup, 1) := by decide +kernel
theorem dX3_takeSack_2 : decode cX3_takeSack 2 = .ok (.getfield 21, 3) := by decide +kernel
theorem dX3_takeSack_5 : decode cX3_takeSack 5 = .ok (.iconst 1, 1) := by decide +kernel
theorem dX3_takeSack_6 : decode cX3_takeSack 6 = .ok (.isub, 1) := by decide +kernel
theorem dX3_takeSack_7 : decode cX3_takeSack 7 = .ok (.putfield 21, 3) := by decide +kernel
theorem dX3_takeSack_10 : decode cX3_takeSack 10 = .ok (.aload_n 0, 1) := by decide +kernel
theorem dX3_takeSack_11 : decode cX3_takeSack 11 = .ok (.dup, 1) := by decide +kernel
theorem dX3_takeSack_12 : decode cX3_takeSack 12 = .ok (.getfield 24, 3) := by decide +kernel
theorem dX3_takeSack_15 : decode cX3_takeSack 15 = .ok (.iconst 3, 1) := by decide +kernel
theorem dX3_takeSack_16 : decode cX3_takeSack 16 = .ok (.iadd, 1) := by decide +kernel
theorem dX3_takeSack_17 : decode cX3_takeSack 17 = .ok (.putfield 24, 3) := by decide +kernel
theorem dX3_takeSack_20 : decode cX3_takeSack 20 = .ok (.aload_n 0, 1) := by decide +kernel
theorem dX3_takeSack_21 : decode cX3_takeSack 21 = .ok (.dup, 1) := by decide +kernel
theorem dX3_takeSack_22 : decode cX3_takeSack 22 = .ok (.getfield 27, 3) := by decide +kernel
theorem dX3_takeSack_25 : decode cX3_takeSack 25 = .ok (.iload_n 1, 1) := by decide +kernel
theorem dX3_takeSack_26 : decode cX3_takeSack 26 = .ok (.iconst 3, 1) := by decide +kernel
theorem dX3_takeSack_27 : decode cX3_takeSack 27 = .ok (.idiv, 1) := by decide +kernel
theorem dX3_takeSack_28 : decode cX3_takeSack 28 = .ok (.iadd, 1) := by decide +kernel
theorem dX3_takeSack_29 : decode cX3_takeSack 29 = .ok (.putfield 27, 3) := by decide +kernel
theorem dX3_takeSack_32 : decode cX3_takeSack 32 = .ok (.aload_n 0, 1) := by decide +kernel
theorem dX3_takeSack_33 : decode cX3_takeSack 33 = .ok (.dup, 1) := by decide +kernel
theorem dX3_takeSack_34 : decode cX3_takeSack 34 = .ok (.getfield 30, 3) := by decide +kernel
theorem dX3_takeSack_37 : decode cX3_takeSack 37 = .ok (.iconst 1, 1) := by decide +kernel
theorem dX3_takeSack_38 : decode cX3_takeSack 38 = .ok (.iadd, 1) := by decide +kernel
theorem dX3_takeSack_39 : decode cX3_takeSack 39 = .ok (.putfield 30, 3) := by decide +kernel
theorem dX3_takeSack_42 : decode cX3_takeSack 42 = .ok (.aload_n 0, 1) := by decide +kernel
theorem dX3_takeSack_43 : decode cX3_takeSack 43 = .ok (.dup, 1) := by decide +kernel
theorem dX3_takeSack_44 : decode cX3_takeSack 44 = .ok (.getfield 37, 3) := by decide +kernel
theorem dX3_takeSack_47 : decode cX3_takeSack 47 = .ok (.iconst 1, 1) := by decide +kernel
theorem dX3_takeSack_48 : decode cX3_takeSack 48 = .ok (.iadd, 1) := by decide +kernel
theorem dX3_takeSack_49 : decode cX3_takeSack 49 = .ok (.putfield 37, 3) := by decide +kernel
theorem dX3_takeSack_52 : decode cX3_takeSack 52 = .ok (.return_, 1) := by decide +kernel
theorem dX3_beginDay_0 : decode cX3_beginDay 0 = .ok (.aload_n 0, 1) := by decide +kernel
theorem dX3_beginDay_1 : decode cX3_beginDay 1 = .ok (.iconst 0, 1) := by decide +kernel
theorem dX3_beginDay_2 : decode cX3_beginDay 2 = .ok (.putfield 30, 3) := by decide +kernel
theorem dX3_beginDay_5 : decode cX3_beginDay 5 = .ok (.aload_n 0, 1) := by decide +kernel
theorem dX3_beginDay_6 : decode cX3_beginDay 6 = .ok (.iconst 0, 1) := by decide +kernel
theorem dX3_beginDay_7 : decode cX3_beginDay 7 = .ok (.putfield 33, 3) := by decide +kernel
theorem dX3_beginDay_10 : decode cX3_beginDay 10 = .ok (.return_, 1) := by decide +kernel
theorem dX3_beginWeek_0 : decode cX3_beginWeek 0 = .ok (.aload_n 0, 1) := by decide +kernel
theorem dX3_beginWeek_1 : decode cX3_beginWeek 1 = .ok (.bipush 20, 2) := by decide +kernel
theorem dX3_beginWeek_3 : decode cX3_beginWeek 3 = .ok (.aload_n 0, 1) := by decide +kernel
theorem dX3_beginWeek_4 : decode cX3_beginWeek 4 = .ok (.getfield 21, 3) := by decide +kernel
theorem dX3_beginWeek_7 : decode cX3_beginWeek 7 = .ok (.aload_n 0, 1) := by decide +kernel
theorem dX3_beginWeek_8 : decode cX3_beginWeek 8 = .ok (.getfield 18, 3) := by decide +kernel
theorem dX3_beginWeek_11 : decode cX3_beginWeek 11 = .ok (.iadd, 1) := by decide +kernel
theorem dX3_beginWeek_12 : decode cX3_beginWeek 12 = .ok (.invokestatic 50, 3) := by decide +kernel
theorem dX3_beginWeek_15 : decode cX3_beginWeek 15 = .ok (.putfield 21, 3) := by decide +kernel
theorem dX3_beginWeek_18 : decode cX3_beginWeek 18 = .ok (.return_, 1) := by decide +kernel
theorem dX3_writeDog_0 : decode cX3_writeDog 0 = .ok (.aload_n 0, 1) := by decide +kernel
theorem dX3_writeDog_1 : decode cX3_writeDog 1 = .ok (.getfield 33, 3) := by decide +kernel
theorem dX3_writeDog_4 : decode cX3_writeDog 4 = .ok (.ifCond .eq 13, 3) := by decide +kernel
theorem dX3_writeDog_7 : decode cX3_writeDog 7 = .ok (.aload_n 1, 1) := by decide +kernel
theorem dX3_writeDog_8 : decode cX3_writeDog 8 = .ok (.bipush 98, 2) := by decide +kernel
theorem dX3_writeDog_10 : decode cX3_writeDog 10 = .ok (.invokevirtual 53, 3) := by decide +kernel
theorem dX3_writeDog_13 : decode cX3_writeDog 13 = .ok (.pop, 1) := by decide +kernel
theorem dX3_writeDog_14 : decode cX3_writeDog 14 = .ok (.goto 36, 3) := by decide +kernel
theorem dX3_writeDog_17 : decode cX3_writeDog 17 = .ok (.aload_n 0, 1) := by decide +kernel
theorem dX3_writeDog_18 : decode cX3_writeDog 18 = .ok (.getfield 15, 3) := by decide +kernel
theorem dX3_writeDog_21 : decode cX3_writeDog 21 = .ok (.iconst 1, 1) := by decide +kernel
theorem dX3_writeDog_22 : decode cX3_writeDog 22 = .ok (.if_icmp .ne 13, 3) := by decide +kernel
theorem dX3_writeDog_25 : decode cX3_writeDog 25 = .ok (.aload_n 1, 1) := by decide +kernel
theorem dX3_writeDog_26 : decode cX3_writeDog 26 = .ok (.bipush 122, 2) := by decide +kernel
theorem dX3_writeDog_28 : decode cX3_writeDog 28 = .ok (.invokevirtual 53, 3) := by decide +kernel
theorem dX3_writeDog_31 : decode cX3_writeDog 31 = .ok (.pop, 1) := by decide +kernel
theorem dX3_writeDog_32 : decode cX3_writeDog 32 = .ok (.goto 18, 3) := by decide +kernel
theorem dX3_writeDog_35 : decode cX3_writeDog 35 = .ok (.aload_n 0, 1) := by decide +kernel
theorem dX3_writeDog_36 : decode cX3_writeDog 36 = .ok (.getfield 15, 3) := by decide +kernel
theorem dX3_writeDog_39 : decode cX3_writeDog 39 = .ok (.iconst 2, 1) := by decide +kernel
theorem dX3_writeDog_40 : decode cX3_writeDog 40 = .ok (.if_icmp .ne 10, 3) := by decide +kernel
theorem dX3_writeDog_43 : decode cX3_writeDog 43 = .ok (.aload_n 1, 1) := by decide +kernel
theorem dX3_writeDog_44 : decode cX3_writeDog 44 = .ok (.bipush 33, 2) := by decide +kernel
theorem dX3_writeDog_46 : decode cX3_writeDog 46 = .ok (.invokevirtual 53, 3) := by decide +kernel
theorem dX3_writeDog_49 : decode cX3_writeDog 49 = .ok (.pop, 1) := by decide +kernel
theorem dX3_writeDog_50 : decode cX3_writeDog 50 = .ok (.return_, 1) := by decide +kernel
theorem dX4_init_0 : decode cX4_init 0 = .ok (.aload_n 0, 1) := by decide +kernel
theorem dX4_init_1 : decode cX4_init 1 = .ok (.invokespecial 3, 3) := by decide +kernel
theorem dX4_init_4 : decode cX4_init 4 = .ok (.return_, 1) := by decide +kernel
theorem dX4_refuse_0 : decode cX4_refuse 0 = .ok (.aload_n 0, 1) := by decide +kernel
theorem dX4_refuse_1 : decode cX4_refuse 1 = .ok (.iload_n 1, 1) := by decide +kernel
theorem dX4_refuse_2 : decode cX4_refuse 2 = .ok (.putfield 9, 3) := by decide +kernel
theorem dX4_refuse_5 : decode cX4_refuse 5 = .ok (.aload_n 0, 1) := by decide +kernel
theorem dX4_refuse_6 : decode cX4_refuse 6 = .ok (.iload_n 2, 1) := by decide +kernel
theorem dX4_refuse_7 : decode cX4_refuse 7 = .ok (.putfield 15, 3) := by decide +kernel
theorem dX4_refuse_10 : decode cX4_refuse 10 = .ok (.aload_n 0, 1) := by decide +kernel
theorem dX4_refuse_11 : decode cX4_refuse 11 = .ok (.iconst 0, 1) := by decide +kernel
theorem dX4_refuse_12 : decode cX4_refuse 12 = .ok (.putfield 18, 3) := by decide +kernel
theorem dX4_refuse_15 : decode cX4_refuse 15 = .ok (.iconst (-1), 1) := by decide +kernel
theorem dX4_refuse_16 : decode cX4_refuse 16 = .ok (.ireturn, 1) := by decide +kernel
theorem dX5_init_0 : decode cX5_init 0 = .ok (.aload_n 0, 1) := by decide +kernel
theorem dX5_init_1 : decode cX5_init 1 = .ok (.invokespecial 3, 3) := by decide +kernel
theorem dX5_init_4 : decode cX5_init 4 = .ok (.aload_n 0, 1) := by decide +kernel
theorem dX5_init_5 : decode cX5_init 5 = .ok (.bipush 8, 2) := by decide +kernel
theorem dX5_init_7 : decode cX5_init 7 = .ok (.anewarray 9, 3) := by decide +kernel
theorem dX5_init_10 : decode cX5_init 10 = .ok (.putfield 11, 3) := by decide +kernel
theorem dX5_init_13 : decode cX5_init 13 = .ok (.aload_n 0, 1) := by decide +kernel
theorem dX5_init_14 : decode cX5_init 14 = .ok (.iconst 4, 1) := by decide +kernel
theorem dX5_init_15 : decode cX5_init 15 = .ok (.anewarray 17, 3) := by decide +kernel
theorem dX5_init_18 : decode cX5_init 18 = .ok (.putfield 19, 3) := by decide +kernel
theorem dX5_init_21 : decode cX5_init 21 = .ok (.aload_n 0, 1) := by decide +kernel
theorem dX5_init_22 : decode cX5_init 22 = .ok (.iconst 4, 1) := by decide +kernel
theorem dX5_init_23 : decode cX5_init 23 = .ok (.newarray .int, 2) := by decide +kernel
theorem dX5_init_25 : decode cX5_init 25 = .ok (.putfield 23, 3) := by decide +kernel
theorem dX5_init_28 : decode cX5_init 28 = .ok (.aload_n 0, 1) := by decide +kernel
theorem dX5_init_29 : decode cX5_init 29 = .ok (.bipush 100, 2) := by decide +kernel
theorem dX5_init_31 : decode cX5_init 31 = .ok (.putfield 27, 3) := by decide +kernel
theorem dX5_init_34 : decode cX5_init 34 = .ok (.aload_n 0, 1) := by decide +kernel
theorem dX5_init_35 : decode cX5_init 35 = .ok (.bipush 20, 2) := by decide +kernel
theorem dX5_init_37 : decode cX5_init 37 = .ok (.putfield 31, 3) := by decide +kernel
theorem dX5_init_40 : decode cX5_init 40 = .ok (.aload_n 0, 1) := by decide +kernel
theorem dX5_init_41 : decode cX5_init 41 = .ok (.iconst 3, 1) := by decide +kernel
theorem dX5_init_42 : decode cX5_init 42 = .ok (.putfield 34, 3) := by decide +kernel
theorem dX5_init_45 : decode cX5_init 45 = .ok (.iconst 0, 1) := by decide +kernel
theorem dX5_init_46 : decode cX5_init 46 = .ok (.istore_n 1, 1) := by decide +kernel
theorem dX5_init_47 : decode cX5_init 47 = .ok (.iload_n 1, 1) := by decide +kernel
theorem dX5_init_48 : decode cX5_init 48 = .ok (.bipush 8, 2) := by decide +kernel
theorem dX5_init_50 : decode cX5_init 50 = .ok (.if_icmp .ge 22, 3) := by decide +kernel
theorem dX5_init_53 : decode cX5_init 53 = .ok (.aload_n 0, 1) := by decide +kernel
theorem dX5_init_54 : decode cX5_init 54 = .ok (.getfield 11, 3) := by decide +kernel
theorem dX5_init_57 : decode cX5_init 57 = .ok (.iload_n 1, 1) := by decide +kernel
theorem dX5_init_58 : decode cX5_init 58 = .ok (.new 9, 3) := by decide +kernel
theorem dX5_init_61 : decode cX5_init 61 = .ok (.dup, 1) := by decide +kernel
theorem dX5_init_62 : decode cX5_init 62 = .ok (.invokespecial 37, 3) := by decide +kernel
theorem dX5_init_65 : decode cX5_init 65 = .ok (.aastore, 1) := by decide +kernel
theorem dX5_init_66 : decode cX5_init 66 = .ok (.iinc 1 1, 3) := by decide +kernel
theorem dX5_init_69 : decode cX5_init 69 = .ok (.goto (-22), 3) := by decide +kernel
theorem dX5_init_72 : decode cX5_init 72 = .ok (.iconst 0, 1) := by decide +kernel
theorem dX5_init_73 : decode cX5_init 73 = .ok (.istore_n 1, 1) := by decide +kernel
theorem dX5_init_74 : decode cX5_init 74 = .ok (.iload_n 1, 1) := by decide +kernel
theorem dX5_init_75 : decode cX5_init 75 = .ok (.iconst 4, 1) := by decide +kernel
theorem dX5_init_76 : decode cX5_init 76 = .ok (.if_icmp .ge 22, 3) := by decide +kernel
theorem dX5_init_79 : decode cX5_init 79 = .ok (.aload_n 0, 1) := by decide +kernel
theorem dX5_init_80 : decode cX5_init 80 = .ok (.getfield 19, 3) := by decide +kernel
theorem dX5_init_83 : decode cX5_init 83 = .ok (.iload_n 1, 1) := by decide +kernel
theorem dX5_init_84 : decode cX5_init 84 = .ok (.new 17, 3) := by decide +kernel
theorem dX5_init_87 : decode cX5_init 87 = .ok (.dup, 1) := by decide +kernel
theorem dX5_init_88 : decode cX5_init 88 = .ok (.invokespecial 38, 3) := by decide +kernel
theorem dX5_init_91 : decode cX5_init 91 = .ok (.aastore, 1) := by decide +kernel
theorem dX5_init_92 : decode cX5_init 92 = .ok (.iinc 1 1, 3) := by decide +kernel
theorem dX5_init_95 : decode cX5_init 95 = .ok (.goto (-21), 3) := by decide +kernel
theorem dX5_init_98 : decode cX5_init 98 = .ok (.return_, 1) := by decide +kernel
theorem dX5_copyFrom_0 : decode cX5_copyFrom 0 = .ok (.iconst 0, 1) := by decide +kernel
theorem dX5_copyFrom_1 : decode cX5_copyFrom 1 = .ok (.istore_n 2, 1) := by decide +kernel
theorem dX5_copyFrom_2 : decode cX5_copyFrom 2 = .ok (.iload_n 2, 1) := by decide +kernel
theorem dX5_copyFrom_3 : decode cX5_copyFrom 3 = .ok (.bipush 8, 2) := by decide +kernel
theorem dX5_copyFrom_5 : decode cX5_copyFrom 5 = .ok (.if_icmp .ge 24, 3) := by decide +kernel
theorem dX5_copyFrom_8 : decode cX5_copyFrom 8 = .ok (.aload_n 0, 1) := by decide +kernel
theorem dX5_copyFrom_9 : decode cX5_copyFrom 9 = .ok (.getfield 11, 3) := by decide +kernel
theorem dX5_copyFrom_12 : decode cX5_copyFrom 12 = .ok (.iload_n 2, 1) := by decide +kernel
theorem dX5_copyFrom_13 : decode cX5_copyFrom 13 = .ok (.aaload, 1) := by decide +kernel
theorem dX5_copyFrom_14 : decode cX5_copyFrom 14 = .ok (.aload_n 1, 1) := by decide +kernel
theorem dX5_copyFrom_15 : decode cX5_copyFrom 15 = .ok (.getfield 11, 3) := by decide +kernel
theorem dX5_copyFrom_18 : decode cX5_copyFrom 18 = .ok (.iload_n 2, 1) := by decide +kernel
theorem dX5_copyFrom_19 : decode cX5_copyFrom 19 = .ok (.aaload, 1) := by decide +kernel
theorem dX5_copyFrom_20 : decode cX5_copyFrom 20 = .ok (.invokevirtual 39, 3) := by decide +kernel
theorem dX5_copyFrom_23 : decode cX5_copyFrom 23 = .ok (.iinc 2 1, 3) := by decide +kernel
theorem dX5_copyFrom_26 : decode cX5_copyFrom 26 = .ok (.goto (-24), 3) := by decide +kernel
theorem dX5_copyFrom_29 : decode cX5_copyFrom 29 = .ok (.iconst 0, 1) := by decide +kernel
theorem dX5_copyFrom_30 : decode cX5_copyFrom 30 = .ok (.istore_n 2, 1) := by decide +kernel
theorem dX5_copyFrom_31 : decode cX5_copyFrom 31 = .ok (.iload_n 2, 1) := by decide +kernel
theorem dX5_copyFrom_32 : decode cX5_copyFrom 32 = .ok (.iconst 4, 1) := by decide +kernel
theorem dX5_copyFrom_33 : decode cX5_copyFrom 33 = .ok (.if_icmp .ge 24, 3) := by decide +kernel
theorem dX5_copyFrom_36 : decode cX5_copyFrom 36 = .ok (.aload_n 0, 1) := by decide +kernel
theorem dX5_copyFrom_37 : decode cX5_copyFrom 37 = .ok (.getfield 19, 3) := by decide +kernel
theorem dX5_copyFrom_40 : decode cX5_copyFrom 40 = .ok (.iload_n 2, 1) := by decide +kernel
theorem dX5_copyFrom_41 : decode cX5_copyFrom 41 = .ok (.aaload, 1) := by decide +kernel
theorem dX5_copyFrom_42 : decode cX5_copyFrom 42 = .ok (.aload_n 1, 1) := by decide +kernel
theorem dX5_copyFrom_43 : decode cX5_copyFrom 43 = .ok (.getfield 19, 3) := by decide +kernel
theorem dX5_copyFrom_46 : decode cX5_copyFrom 46 = .ok (.iload_n 2, 1) := by decide +kernel
theorem dX5_copyFrom_47 : decode cX5_copyFrom 47 = .ok (.aaload, 1) := by decide +kernel
theorem dX5_copyFrom_48 : decode cX5_copyFrom 48 = .ok (.invokevirtual 43, 3) := by decide +kernel
theorem dX5_copyFrom_51 : decode cX5_copyFrom 51 = .ok (.iinc 2 1, 3) := by decide +kernel
theorem dX5_copyFrom_54 : decode cX5_copyFrom 54 = .ok (.goto (-23), 3) := by decide +kernel
theorem dX5_copyFrom_57 : decode cX5_copyFrom 57 = .ok (.iconst 0, 1) := by decide +kernel
theorem dX5_copyFrom_58 : decode cX5_copyFrom 58 = .ok (.istore_n 2, 1) := by decide +kernel
theorem dX5_copyFrom_59 : decode cX5_copyFrom 59 = .ok (.iload_n 2, 1) := by decide +kernel
theorem dX5_copyFrom_60 : decode cX5_copyFrom 60 = .ok (.iconst 4, 1) := by decide +kernel
theorem dX5_copyFrom_61 : decode cX5_copyFrom 61 = .ok (.if_icmp .ge 21, 3) := by decide +kernel
theorem dX5_copyFrom_64 : decode cX5_copyFrom 64 = .ok (.aload_n 0, 1) := by decide +kernel
theorem dX5_copyFrom_65 : decode cX5_copyFrom 65 = .ok (.getfield 23, 3) := by decide +kernel
theorem dX5_copyFrom_68 : decode cX5_copyFrom 68 = .ok (.iload_n 2, 1) := by decide +kernel
theorem dX5_copyFrom_69 : decode cX5_copyFrom 69 = .ok (.aload_n 1, 1) := by decide +kernel
theorem dX5_copyFrom_70 : decode cX5_copyFrom 70 = .ok (.getfield 23, 3) := by decide +kernel
theorem dX5_copyFrom_73 : decode cX5_copyFrom 73 = .ok (.iload_n 2, 1) := by decide +kernel
theorem dX5_copyFrom_74 : decode cX5_copyFrom 74 = .ok (.iaload, 1) := by decide +kernel
theorem dX5_copyFrom_75 : decode cX5_copyFrom 75 = .ok (.iastore, 1) := by decide +kernel
theorem dX5_copyFrom_76 : decode cX5_copyFrom 76 = .ok (.iinc 2 1, 3) := by decide +kernel
theorem dX5_copyFrom_79 : decode cX5_copyFrom 79 = .ok (.goto (-20), 3) := by decide +kernel
theorem dX5_copyFrom_82 : decode cX5_copyFrom 82 = .ok (.aload_n 0, 1) := by decide +kernel
theorem dX5_copyFrom_83 : decode cX5_copyFrom 83 = .ok (.aload_n 1, 1) := by decide +kernel
theorem dX5_copyFrom_84 : decode cX5_copyFrom 84 = .ok (.getfield 46, 3) := by decide +kernel
theorem dX5_copyFrom_87 : decode cX5_copyFrom 87 = .ok (.putfield 46, 3) := by decide +kernel
theorem dX5_copyFrom_90 : decode cX5_copyFrom 90 = .ok (.aload_n 0, 1) := by decide +kernel
theorem dX5_copyFrom_91 : decode cX5_copyFrom 91 = .ok (.aload_n 1, 1) := by decide +kernel
theorem dX5_copyFrom_92 : decode cX5_copyFrom 92 = .ok (.getfield 49, 3) := by decide +kernel
theorem dX5_copyFrom_95 : decode cX5_copyFrom 95 = .ok (.putfield 49, 3) := by decide +kernel
theorem dX5_copyFrom_98 : decode cX5_copyFrom 98 = .ok (.aload_n 0, 1) := by decide +kernel
theorem dX5_copyFrom_99 : decode cX5_copyFrom 99 = .ok (.aload_n 1, 1) := by decide +kernel
theorem dX5_copyFrom_100 : decode cX5_copyFrom 100 = .ok (.getfield 52, 3) := by decide +kernel
theorem dX5_copyFrom_103 : decode cX5_copyFrom 103 = .ok (.putfield 52, 3) := by decide +kernel
theorem dX5_copyFrom_106 : decode cX5_copyFrom 106 = .ok (.aload_n 0, 1) := by decide +kernel
theorem dX5_copyFrom_107 : decode cX5_copyFrom 107 = .ok (.aload_n 1, 1) := by decide +kernel
theorem dX5_copyFrom_108 : decode cX5_copyFrom 108 = .ok (.getfield 55, 3) := by decide +kernel
theorem dX5_copyFrom_111 : decode cX5_copyFrom 111 = .ok (.putfield 55, 3) := by decide +kernel
theorem dX5_copyFrom_114 : decode cX5_copyFrom 114 = .ok (.aload_n 0, 1) := by decide +kernel
theorem dX5_copyFrom_115 : decode cX5_copyFrom 115 = .ok (.aload_n 1, 1) := by decide +kernel
theorem dX5_copyFrom_116 : decode cX5_copyFrom 116 = .ok (.getfield 58, 3) := by decide +kernel
theorem dX5_copyFrom_119 : decode cX5_copyFrom 119 = .ok (.putfield 58, 3) := by decide +kernel
theorem dX5_copyFrom_122 : decode cX5_copyFrom 122 = .ok (.aload_n 0, 1) := by decide +kernel
theorem dX5_copyFrom_123 : decode cX5_copyFrom 123 = .ok (.aload_n 1, 1) := by decide +kernel
theorem dX5_copyFrom_124 : decode cX5_copyFrom 124 = .ok (.getfield 27, 3) := by decide +kernel
theorem dX5_copyFrom_127 : decode cX5_copyFrom 127 = .ok (.putfield 27, 3) := by decide +kernel
theorem dX5_copyFrom_130 : decode cX5_copyFrom 130 = .ok (.aload_n 0, 1) := by decide +kernel
theorem dX5_copyFrom_131 : decode cX5_copyFrom 131 = .ok (.aload_n 1, 1) := by decide +kernel
theorem dX5_copyFrom_132 : decode cX5_copyFrom 132 = .ok (.getfield 31, 3) := by decide +kernel
theorem dX5_copyFrom_135 : decode cX5_copyFrom 135 = .ok (.putfield 31, 3) := by decide +kernel
theorem dX5_copyFrom_138 : decode cX5_copyFrom 138 = .ok (.aload_n 0, 1) := by decide +kernel
theorem dX5_copyFrom_139 : decode cX5_copyFrom 139 = .ok (.aload_n 1, 1) := by decide +kernel
theorem dX5_copyFrom_140 : decode cX5_copyFrom 140 = .ok (.getfield 34, 3) := by decide +kernel
theorem dX5_copyFrom_143 : decode cX5_copyFrom 143 = .ok (.putfield 34, 3) := by decide +kernel
theorem dX5_copyFrom_146 : decode cX5_copyFrom 146 = .ok (.aload_n 0, 1) := by decide +kernel
theorem dX5_copyFrom_147 : decode cX5_copyFrom 147 = .ok (.aload_n 1, 1) := by decide +kernel
theorem dX5_copyFrom_148 : decode cX5_copyFrom 148 = .ok (.getfield 61, 3) := by decide +kernel
theorem dX5_copyFrom_151 : decode cX5_copyFrom 151 = .ok (.putfield 61, 3) := by decide +kernel
theorem dX5_copyFrom_154 : decode cX5_copyFrom 154 = .ok (.aload_n 0, 1) := by decide +kernel
theorem dX5_copyFrom_155 : decode cX5_copyFrom 155 = .ok (.aload_n 1, 1) := by decide +kernel
theorem dX5_copyFrom_156 : decode cX5_copyFrom 156 = .ok (.getfield 64, 3) := by decide +kernel
theorem dX5_copyFrom_159 : decode cX5_copyFrom 159 = .ok (.putfield 64, 3) := by decide +kernel
theorem dX5_copyFrom_162 : decode cX5_copyFrom 162 = .ok (.return_, 1) := by decide +kernel
theorem dX5_houseAt_0 : decode cX5_houseAt 0 = .ok (.iload_n 1, 1) := by decide +kernel
theorem dX5_houseAt_1 : decode cX5_houseAt 1 = .ok (.iconst 0, 1) := by decide +kernel
theorem dX5_houseAt_2 : decode cX5_houseAt 2 = .ok (.aload_n 0, 1) := by decide +kernel
theorem dX5_houseAt_3 : decode cX5_houseAt 3 = .ok (.getfield 46, 3) := by decide +kernel
theorem dX5_houseAt_6 : decode cX5_houseAt 6 = .ok (.iconst 1, 1) := by decide +kernel
theorem dX5_houseAt_7 : decode cX5_houseAt 7 = .ok (.isub, 1) := by decide +kernel
theorem dX5_houseAt_8 : decode cX5_houseAt 8 = .ok (.invokestatic 67, 3) := by decide +kernel
theorem dX5_houseAt_11 : decode cX5_houseAt 11 = .ok (.ifCond .eq 7, 3) := by decide +kernel
theorem dX5_houseAt_14 : decode cX5_houseAt 14 = .ok (.aconst_null, 1) := by decide +kernel
theorem dX5_houseAt_15 : decode cX5_houseAt 15 = .ok (.goto 9, 3) := by decide +kernel
theorem dX5_houseAt_18 : decode cX5_houseAt 18 = .ok (.aload_n 0, 1) := by decide +kernel
theorem dX5_houseAt_19 : decode cX5_houseAt 19 = .ok (.getfield 11, 3) := by decide +kernel
theorem dX5_houseAt_22 : decode cX5_houseAt 22 = .ok (.iload_n 1, 1) := by decide +kernel
theorem dX5_houseAt_23 : decode cX5_houseAt 23 = .ok (.aaload, 1) := by decide +kernel
theorem dX5_houseAt_24 : decode cX5_houseAt 24 = .ok (.areturn, 1) := by decide +kernel
theorem dX5_houseHere_0 : decode cX5_houseHere 0 = .ok (.aload_n 0, 1) := by decide +kernel
theorem dX5_houseHere_1 : decode cX5_houseHere 1 = .ok (.aload_n 0, 1) := by decide +kernel
theorem dX5_houseHere_2 : decode cX5_houseHere 2 = .ok (.getfield 55, 3) := by decide +kernel
theorem dX5_houseHere_5 : decode cX5_houseHere 5 = .ok (.iconst 1, 1) := by decide +kernel
theorem dX5_houseHere_6 : decode cX5_houseHere 6 = .ok (.isub, 1) := by decide +kernel
theorem dX5_houseHere_7 : decode cX5_houseHere 7 = .ok (.invokevirtual 71, 3) := by decide +kernel
theorem dX5_houseHere_10 : decode cX5_houseHere 10 = .ok (.areturn, 1) := by decide +kernel
theorem dX5_carrierAt_0 : decode cX5_carrierAt 0 = .ok (.iload_n 1, 1) := by decide +kernel
theorem dX5_carrierAt_1 : decode cX5_carrierAt 1 = .ok (.iconst 0, 1) := by decide +kernel
theorem dX5_carrierAt_2 : decode cX5_carrierAt 2 = .ok (.aload_n 0, 1) := by decide +kernel
theorem dX5_carrierAt_3 : decode cX5_carrierAt 3 = .ok (.getfield 49, 3) := by decide +kernel
theorem dX5_carrierAt_6 : decode cX5_carrierAt 6 = .ok (.iconst 1, 1) := by decide +kernel
theorem dX5_carrierAt_7 : decode cX5_carrierAt 7 = .ok (.isub, 1) := by decide +kernel
theorem dX5_carrierAt_8 : decode cX5_carrierAt 8 = .ok (.invokestatic 67, 3) := by decide +kernel
theorem dX5_carrierAt_11 : decode cX5_carrierAt 11 = .ok (.ifCond .eq 7, 3) := by decide +kernel
theorem dX5_carrierAt_14 : decode cX5_carrierAt 14 = .ok (.aconst_null, 1) := by decide +kernel
theorem dX5_carrierAt_15 : decode cX5_carrierAt 15 = .ok (.goto 9, 3) := by decide +kernel
theorem dX5_carrierAt_18 : decode cX5_carrierAt 18 = .ok (.aload_n 0, 1) := by decide +kernel
theorem dX5_carrierAt_19 : decode cX5_carrierAt 19 = .ok (.getfield 19, 3) := by decide +kernel
theorem dX5_carrierAt_22 : decode cX5_carrierAt 22 = .ok (.iload_n 1, 1) := by decide +kernel
theorem dX5_carrierAt_23 : decode cX5_carrierAt 23 = .ok (.aaload, 1) := by decide +kernel
theorem dX5_carrierAt_24 : decode cX5_carrierAt 24 = .ok (.areturn, 1) := by decide +kernel
theorem dX5_shoesLeft_0 : decode cX5_shoesLeft 0 = .ok (.iconst 0, 1) := by decide +kernel
theorem dX5_shoesLeft_1 : decode cX5_shoesLeft 1 = .ok (.istore_n 1, 1) := by decide +kernel
theorem dX5_shoesLeft_2 : decode cX5_shoesLeft 2 = .ok (.iconst 0, 1) := by decide +kernel
theorem dX5_shoesLeft_3 : decode cX5_shoesLeft 3 = .ok (.istore_n 2, 1) := by decide +kernel
theorem dX5_shoesLeft_4 : decode cX5_shoesLeft 4 = .ok (.iload_n 2, 1) := by decide +kernel
theorem dX5_shoesLeft_5 : decode cX5_shoesLeft 5 = .ok (.iconst 4, 1) := by decide +kernel
theorem dX5_shoesLeft_6 : decode cX5_shoesLeft 6 = .ok (.if_icmp .ge 23, 3) := by decide +kernel
theorem dX5_shoesLeft_9 : decode cX5_shoesLeft 9 = .ok (.aload_n 0, 1) := by decide +kernel
theorem dX5_shoesLeft_10 : decode cX5_shoesLeft 10 = .ok (.getfield 23, 3) := by decide +kernel
theorem dX5_shoesLeft_13 : decode cX5_shoesLeft 13 = .ok (.iload_n 2, 1) := by decide +kernel
theorem dX5_shoesLeft_14 : decode cX5_shoesLeft 14 = .ok (.iaload, 1) := by decide +kernel
theorem dX5_shoesLeft_15 : decode cX5_shoesLeft 15 = .ok (.bipush 20, 2) := by decide +kernel
theorem dX5_shoesLeft_17 : decode cX5_shoesLeft 17 = .ok (.if_icmp .ge 6, 3) := by decide +kernel
theorem dX5_shoesLeft_20 : decode cX5_shoesLeft 20 = .ok (.iinc 1 1, 3) := by decide +kernel
theorem dX5_shoesLeft_23 : decode cX5_shoesLeft 23 = .ok (.iinc 2 1, 3) := by decide +kernel
theorem dX5_shoesLeft_26 : decode cX5_shoesLeft 26 = .ok (.goto (-22), 3) := by decide +kernel
theorem dX5_shoesLeft_29 : decode cX5_shoesLeft 29 = .ok (.iload_n 1, 1) := by decide +kernel
theorem dX5_shoesLeft_30 : decode cX5_shoesLeft 30 = .ok (.ireturn, 1) := by decide +kernel
theorem dX5_goUphill_0 : decode cX5_goUphill 0 = .ok (.iconst 0, 1) := by decide +kernel
theorem dX5_goUphill_1 : decode cX5_goUphill 1 = .ok (.istore_n 2, 1) := by decide +kernel
theorem dX5_goUphill_2 : decode cX5_goUphill 2 = .ok (.iload_n 2, 1) := by decide +kernel
theorem dX5_goUphill_3 : decode cX5_goUphill 3 = .ok (.iconst 4, 1) := by decide +kernel
theorem dX5_goUphill_4 : decode cX5_goUphill 4 = .ok (.if_icmp .ge 28, 3) := by decide +kernel
theorem dX5_goUphill_7 : decode cX5_goUphill 7 = .ok (.aload_n 0, 1) := by decide +kernel
theorem dX5_goUphill_8 : decode cX5_goUphill 8 = .ok (.getfield 23, 3) := by decide +kernel
theorem dX5_goUphill_11 : decode cX5_goUphill 11 = .ok (.iload_n 2, 1) := by decide +kernel
theorem dX5_goUphill_12 : decode cX5_goUphill 12 = .ok (.bipush 20, 2) := by decide +kernel
theorem dX5_goUphill_14 : decode cX5_goUphill 14 = .ok (.aload_n 0, 1) := by decide +kernel
theorem dX5_goUphill_15 : decode cX5_goUphill 15 = .ok (.getfield 23, 3) := by decide +kernel
theorem dX5_goUphill_18 : decode cX5_goUphill 18 = .ok (.iload_n 2, 1) := by decide +kernel
theorem dX5_goUphill_19 : decode cX5_goUphill 19 = .ok (.iaload, 1) := by decide +kernel
theorem dX5_goUphill_20 : decode cX5_goUphill 20 = .ok (.iload_n 1, 1) := by decide +kernel
theorem dX5_goUphill_21 : decode cX5_goUphill 21 = .ok (.iadd, 1) := by decide +kernel
theorem dX5_goUphill_22 : decode cX5_goUphill 22 = .ok (.invokestatic 75, 3) := by decide +kernel
theorem dX5_goUphill_25 : decode cX5_goUphill 25 = .ok (.iastore, 1) := by decide +kernel
theorem dX5_goUphill_26 : decode cX5_goUphill 26 = .ok (.iinc 2 1, 3) := by decide +kernel
theorem dX5_goUphill_29 : decode cX5_goUphill 29 = .ok (.goto (-27), 3) := by decide +kernel
theorem dX5_goUphill_32 : decode cX5_goUphill 32 = .ok (.aload_n 0, 1) := by decide +kernel
theorem dX5_goUphill_33 : decode cX5_goUphill 33 = .ok (.dup, 1) := by decide +kernel
theorem dX5_goUphill_34 : decode cX5_goUphill 34 = .ok (.getfield 64, 3) := by decide +kernel
theorem dX5_goUphill_37 : decode cX5_goUphill 37 = .ok (.iload_n 1, 1) := by decide +kernel
theorem dX5_goUphill_38 : decode cX5_goUphill 38 = .ok (.iadd, 1) := by decide +kernel
theorem dX5_goUphill_39 : decode cX5_goUphill 39 = .ok (.putfield 64, 3) := by decide +kernel
theorem dX5_goUphill_42 : decode cX5_goUphill 42 = .ok (.return_, 1) := by decide +kernel
theorem dX5_beginDay_0 : decode cX5_beginDay 0 = .ok (.aload_n 0, 1) := by decide +kernel
theorem dX5_beginDay_1 : decode cX5_beginDay 1 = .ok (.dup, 1) := by decide +kernel
theorem dX5_beginDay_2 : decode cX5_beginDay 2 = .ok (.getfield 52, 3) := by decide +kernel
theorem dX5_beginDay_5 : decode cX5_beginDay 5 = .ok (.iconst 1, 1) := by decide +kernel
theorem dX5_beginDay_6 : decode cX5_beginDay 6 = .ok (.iadd, 1) := by decide +kernel
theorem dX5_beginDay_7 : decode cX5_beginDay 7 = .ok (.putfield 52, 3) := by decide +kernel
theorem dX5_beginDay_10 : decode cX5_beginDay 10 = .ok (.aload_n 0, 1) := by decide +kernel
theorem dX5_beginDay_11 : decode cX5_beginDay 11 = .ok (.getfield 52, 3) := by decide +kernel
theorem dX5_beginDay_14 : decode cX5_beginDay 14 = .ok (.bipush 7, 2) := by decide +kernel
theorem dX5_beginDay_16 : decode cX5_beginDay 16 = .ok (.irem, 1) := by decide +kernel
theorem dX5_beginDay_17 : decode cX5_beginDay 17 = .ok (.ifCond .ne 7, 3) := by decide +kernel
theorem dX5_beginDay_20 : decode cX5_beginDay 20 = .ok (.iconst 1, 1) := by decide +kernel
theorem dX5_beginDay_21 : decode cX5_beginDay 21 = .ok (.goto 4, 3) := by decide +kernel
theorem dX5_beginDay_24 : decode cX5_beginDay 24 = .ok (.iconst 0, 1) := by decide +kernel
theorem dX5_beginDay_25 : decode cX5_beginDay 25 = .ok (.istore_n 1, 1) := by decide +kernel
theorem dX5_beginDay_26 : decode cX5_beginDay 26 = .ok (.iconst 0, 1) := by decide +kernel
theorem dX5_beginDay_27 : decode cX5_beginDay 27 = .ok (.istore_n 2, 1) := by decide +kernel
theorem dX5_beginDay_28 : decode cX5_beginDay 28 = .ok (.iload_n 2, 1) := by decide +kernel
theorem dX5_beginDay_29 : decode cX5_beginDay 29 = .ok (.aload_n 0, 1) := by decide +kernel
theorem dX5_beginDay_30 : decode cX5_beginDay 30 = .ok (.getfield 46, 3) := by decide +kernel
theorem dX5_beginDay_33 : decode cX5_beginDay 33 = .ok (.if_icmp .ge 31, 3) := by decide +kernel
theorem dX5_beginDay_36 : decode cX5_beginDay 36 = .ok (.aload_n 0, 1) := by decide +kernel
theorem dX5_beginDay_37 : decode cX5_beginDay 37 = .ok (.getfield 11, 3) := by decide +kernel
theorem dX5_beginDay_40 : decode cX5_beginDay 40 = .ok (.iload_n 2, 1) := by decide +kernel
theorem dX5_beginDay_41 : decode cX5_beginDay 41 = .ok (.aaload, 1) := by decide +kernel
theorem dX5_beginDay_42 : decode cX5_beginDay 42 = .ok (.invokevirtual 81, 3) := by decide +kernel
theorem dX5_beginDay_45 : decode cX5_beginDay 45 = .ok (.iload_n 1, 1) := by decide +kernel
theorem dX5_beginDay_46 : decode cX5_beginDay 46 = .ok (.ifCond .eq 12, 3) := by decide +kernel
theorem dX5_beginDay_49 : decode cX5_beginDay 49 = .ok (.aload_n 0, 1) := by decide +kernel
theorem dX5_beginDay_50 : decode cX5_beginDay 50 = .ok (.getfield 11, 3) := by decide +kernel
theorem dX5_beginDay_53 : decode cX5_beginDay 53 = .ok (.iload_n 2, 1) := by decide +kernel
theorem dX5_beginDay_54 : decode cX5_beginDay 54 = .ok (.aaload, 1) := by decide +kernel
theorem dX5_beginDay_55 : decode cX5_beginDay 55 = .ok (.invokevirtual 84, 3) := by decide +kernel
theorem dX5_beginDay_58 : decode cX5_beginDay 58 = .ok (.iinc 2 1, 3) := by decide +kernel
theorem dX5_beginDay_61 : decode cX5_beginDay 61 = .ok (.goto (-33), 3) := by decide +kernel
theorem dX5_beginDay_64 : decode cX5_beginDay 64 = .ok (.iconst 0, 1) := by decide +kernel
theorem dX5_beginDay_65 : decode cX5_beginDay 65 = .ok (.istore_n 2, 1) := by decide +kernel
theorem dX5_beginDay_66 : decode cX5_beginDay 66 = .ok (.iload_n 2, 1) := by decide +kernel
theorem dX5_beginDay_67 : decode cX5_beginDay 67 = .ok (.aload_n 0, 1) := by decide +kernel
theorem dX5_beginDay_68 : decode cX5_beginDay 68 = .ok (.getfield 49, 3) := by decide +kernel
theorem dX5_beginDay_71 : decode cX5_beginDay 71 = .ok (.if_icmp .ge 18, 3) := by decide +kernel
theorem dX5_beginDay_74 : decode cX5_beginDay 74 = .ok (.aload_n 0, 1) := by decide +kernel
theorem dX5_beginDay_75 : decode cX5_beginDay 75 = .ok (.getfield 19, 3) := by decide +kernel
theorem dX5_beginDay_78 : decode cX5_beginDay 78 = .ok (.iload_n 2, 1) := by decide +kernel
theorem dX5_beginDay_79 : decode cX5_beginDay 79 = .ok (.aaload, 1) := by decide +kernel
theorem dX5_beginDay_80 : decode cX5_beginDay 80 = .ok (.invokevirtual 87, 3) := by decide +kernel
theorem dX5_beginDay_83 : decode cX5_beginDay 83 = .ok (.iinc 2 1, 3) := by decide +kernel
theorem dX5_beginDay_86 : decode cX5_beginDay 86 = .ok (.goto (-20), 3) := by decide +kernel
theorem dX5_beginDay_89 : decode cX5_beginDay 89 = .ok (.return_, 1) := by decide +kernel
theorem dX5_sumOf_0 : decode cX5_sumOf 0 = .ok (.iconst 0, 1) := by decide +kernel
theorem dX5_sumOf_1 : decode cX5_sumOf 1 = .ok (.istore_n 2, 1) := by decide +kernel
theorem dX5_sumOf_2 : decode cX5_sumOf 2 = .ok (.iconst 0, 1) := by decide +kernel
theorem dX5_sumOf_3 : decode cX5_sumOf 3 = .ok (.istore_n 3, 1) := by decide +kernel
theorem dX5_sumOf_4 : decode cX5_sumOf 4 = .ok (.iload_n 3, 1) := by decide +kernel
theorem dX5_sumOf_5 : decode cX5_sumOf 5 = .ok (.aload_n 0, 1) := by decide +kernel
theorem dX5_sumOf_6 : decode cX5_sumOf 6 = .ok (.getfield 46, 3) := by decide +kernel
theorem dX5_sumOf_9 : decode cX5_sumOf 9 = .ok (.if_icmp .ge 22, 3) := by decide +kernel
theorem dX5_sumOf_12 : decode cX5_sumOf 12 = .ok (.iload_n 2, 1) := by decide +kernel
theorem dX5_sumOf_13 : decode cX5_sumOf 13 = .ok (.aload_n 0, 1) := by decide +kernel
theorem dX5_sumOf_14 : decode cX5_sumOf 14 = .ok (.getfield 11, 3) := by decide +kernel
theorem dX5_sumOf_17 : decode cX5_sumOf 17 = .ok (.iload_n 3, 1) := by decide +kernel
theorem dX5_sumOf_18 : decode cX5_sumOf 18 = .ok (.aaload, 1) := by decide +kernel
theorem dX5_sumOf_19 : decode cX5_sumOf 19 = .ok (.iload_n 1, 1) := by decide +kernel
theorem dX5_sumOf_20 : decode cX5_sumOf 20 = .ok (.invokevirtual 88, 3) := by decide +kernel
theorem dX5_sumOf_23 : decode cX5_sumOf 23 = .ok (.iadd, 1) := by decide +kernel
theorem dX5_sumOf_24 : decode cX5_sumOf 24 = .ok (.istore_n 2, 1) := by decide +kernel
theorem dX5_sumOf_25 : decode cX5_sumOf 25 = .ok (.iinc 3 1, 3) := by decide +kernel
theorem dX5_sumOf_28 : decode cX5_sumOf 28 = .ok (.goto (-24), 3) := by decide +kernel
theorem dX5_sumOf_31 : decode cX5_sumOf 31 = .ok (.iload_n 2, 1) := by decide +kernel
theorem dX5_sumOf_32 : decode cX5_sumOf 32 = .ok (.ireturn, 1) := by decide +kernel
theorem dX5_sacksOfCarriers_0 : decode cX5_sacksOfCarriers 0 = .ok (.iconst 0, 1) := by decide +kernel
theorem dX5_sacksOfCarriers_1 : decode cX5_sacksOfCarriers 1 = .ok (.istore_n 1, 1) := by decide +kernel
theorem dX5_sacksOfCarriers_2 : decode cX5_sacksOfCarriers 2 = .ok (.iconst 0, 1) := by decide +kernel
theorem dX5_sacksOfCarriers_3 : decode cX5_sacksOfCarriers 3 = .ok (.istore_n 2, 1) := by decide +kernel
theorem dX5_sacksOfCarriers_4 : decode cX5_sacksOfCarriers 4 = .ok (.iload_n 2, 1) := by decide +kernel
theorem dX5_sacksOfCarriers_5 : decode cX5_sacksOfCarriers 5 = .ok (.aload_n 0, 1) := by decide +kernel
theorem dX5_sacksOfCarriers_6 : decode cX5_sacksOfCarriers 6 = .ok (.getfield 49, 3) := by decide +kernel
theorem dX5_sacksOfCarriers_9 : decode cX5_sacksOfCarriers 9 = .ok (.if_icmp .ge 21, 3) := by decide +kernel
theorem dX5_sacksOfCarriers_12 : decode cX5_sacksOfCarriers 12 = .ok (.iload_n 1, 1) := by decide +kernel
theorem dX5_sacksOfCarriers_13 : decode cX5_sacksOfCarriers 13 = .ok (.aload_n 0, 1) := by decide +kernel
theorem dX5_sacksOfCarriers_14 : decode cX5_sacksOfCarriers 14 = .ok (.getfield 19, 3) := by decide +kernel
theorem dX5_sacksOfCarriers_17 : decode cX5_sacksOfCarriers 17 = .ok (.iload_n 2, 1) := by decide +kernel
theorem dX5_sacksOfCarriers_18 : decode cX5_sacksOfCarriers 18 = .ok (.aaload, 1) := by decide +kernel
theorem dX5_sacksOfCarriers_19 : decode cX5_sacksOfCarriers 19 = .ok (.getfield 92, 3) := by decide +kernel
theorem dX5_sacksOfCarriers_22 : decode cX5_sacksOfCarriers 22 = .ok (.iadd, 1) := by decide +kernel
theorem dX5_sacksOfCarriers_23 : decode cX5_sacksOfCarriers 23 = .ok (.istore_n 1, 1) := by decide +kernel
theorem dX5_sacksOfCarriers_24 : decode cX5_sacksOfCarriers 24 = .ok (.iinc 2 1, 3) := by decide +kernel
theorem dX5_sacksOfCarriers_27 : decode cX5_sacksOfCarriers 27 = .ok (.goto (-23), 3) := by decide +kernel
theorem dX5_sacksOfCarriers_30 : decode cX5_sacksOfCarriers 30 = .ok (.iload_n 1, 1) := by decide +kernel
theorem dX5_sacksOfCarriers_31 : decode cX5_sacksOfCarriers 31 = .ok (.ireturn, 1) := by decide +kernel
theorem dX5_coinsForSacks_0 : decode cX5_coinsForSacks 0 = .ok (.aload_n 0, 1) := by decide +kernel
theorem dX5_coinsForSacks_1 : decode cX5_coinsForSacks 1 = .ok (.getfield 61, 3) := by decide +kernel
theorem dX5_coinsForSacks_4 : decode cX5_coinsForSacks 4 = .ok (.aload_n 0, 1) := by decide +kernel
theorem dX5_coinsForSacks_5 : decode cX5_coinsForSacks 5 = .ok (.iconst 4, 1) := by decide +kernel
theorem dX5_coinsForSacks_6 : decode cX5_coinsForSacks 6 = .ok (.invokevirtual 95, 3) := by decide +kernel
theorem dX5_coinsForSacks_9 : decode cX5_coinsForSacks 9 = .ok (.iadd, 1) := by decide +kernel
theorem dX5_coinsForSacks_10 : decode cX5_coinsForSacks 10 = .ok (.ireturn, 1) := by decide +kernel
theorem dX5_strongestFor_0 : decode cX5_strongestFor 0 = .ok (.iconst (-1), 1) := by decide +kernel
theorem dX5_strongestFor_1 : decode cX5_strongestFor 1 = .ok (.istore_n 2, 1) := by decide +kernel
theorem dX5_strongestFor_2 : decode cX5_strongestFor 2 = .ok (.iconst 0, 1) := by decide +kernel
theorem dX5_strongestFor_3 : decode cX5_strongestFor 3 = .ok (.istore_n 3, 1) := by decide +kernel
theorem dX5_strongestFor_4 : decode cX5_strongestFor 4 = .ok (.iconst 0, 1) := by decide +kernel
theorem dX5_strongestFor_5 : decode cX5_strongestFor 5 = .ok (.istore 4, 2) := by decide +kernel
theorem dX5_strongestFor_7 : decode cX5_strongestFor 7 = .ok (.iconst 0, 1) := by decide +kernel
theorem dX5_strongestFor_8 : decode cX5_strongestFor 8 = .ok (.istore 5, 2) := by decide +kernel
theorem dX5_strongestFor_10 : decode cX5_strongestFor 10 = .ok (.iload 5, 2) := by decide +kernel
theorem dX5_strongestFor_12 : decode cX5_strongestFor 12 = .ok (.aload_n 0, 1) := by decide +kernel
theorem dX5_strongestFor_13 : decode cX5_strongestFor 13 = .ok (.getfield 49, 3) := by decide +kernel
theorem dX5_strongestFor_16 : decode cX5_strongestFor 16 = .ok (.if_icmp .ge 84, 3) := by decide +kernel
theorem dX5_strongestFor_19 : decode cX5_strongestFor 19 = .ok (.aload_n 0, 1) := by decide +kernel
theorem dX5_strongestFor_20 : decode cX5_strongestFor 20 = .ok (.getfield 19, 3) := by decide +kernel
theorem dX5_strongestFor_23 : decode cX5_strongestFor 23 = .ok (.iload 5, 2) := by decide +kernel
theorem dX5_strongestFor_25 : decode cX5_strongestFor 25 = .ok (.aaload, 1) := by decide +kernel
theorem dX5_strongestFor_26 : decode cX5_strongestFor 26 = .ok (.aload_n 1, 1) := by decide +kernel
theorem dX5_strongestFor_27 : decode cX5_strongestFor 27 = .ok (.invokevirtual 98, 3) := by decide +kernel
theorem dX5_strongestFor_30 : decode cX5_strongestFor 30 = .ok (.istore 6, 2) := by decide +kernel
theorem dX5_strongestFor_32 : decode cX5_strongestFor 32 = .ok (.iload_n 2, 1) := by decide +kernel
theorem dX5_strongestFor_33 : decode cX5_strongestFor 33 = .ok (.iconst (-1), 1) := by decide +kernel
theorem dX5_strongestFor_34 : decode cX5_strongestFor 34 = .ok (.if_icmp .eq 13, 3) := by decide +kernel
theorem dX5_strongestFor_37 : decode cX5_strongestFor 37 = .ok (.iload 6, 2) := by decide +kernel
theorem dX5_strongestFor_39 : decode cX5_strongestFor 39 = .ok (.iload_n 3, 1) := by decide +kernel
theorem dX5_strongestFor_40 : decode cX5_strongestFor 40 = .ok (.if_icmp .ne 7, 3) := by decide +kernel
theorem dX5_strongestFor_43 : decode cX5_strongestFor 43 = .ok (.iconst 1, 1) := by decide +kernel
theorem dX5_strongestFor_44 : decode cX5_strongestFor 44 = .ok (.goto 4, 3) := by decide +kernel
theorem dX5_strongestFor_47 : decode cX5_strongestFor 47 = .ok (.iconst 0, 1) := by decide +kernel
theorem dX5_strongestFor_48 : decode cX5_strongestFor 48 = .ok (.istore 7, 2) := by decide +kernel
theorem dX5_strongestFor_50 : decode cX5_strongestFor 50 = .ok (.iload 6, 2) := by decide +kernel
theorem dX5_strongestFor_52 : decode cX5_strongestFor 52 = .ok (.iload_n 3, 1) := by decide +kernel
theorem dX5_strongestFor_53 : decode cX5_strongestFor 53 = .ok (.if_icmp .gt 23, 3) := by decide +kernel
theorem dX5_strongestFor_56 : decode cX5_strongestFor 56 = .ok (.iload 7, 2) := by decide +kernel
theorem dX5_strongestFor_58 : decode cX5_strongestFor 58 = .ok (.ifCond .eq 36, 3) := by decide +kernel
theorem dX5_strongestFor_61 : decode cX5_strongestFor 61 = .ok (.aload_n 0, 1) := by decide +kernel
theorem dX5_strongestFor_62 : decode cX5_strongestFor 62 = .ok (.getfield 19, 3) := by decide +kernel
theorem dX5_strongestFor_65 : decode cX5_strongestFor 65 = .ok (.iload 5, 2) := by decide +kernel
theorem dX5_strongestFor_67 : decode cX5_strongestFor 67 = .ok (.aaload, 1) := by decide +kernel
theorem dX5_strongestFor_68 : decode cX5_strongestFor 68 = .ok (.getfield 102, 3) := by decide +kernel
theorem dX5_strongestFor_71 : decode cX5_strongestFor 71 = .ok (.iload 4, 2) := by decide +kernel
theorem dX5_strongestFor_73 : decode cX5_strongestFor 73 = .ok (.if_icmp .ge 21, 3) := by decide +kernel
theorem dX5_strongestFor_76 : decode cX5_strongestFor 76 = .ok (.iload 5, 2) := by decide +kernel
theorem dX5_strongestFor_78 : decode cX5_strongestFor 78 = .ok (.istore_n 2, 1) := by decide +kernel
theorem dX5_strongestFor_79 : decode cX5_strongestFor 79 = .ok (.iload 6, 2) := by decide +kernel
theorem dX5_strongestFor_81 : decode cX5_strongestFor 81 = .ok (.istore_n 3, 1) := by decide +kernel
theorem dX5_strongestFor_82 : decode cX5_strongestFor 82 = .ok (.aload_n 0, 1) := by decide +kernel
theorem dX5_strongestFor_83 : decode cX5_strongestFor 83 = .ok (.getfield 19, 3) := by decide +kernel
theorem dX5_strongestFor_86 : decode cX5_strongestFor 86 = .ok (.iload 5, 2) := by decide +kernel
theorem dX5_strongestFor_88 : decode cX5_strongestFor 88 = .ok (.aaload, 1) := by decide +kernel
theorem dX5_strongestFor_89 : decode cX5_strongestFor 89 = .ok (.getfield 102, 3) := by decide +kernel
theorem dX5_strongestFor_92 : decode cX5_strongestFor 92 = .ok (.istore 4, 2) := by decide +kernel
theorem dX5_strongestFor_94 : decode cX5_strongestFor 94 = .ok (.iinc 5 1, 3) := by decide +kernel
theorem dX5_strongestFor_97 : decode cX5_strongestFor 97 = .ok (.goto (-87), 3) := by decide +kernel
theorem dX5_strongestFor_100 : decode cX5_strongestFor 100 = .ok (.iload_n 2, 1) := by decide +kernel
theorem dX5_strongestFor_101 : decode cX5_strongestFor 101 = .ok (.ireturn, 1) := by decide +kernel
theorem dX5_houseOfRank_0 : decode cX5_houseOfRank 0 = .ok (.iconst 0, 1) := by decide +kernel
theorem dX5_houseOfRank_1 : decode cX5_houseOfRank 1 = .ok (.istore_n 2, 1) := by decide +kernel
theorem dX5_houseOfRank_2 : decode cX5_houseOfRank 2 = .ok (.iload_n 2, 1) := by decide +kernel
theorem dX5_houseOfRank_3 : decode cX5_houseOfRank 3 = .ok (.aload_n 0, 1) := by decide +kernel
theorem dX5_houseOfRank_4 : decode cX5_houseOfRank 4 = .ok (.getfield 46, 3) := by decide +kernel
theorem dX5_houseOfRank_7 : decode cX5_houseOfRank 7 = .ok (.if_icmp .ge 49, 3) := by decide +kernel
theorem dX5_houseOfRank_10 : decode cX5_houseOfRank 10 = .ok (.iconst 0, 1) := by decide +kernel
theorem dX5_houseOfRank_11 : decode cX5_houseOfRank 11 = .ok (.istore_n 3, 1) := by decide +kernel
theorem dX5_houseOfRank_12 : decode cX5_houseOfRank 12 = .ok (.iconst 0, 1) := by decide +kernel
theorem dX5_houseOfRank_13 : decode cX5_houseOfRank 13 = .ok (.istore 4, 2) := by decide +kernel
theorem dX5_houseOfRank_15 : decode cX5_houseOfRank 15 = .ok (.iload 4, 2) := by decide +kernel
theorem dX5_houseOfRank_17 : decode cX5_houseOfRank 17 = .ok (.aload_n 0, 1) := by decide +kernel
theorem dX5_houseOfRank_18 : decode cX5_houseOfRank 18 = .ok (.getfield 46, 3) := by decide +kernel
theorem dX5_houseOfRank_21 : decode cX5_houseOfRank 21 = .ok (.if_icmp .ge 22, 3) := by decide +kernel
theorem dX5_houseOfRank_24 : decode cX5_houseOfRank 24 = .ok (.aload_n 0, 1) := by decide +kernel
theorem dX5_houseOfRank_25 : decode cX5_houseOfRank 25 = .ok (.iload 4, 2) := by decide +kernel
theorem dX5_houseOfRank_27 : decode cX5_houseOfRank 27 = .ok (.iload_n 2, 1) := by decide +kernel
theorem dX5_houseOfRank_28 : decode cX5_houseOfRank 28 = .ok (.invokevirtual 105, 3) := by decide +kernel
theorem dX5_houseOfRank_31 : decode cX5_houseOfRank 31 = .ok (.ifCond .eq 6, 3) := by decide +kernel
theorem dX5_houseOfRank_34 : decode cX5_houseOfRank 34 = .ok (.iinc 3 1, 3) := by decide +kernel
theorem dX5_houseOfRank_37 : decode cX5_houseOfRank 37 = .ok (.iinc 4 1, 3) := by decide +kernel
theorem dX5_houseOfRank_40 : decode cX5_houseOfRank 40 = .ok (.goto (-25), 3) := by decide +kernel
theorem dX5_houseOfRank_43 : decode cX5_houseOfRank 43 = .ok (.iload_n 3, 1) := by decide +kernel
theorem dX5_houseOfRank_44 : decode cX5_houseOfRank 44 = .ok (.iload_n 1, 1) := by decide +kernel
theorem dX5_houseOfRank_45 : decode cX5_houseOfRank 45 = .ok (.if_icmp .ne 5, 3) := by decide +kernel
theorem dX5_houseOfRank_48 : decode cX5_houseOfRank 48 = .ok (.iload_n 2, 1) := by decide +kernel
theorem dX5_houseOfRank_49 : decode cX5_houseOfRank 49 = .ok (.ireturn, 1) := by decide +kernel
theorem dX5_houseOfRank_50 : decode cX5_houseOfRank 50 = .ok (.iinc 2 1, 3) := by decide +kernel
theorem dX5_houseOfRank_53 : decode cX5_houseOfRank 53 = .ok (.goto (-51), 3) := by decide +kernel
theorem dX5_houseOfRank_56 : decode cX5_houseOfRank 56 = .ok (.iconst (-1), 1) := by decide +kernel
theorem dX5_houseOfRank_57 : decode cX5_houseOfRank 57 = .ok (.ireturn, 1) := by decide +kernel
theorem dX5_isAhead_0 : decode cX5_isAhead 0 = .ok (.aload_n 0, 1) := by decide +kernel
theorem dX5_isAhead_1 : decode cX5_isAhead 1 = .ok (.iload_n 1, 1) := by decide +kernel
theorem dX5_isAhead_2 : decode cX5_isAhead 2 = .ok (.invokevirtual 71, 3) := by decide +kernel
theorem dX5_isAhead_5 : decode cX5_isAhead 5 = .ok (.astore_n 3, 1) := by decide +kernel
theorem dX5_isAhead_6 : decode cX5_isAhead 6 = .ok (.aload_n 0, 1) := by decide +kernel
theorem dX5_isAhead_7 : decode cX5_isAhead 7 = .ok (.iload_n 2, 1) := by decide +kernel
theorem dX5_isAhead_8 : decode cX5_isAhead 8 = .ok (.invokevirtual 71, 3) := by decide +kernel
theorem dX5_isAhead_11 : decode cX5_isAhead 11 = .ok (.astore 4, 2) := by decide +kernel
theorem dX5_isAhead_13 : decode cX5_isAhead 13 = .ok (.aload_n 3, 1) := by decide +kernel
theorem dX5_isAhead_14 : decode cX5_isAhead 14 = .ok (.ifnull 8, 3) := by decide +kernel
theorem dX5_isAhead_17 : decode cX5_isAhead 17 = .ok (.aload 4, 2) := by decide +kernel
theorem dX5_isAhead_19 : decode cX5_isAhead 19 = .ok (.ifnonnull 5, 3) := by decide +kernel
theorem dX5_isAhead_22 : decode cX5_isAhead 22 = .ok (.iconst 0, 1) := by decide +kernel
theorem dX5_isAhead_23 : decode cX5_isAhead 23 = .ok (.ireturn, 1) := by decide +kernel
theorem dX5_isAhead_24 : decode cX5_isAhead 24 = .ok (.aload_n 3, 1) := by decide +kernel
theorem dX5_isAhead_25 : decode cX5_isAhead 25 = .ok (.getfield 109, 3) := by decide +kernel
theorem dX5_isAhead_28 : decode cX5_isAhead 28 = .ok (.aload 4, 2) := by decide +kernel
theorem dX5_isAhead_30 : decode cX5_isAhead 30 = .ok (.getfield 109, 3) := by decide +kernel
theorem dX5_isAhead_33 : decode cX5_isAhead 33 = .ok (.if_icmp .eq 21, 3) := by decide +kernel
theorem dX5_isAhead_36 : decode cX5_isAhead 36 = .ok (.aload_n 3, 1) := by decide +kernel
theorem dX5_isAhead_37 : decode cX5_isAhead 37 = .ok (.getfield 109, 3) := by decide +kernel
theorem dX5_isAhead_40 : decode cX5_isAhead 40 = .ok (.aload 4, 2) := by decide +kernel
theorem dX5_isAhead_42 : decode cX5_isAhead 42 = .ok (.getfield 109, 3) := by decide +kernel
theorem dX5_isAhead_45 : decode cX5_isAhead 45 = .ok (.if_icmp .le 7, 3) := by decide +kernel
theorem dX5_isAhead_48 : decode cX5_isAhead 48 = .ok (.iconst 1, 1) := by decide +kernel
theorem dX5_isAhead_49 : decode cX5_isAhead 49 = .ok (.goto 4, 3) := by decide +kernel
theorem dX5_isAhead_52 : decode cX5_isAhead 52 = .ok (.iconst 0, 1) := by decide +kernel
theorem dX5_isAhead_53 : decode cX5_isAhead 53 = .ok (.ireturn, 1) := by decide +kernel
theorem dX5_isAhead_54 : decode cX5_isAhead 54 = .ok (.aload_n 3, 1) := by decide +kernel
theorem dX5_isAhead_55 : decode cX5_isAhead 55 = .ok (.getfield 112, 3) := by decide +kernel
theorem dX5_isAhead_58 : decode cX5_isAhead 58 = .ok (.aload 4, 2) := by decide +kernel
theorem dX5_isAhead_60 : decode cX5_isAhead 60 = .ok (.getfield 112, 3) := by decide +kernel
theorem dX5_isAhead_63 : decode cX5_isAhead 63 = .ok (.if_icmp .eq 23, 3) := by decide +kernel
theorem dX5_isAhead_66 : decode cX5_isAhead 66 = .ok (.aload_n 3, 1) := by decide +kernel
theorem dX5_isAhead_67 : decode cX5_isAhead 67 = .ok (.getfield 112, 3) := by decide +kernel
theorem dX5_isAhead_70 : decode cX5_isAhead 70 = .ok (.aload 4, 2) := by decide +kernel
theorem dX5_isAhead_72 : decode cX5_isAhead 72 = .ok (.getfield 112, 3) := by decide +kernel
theorem dX5_isAhead_75 : decode cX5_isAhead 75 = .ok (.if_icmp .le 7, 3) := by decide +kernel
theorem dX5_isAhead_78 : decode cX5_isAhead 78 = .ok (.iconst 1, 1) := by decide +kernel
theorem dX5_isAhead_79 : decode cX5_isAhead 79 = .ok (.goto 17, 3) := by decide +kernel
theorem dX5_isAhead_82 : decode cX5_isAhead 82 = .ok (.iconst 0, 1) := by decide +kernel
theorem dX5_isAhead_83 : decode cX5_isAhead 83 = .ok (.goto 13, 3) := by decide +kernel
theorem dX5_isAhead_86 : decode cX5_isAhead 86 = .ok (.iload_n 1, 1) := by decide +kernel
theorem dX5_isAhead_87 : decode cX5_isAhead 87 = .ok (.iload_n 2, 1) := by decide +kernel
theorem dX5_isAhead_88 : decode cX5_isAhead 88 = .ok (.if_icmp .ge 7, 3) := by decide +kernel
theorem dX5_isAhead_91 : decode cX5_isAhead 91 = .ok (.iconst 1, 1) := by decide +kernel
theorem dX5_isAhead_92 : decode cX5_isAhead 92 = .ok (.goto 4, 3) := by decide +kernel
theorem dX5_isAhead_95 : decode cX5_isAhead 95 = .ok (.iconst 0, 1) := by decide +kernel
theorem dX5_isAhead_96 : decode cX5_isAhead 96 = .ok (.ireturn, 1) := by decide +kernel
theorem dX5_number_0 : decode cX5_number 0 = .ok (.iload_n 1, 1) := by decide +kernel
theorem dX5_number_1 : decode cX5_number 1 = .ok (.tableswitch 135 0 12 #[67, 72, 77, 82, 87, 92, 97, 103, 109, 115, 120, 125, 130], 67) := by decide +kernel
theorem dX5_number_68 : decode cX5_number 68 = .ok (.aload_n 0, 1) := by decide +kernel
theorem dX5_number_69 : decode cX5_number 69 = .ok (.getfield 52, 3) := by decide +kernel
theorem dX5_number_72 : decode cX5_number 72 = .ok (.ireturn, 1) := by decide +kernel
theorem dX5_number_73 : decode cX5_number 73 = .ok (.aload_n 0, 1) := by decide +kernel
theorem dX5_number_74 : decode cX5_number 74 = .ok (.getfield 46, 3) := by decide +kernel
theorem dX5_number_77 : decode cX5_number 77 = .ok (.ireturn, 1) := by decide +kernel
theorem dX5_number_78 : decode cX5_number 78 = .ok (.aload_n 0, 1) := by decide +kernel
theorem dX5_number_79 : decode cX5_number 79 = .ok (.getfield 49, 3) := by decide +kernel
theorem dX5_number_82 : decode cX5_number 82 = .ok (.ireturn, 1) := by decide +kernel
theorem dX5_number_83 : decode cX5_number 83 = .ok (.aload_n 0, 1) := by decide +kernel
theorem dX5_number_84 : decode cX5_number 84 = .ok (.getfield 55, 3) := by decide +kernel
theorem dX5_number_87 : decode cX5_number 87 = .ok (.ireturn, 1) := by decide +kernel
theorem dX5_number_88 : decode cX5_number 88 = .ok (.aload_n 0, 1) := by decide +kernel
theorem dX5_number_89 : decode cX5_number 89 = .ok (.getfield 58, 3) := by decide +kernel
theorem dX5_number_92 : decode cX5_number 92 = .ok (.ireturn, 1) := by decide +kernel
theorem dX5_number_93 : decode cX5_number 93 = .ok (.aload_n 0, 1) := by decide +kernel
theorem dX5_number_94 : decode cX5_number 94 = .ok (.getfield 27, 3) := by decide +kernel
theorem dX5_number_97 : decode cX5_number 97 = .ok (.ireturn, 1) := by decide +kernel
theorem dX5_number_98 : decode cX5_number 98 = .ok (.aload_n 0, 1) := by decide +kernel
theorem dX5_number_99 : decode cX5_number 99 = .ok (.iconst 3, 1) := by decide +kernel
theorem dX5_number_100 : decode cX5_number 100 = .ok (.invokevirtual 95, 3) := by decide +kernel
theorem dX5_number_103 : decode cX5_number 103 = .ok (.ireturn, 1) := by decide +kernel
theorem dX5_number_104 : decode cX5_number 104 = .ok (.aload_n 0, 1) := by decide +kernel
theorem dX5_number_105 : decode cX5_number 105 = .ok (.iconst 4, 1) := by decide +kernel
theorem dX5_number_106 : decode cX5_number 106 = .ok (.invokevirtual 95, 3) := by decide +kernel
theorem dX5_number_109 : decode cX5_number 109 = .ok (.ireturn, 1) := by decide +kernel
theorem dX5_number_110 : decode cX5_number 110 = .ok (.aload_n 0, 1) := by decide +kernel
theorem dX5_number_111 : decode cX5_number 111 = .ok (.iconst 5, 1) := by decide +kernel
theorem dX5_number_112 : decode cX5_number 112 = .ok (.invokevirtual 95, 3) := by decide +kernel
theorem dX5_number_115 : decode cX5_number 115 = .ok (.ireturn, 1) := by decide +kernel
theorem dX5_number_116 : decode cX5_number 116 = .ok (.aload_n 0, 1) := by decide +kernel
theorem dX5_number_117 : decode cX5_number 117 = .ok (.getfield 31, 3) := by decide +kernel
theorem dX5_number_120 : decode cX5_number 120 = .ok (.ireturn, 1) := by decide +kernel
theorem dX5_number_121 : decode cX5_number 121 = .ok (.aload_n 0, 1) := by decide +kernel
theorem dX5_number_122 : decode cX5_number 122 = .ok (.getfield 61, 3) := by decide +kernel
theorem dX5_number_125 : decode cX5_number 125 = .ok (.ireturn, 1) := by decide +kernel
theorem dX5_number_126 : decode cX5_number 126 = .ok (.aload_n 0, 1) := by decide +kernel
theorem dX5_number_127 : decode cX5_number 127 = .ok (.getfield 34, 3) := by decide +kernel
theorem dX5_number_130 : decode cX5_number 130 = .ok (.ireturn, 1) := by decide +kernel
theorem dX5_number_131 : decode cX5_number 131 = .ok (.aload_n 0, 1) := by decide +kernel
theorem dX5_number_132 : decode cX5_number 132 = .ok (.invokevirtual 115, 3) := by decide +kernel
theorem dX5_number_135 : decode cX5_number 135 = .ok (.ireturn, 1) := by decide +kernel
theorem dX5_number_136 : decode cX5_number 136 = .ok (.aload_n 0, 1) := by decide +kernel
theorem dX5_number_137 : decode cX5_number 137 = .ok (.getfield 64, 3) := by decide +kernel
theorem dX5_number_140 : decode cX5_number 140 = .ok (.ireturn, 1) := by decide +kernel
theorem dX6_init_0 : decode cX6_init 0 = .ok (.aload_n 0, 1) := by decide +kernel
theorem dX6_init_1 : decode cX6_init 1 = .ok (.invokespecial 3, 3) := by decide +kernel
theorem dX6_init_4 : decode cX6_init 4 = .ok (.aload_n 0, 1) := by decide +kernel
theorem dX6_init_5 : decode cX6_init 5 = .ok (.new 9, 3) := by decide +kernel
theorem dX6_init_8 : decode cX6_init 8 = .ok (.dup, 1) := by decide +kernel
theorem dX6_init_9 : decode cX6_init 9 = .ok (.invokespecial 11, 3) := by decide +kernel
theorem dX6_init_12 : decode cX6_init 12 = .ok (.putfield 12, 3) := by decide +kernel
theorem dX6_init_15 : decode cX6_init 15 = .ok (.aload_n 0, 1) := by decide +kernel
theorem dX6_init_16 : decode cX6_init 16 = .ok (.new 18, 3) := by decide +kernel
theorem dX6_init_19 : decode cX6_init 19 = .ok (.dup, 1) := by decide +kernel
theorem dX6_init_20 : decode cX6_init 20 = .ok (.invokespecial 20, 3) := by decide +kernel
theorem dX6_init_23 : decode cX6_init 23 = .ok (.putfield 21, 3) := by decide +kernel
theorem dX6_init_26 : decode cX6_init 26 = .ok (.return_, 1) := by decide +kernel
theorem dX6_addHouse_0 : decode cX6_addHouse 0 = .ok (.iload_n 1, 1) := by decide +kernel
theorem dX6_addHouse_1 : decode cX6_addHouse 1 = .ok (.iconst 0, 1) := by decide +kernel
theorem dX6_addHouse_2 : decode cX6_addHouse 2 = .ok (.bipush 9, 2) := by decide +kernel
theorem dX6_addHouse_4 : decode cX6_addHouse 4 = .ok (.invokestatic 25, 3) := by decide +kernel
theorem dX6_addHouse_7 : decode cX6_addHouse 7 = .ok (.ifCond .ne 12, 3) := by decide +kernel
theorem dX6_addHouse_10 : decode cX6_addHouse 10 = .ok (.iload_n 2, 1) := by decide +kernel
theorem dX6_addHouse_11 : decode cX6_addHouse 11 = .ok (.iconst 0, 1) := by decide +kernel
theorem dX6_addHouse_12 : decode cX6_addHouse 12 = .ok (.iconst 2, 1) := by decide +kernel
theorem dX6_addHouse_13 : decode cX6_addHouse 13 = .ok (.invokestatic 25, 3) := by decide +kernel
theorem dX6_addHouse_16 : decode cX6_addHouse 16 = .ok (.ifCond .eq 13, 3) := by decide +kernel
theorem dX6_addHouse_19 : decode cX6_addHouse 19 = .ok (.aload_n 0, 1) := by decide +kernel
theorem dX6_addHouse_20 : decode cX6_addHouse 20 = .ok (.getfield 21, 3) := by decide +kernel
theorem dX6_addHouse_23 : decode cX6_addHouse 23 = .ok (.iconst 1, 1) := by decide +kernel
theorem dX6_addHouse_24 : decode cX6_addHouse 24 = .ok (.iconst 0, 1) := by decide +kernel
theorem dX6_addHouse_25 : decode cX6_addHouse 25 = .ok (.invokevirtual 29, 3) := by decide +kernel
theorem dX6_addHouse_28 : decode cX6_addHouse 28 = .ok (.ireturn, 1) := by decide +kernel
theorem dX6_addHouse_29 : decode cX6_addHouse 29 = .ok (.aload_n 0, 1) := by decide +kernel
theorem dX6_addHouse_30 : decode cX6_addHouse 30 = .ok (.getfield 12, 3) := by decide +kernel
theorem dX6_addHouse_33 : decode cX6_addHouse 33 = .ok (.getfield 33, 3) := by decide +kernel
theorem dX6_addHouse_36 : decode cX6_addHouse 36 = .ok (.istore_n 3, 1) := by decide +kernel
theorem dX6_addHouse_37 : decode cX6_addHouse 37 = .ok (.iload_n 3, 1) := by decide +kernel
theorem dX6_addHouse_38 : decode cX6_addHouse 38 = .ok (.bipush 8, 2) := by decide +kernel
theorem dX6_addHouse_40 : decode cX6_addHouse 40 = .ok (.if_icmp .lt 14, 3) := by decide +kernel
theorem dX6_addHouse_43 : decode cX6_addHouse 43 = .ok (.aload_n 0, 1) := by decide +kernel
theorem dX6_addHouse_44 : decode cX6_addHouse 44 = .ok (.getfield 21, 3) := by decide +kernel
theorem dX6_addHouse_47 : decode cX6_addHouse 47 = .ok (.iconst 2, 1) := by decide +kernel
theorem dX6_addHouse_48 : decode cX6_addHouse 48 = .ok (.bipush 8, 2) := by decide +kernel
theorem dX6_addHouse_50 : decode cX6_addHouse 50 = .ok (.invokevirtual 29, 3) := by decide +kernel
theorem dX6_addHouse_53 : decode cX6_addHouse 53 = .ok (.ireturn, 1) := by decide +kernel
theorem dX6_addHouse_54 : decode cX6_addHouse 54 = .ok (.aload_n 0, 1) := by decide +kernel
theorem dX6_addHouse_55 : decode cX6_addHouse 55 = .ok (.getfield 12, 3) := by decide +kernel
theorem dX6_addHouse_58 : decode cX6_addHouse 58 = .ok (.getfield 37, 3) := by decide +kernel
theorem dX6_addHouse_61 : decode cX6_addHouse 61 = .ok (.iload_n 3, 1) := by decide +kernel
theorem dX6_addHouse_62 : decode cX6_addHouse 62 = .ok (.aaload, 1) := by decide +kernel
theorem dX6_addHouse_63 : decode cX6_addHouse 63 = .ok (.iload_n 1, 1) := by decide +kernel
theorem dX6_addHouse_64 : decode cX6_addHouse 64 = .ok (.putfield 41, 3) := by decide +kernel
theorem dX6_addHouse_67 : decode cX6_addHouse 67 = .ok (.aload_n 0, 1) := by decide +kernel
theorem dX6_addHouse_68 : decode cX6_addHouse 68 = .ok (.getfield 12, 3) := by decide +kernel
theorem dX6_addHouse_71 : decode cX6_addHouse 71 = .ok (.getfield 37, 3) := by decide +kernel
theorem dX6_addHouse_74 : decode cX6_addHouse 74 = .ok (.iload_n 3, 1) := by decide +kernel
theorem dX6_addHouse_75 : decode cX6_addHouse 75 = .ok (.aaload, 1) := by decide +kernel
theorem dX6_addHouse_76 : decode cX6_addHouse 76 = .ok (.iload_n 2, 1) := by decide +kernel
theorem dX6_addHouse_77 : decode cX6_addHouse 77 = .ok (.putfield 46, 3) := by decide +kernel
theorem dX6_addHouse_80 : decode cX6_addHouse 80 = .ok (.aload_n 0, 1) := by decide +kernel
theorem dX6_addHouse_81 : decode cX6_addHouse 81 = .ok (.getfield 12, 3) := by decide +kernel
theorem dX6_addHouse_84 : decode cX6_addHouse 84 = .ok (.dup, 1) := by decide +kernel
theorem dX6_addHouse_85 : decode cX6_addHouse 85 = .ok (.getfield 33, 3) := by decide +kernel
theorem dX6_addHouse_88 : decode cX6_addHouse 88 = .ok (.iconst 1, 1) := by decide +kernel
theorem dX6_addHouse_89 : decode cX6_addHouse 89 = .ok (.iadd, 1) := by decide +kernel
theorem dX6_addHouse_90 : decode cX6_addHouse 90 = .ok (.putfield 33, 3) := by decide +kernel
theorem dX6_addHouse_93 : decode cX6_addHouse 93 = .ok (.iload_n 3, 1) := by decide +kernel
theorem dX6_addHouse_94 : decode cX6_addHouse 94 = .ok (.ireturn, 1) := by decide +kernel
theorem dX6_setOrder_0 : decode cX6_setOrder 0 = .ok (.aload_n 0, 1) := by decide +kernel
theorem dX6_setOrder_1 : decode cX6_setOrder 1 = .ok (.getfield 12, 3) := by decide +kernel
theorem dX6_setOrder_4 : decode cX6_setOrder 4 = .ok (.iload_n 1, 1) := by decide +kernel
theorem dX6_setOrder_5 : decode cX6_setOrder 5 = .ok (.invokevirtual 49, 3) := by decide +kernel
theorem dX6_setOrder_8 : decode cX6_setOrder 8 = .ok (.astore_n 3, 1) := by decide +kernel
theorem dX6_setOrder_9 : decode cX6_setOrder 9 = .ok (.aload_n 3, 1) := by decide +kernel
theorem dX6_setOrder_10 : decode cX6_setOrder 10 = .ok (.ifnonnull 13, 3) := by decide +kernel
theorem dX6_setOrder_13 : decode cX6_setOrder 13 = .ok (.aload_n 0, 1) := by decide +kernel
theorem dX6_setOrder_14 : decode cX6_setOrder 14 = .ok (.getfield 21, 3) := by decide +kernel
theorem dX6_setOrder_17 : decode cX6_setOrder 17 = .ok (.iconst 3, 1) := by decide +kernel
theorem dX6_setOrder_18 : decode cX6_setOrder 18 = .ok (.iload_n 1, 1) := by decide +kernel
theorem dX6_setOrder_19 : decode cX6_setOrder 19 = .ok (.invokevirtual 29, 3) := by decide +kernel
theorem dX6_setOrder_22 : decode cX6_setOrder 22 = .ok (.ireturn, 1) := by decide +kernel
theorem dX6_setOrder_23 : decode cX6_setOrder 23 = .ok (.iload_n 2, 1) := by decide +kernel
theorem dX6_setOrder_24 : decode cX6_setOrder 24 = .ok (.iconst 0, 1) := by decide +kernel
theorem dX6_setOrder_25 : decode cX6_setOrder 25 = .ok (.iconst 4, 1) := by decide +kernel
theorem dX6_setOrder_26 : decode cX6_setOrder 26 = .ok (.invokestatic 25, 3) := by decide +kernel
theorem dX6_setOrder_29 : decode cX6_setOrder 29 = .ok (.ifCond .eq 13, 3) := by decide +kernel
theorem dX6_setOrder_32 : decode cX6_setOrder 32 = .ok (.aload_n 0, 1) := by decide +kernel
theorem dX6_setOrder_33 : decode cX6_setOrder 33 = .ok (.getfield 21, 3) := by decide +kernel
theorem dX6_setOrder_36 : decode cX6_setOrder 36 = .ok (.iconst 1, 1) := by decide +kernel
theorem dX6_setOrder_37 : decode cX6_setOrder 37 = .ok (.iconst 0, 1) := by decide +kernel
theorem dX6_setOrder_38 : decode cX6_setOrder 38 = .ok (.invokevirtual 29, 3) := by decide +kernel
theorem dX6_setOrder_41 : decode cX6_setOrder 41 = .ok (.ireturn, 1) := by decide +kernel
theorem dX6_setOrder_42 : decode cX6_setOrder 42 = .ok (.aload_n 3, 1) := by decide +kernel
theorem dX6_setOrder_43 : decode cX6_setOrder 43 = .ok (.getfield 53, 3) := by decide +kernel
theorem dX6_setOrder_46 : decode cX6_setOrder 46 = .ok (.istore 4, 2) := by decide +kernel
theorem dX6_setOrder_48 : decode cX6_setOrder 48 = .ok (.aload_n 3, 1) := by decide +kernel
theorem dX6_setOrder_49 : decode cX6_setOrder 49 = .ok (.iload_n 2, 1) := by decide +kernel
theorem dX6_setOrder_50 : decode cX6_setOrder 50 = .ok (.putfield 53, 3) := by decide +kernel
theorem dX6_setOrder_53 : decode cX6_setOrder 53 = .ok (.iload 4, 2) := by decide +kernel
theorem dX6_setOrder_55 : decode cX6_setOrder 55 = .ok (.ireturn, 1) := by decide +kernel
theorem dX6_addCarrier_0 : decode cX6_addCarrier 0 = .ok (.iload_n 1, 1) := by decide +kernel
theorem dX6_addCarrier_1 : decode cX6_addCarrier 1 = .ok (.iconst 1, 1) := by decide +kernel
theorem dX6_addCarrier_2 : decode cX6_addCarrier 2 = .ok (.bipush 9, 2) := by decide +kernel
theorem dX6_addCarrier_4 : decode cX6_addCarrier 4 = .ok (.invokestatic 25, 3) := by decide +kernel
theorem dX6_addCarrier_7 : decode cX6_addCarrier 7 = .ok (.ifCond .eq 13, 3) := by decide +kernel
theorem dX6_addCarrier_10 : decode cX6_addCarrier 10 = .ok (.aload_n 0, 1) := by decide +kernel
theorem dX6_addCarrier_11 : decode cX6_addCarrier 11 = .ok (.getfield 21, 3) := by decide +kernel
theorem dX6_addCarrier_14 : decode cX6_addCarrier 14 = .ok (.iconst 1, 1) := by decide +kernel
theorem dX6_addCarrier_15 : decode cX6_addCarrier 15 = .ok (.iconst 0, 1) := by decide +kernel
theorem dX6_addCarrier_16 : decode cX6_addCarrier 16 = .ok (.invokevirtual 29, 3) := by decide +kernel
theorem dX6_addCarrier_19 : decode cX6_addCarrier 19 = .ok (.ireturn, 1) := by decide +kernel
theorem dX6_addCarrier_20 : decode cX6_addCarrier 20 = .ok (.aload_n 0, 1) := by decide +kernel
theorem dX6_addCarrier_21 : decode cX6_addCarrier 21 = .ok (.getfield 12, 3) := by decide +kernel
theorem dX6_addCarrier_24 : decode cX6_addCarrier 24 = .ok (.getfield 56, 3) := by decide +kernel
theorem dX6_addCarrier_27 : decode cX6_addCarrier 27 = .ok (.istore_n 2, 1) := by decide +kernel
theorem dX6_addCarrier_28 : decode cX6_addCarrier 28 = .ok (.iload_n 2, 1) := by decide +kernel
theorem dX6_addCarrier_29 : decode cX6_addCarrier 29 = .ok (.iconst 4, 1) := by decide +kernel
theorem dX6_addCarrier_30 : decode cX6_addCarrier 30 = .ok (.if_icmp .lt 13, 3) := by decide +kernel
theorem dX6_addCarrier_33 : decode cX6_addCarrier 33 = .ok (.aload_n 0, 1) := by decide +kernel
theorem dX6_addCarrier_34 : decode cX6_addCarrier 34 = .ok (.getfield 21, 3) := by decide +kernel
theorem dX6_addCarrier_37 : decode cX6_addCarrier 37 = .ok (.iconst 2, 1) := by decide +kernel
theorem dX6_addCarrier_38 : decode cX6_addCarrier 38 = .ok (.iconst 4, 1) := by decide +kernel
theorem dX6_addCarrier_39 : decode cX6_addCarrier 39 = .ok (.invokevirtual 29, 3) := by decide +kernel
theorem dX6_addCarrier_42 : decode cX6_addCarrier 42 = .ok (.ireturn, 1) := by decide +kernel
theorem dX6_addCarrier_43 : decode cX6_addCarrier 43 = .ok (.aload_n 0, 1) := by decide +kernel
theorem dX6_addCarrier_44 : decode cX6_addCarrier 44 = .ok (.getfield 12, 3) := by decide +kernel
theorem dX6_addCarrier_47 : decode cX6_addCarrier 47 = .ok (.getfield 59, 3) := by decide +kernel
theorem dX6_addCarrier_50 : decode cX6_addCarrier 50 = .ok (.iload_n 2, 1) := by decide +kernel
theorem dX6_addCarrier_51 : decode cX6_addCarrier 51 = .ok (.aaload, 1) := by decide +kernel
theorem dX6_addCarrier_52 : decode cX6_addCarrier 52 = .ok (.iload_n 1, 1) := by decide +kernel
theorem dX6_addCarrier_53 : decode cX6_addCarrier 53 = .ok (.putfield 63, 3) := by decide +kernel
theorem dX6_addCarrier_56 : decode cX6_addCarrier 56 = .ok (.aload_n 0, 1) := by decide +kernel
theorem dX6_addCarrier_57 : decode cX6_addCarrier 57 = .ok (.getfield 12, 3) := by decide +kernel
theorem dX6_addCarrier_60 : decode cX6_addCarrier 60 = .ok (.dup, 1) := by decide +kernel
theorem dX6_addCarrier_61 : decode cX6_addCarrier 61 = .ok (.getfield 56, 3) := by decide +kernel
theorem dX6_addCarrier_64 : decode cX6_addCarrier 64 = .ok (.iconst 1, 1) := by decide +kernel
theorem dX6_addCarrier_65 : decode cX6_addCarrier 65 = .ok (.iadd, 1) := by decide +kernel
theorem dX6_addCarrier_66 : decode cX6_addCarrier 66 = .ok (.putfield 56, 3) := by decide +kernel
theorem dX6_addCarrier_69 : decode cX6_addCarrier 69 = .ok (.iload_n 2, 1) := by decide +kernel
theorem dX6_addCarrier_70 : decode cX6_addCarrier 70 = .ok (.ireturn, 1) := by decide +kernel
theorem dX6_loadCart_0 : decode cX6_loadCart 0 = .ok (.iload_n 1, 1) := by decide +kernel
theorem dX6_loadCart_1 : decode cX6_loadCart 1 = .ok (.iconst 1, 1) := by decide +kernel
theorem dX6_loadCart_2 : decode cX6_loadCart 2 = .ok (.bipush 30, 2) := by decide +kernel
theorem dX6_loadCart_4 : decode cX6_loadCart 4 = .ok (.invokestatic 25, 3) := by decide +kernel
theorem dX6_loadCart_7 : decode cX6_loadCart 7 = .ok (.ifCond .eq 13, 3) := by decide +kernel
theorem dX6_loadCart_10 : decode cX6_loadCart 10 = .ok (.aload_n 0, 1) := by decide +kernel
theorem dX6_loadCart_11 : decode cX6_loadCart 11 = .ok (.getfield 21, 3) := by decide +kernel
theorem dX6_loadCart_14 : decode cX6_loadCart 14 = .ok (.iconst 1, 1) := by decide +kernel
theorem dX6_loadCart_15 : decode cX6_loadCart 15 = .ok (.iconst 0, 1) := by decide +kernel
theorem dX6_loadCart_16 : decode cX6_loadCart 16 = .ok (.invokevirtual 29, 3) := by decide +kernel
theorem dX6_loadCart_19 : decode cX6_loadCart 19 = .ok (.ireturn, 1) := by decide +kernel
theorem dX6_loadCart_20 : decode cX6_loadCart 20 = .ok (.aload_n 0, 1) := by decide +kernel
theorem dX6_loadCart_21 : decode cX6_loadCart 21 = .ok (.getfield 12, 3) := by decide +kernel
theorem dX6_loadCart_24 : decode cX6_loadCart 24 = .ok (.getfield 68, 3) := by decide +kernel
theorem dX6_loadCart_27 : decode cX6_loadCart 27 = .ok (.ifCond .eq 20, 3) := by decide +kernel
theorem dX6_loadCart_30 : decode cX6_loadCart 30 = .ok (.aload_n 0, 1) := by decide +kernel
theorem dX6_loadCart_31 : decode cX6_loadCart 31 = .ok (.getfield 21, 3) := by decide +kernel
theorem dX6_loadCart_34 : decode cX6_loadCart 34 = .ok (.bipush 6, 2) := by decide +kernel
theorem dX6_loadCart_36 : decode cX6_loadCart 36 = .ok (.aload_n 0, 1) := by decide +kernel
theorem dX6_loadCart_37 : decode cX6_loadCart 37 = .ok (.getfield 12, 3) := by decide +kernel
theorem dX6_loadCart_40 : decode cX6_loadCart 40 = .ok (.getfield 68, 3) := by decide +kernel
theorem dX6_loadCart_43 : decode cX6_loadCart 43 = .ok (.invokevirtual 29, 3) := by decide +kernel
theorem dX6_loadCart_46 : decode cX6_loadCart 46 = .ok (.ireturn, 1) := by decide +kernel
theorem dX6_loadCart_47 : decode cX6_loadCart 47 = .ok (.iload_n 1, 1) := by decide +kernel
theorem dX6_loadCart_48 : decode cX6_loadCart 48 = .ok (.aload_n 0, 1) := by decide +kernel
theorem dX6_loadCart_49 : decode cX6_loadCart 49 = .ok (.getfield 12, 3) := by decide +kernel
theorem dX6_loadCart_52 : decode cX6_loadCart 52 = .ok (.getfield 71, 3) := by decide +kernel
theorem dX6_loadCart_55 : decode cX6_loadCart 55 = .ok (.if_icmp .le 20, 3) := by decide +kernel
theorem dX6_loadCart_58 : decode cX6_loadCart 58 = .ok (.aload_n 0, 1) := by decide +kernel
theorem dX6_loadCart_59 : decode cX6_loadCart 59 = .ok (.getfield 21, 3) := by decide +kernel
theorem dX6_loadCart_62 : decode cX6_loadCart 62 = .ok (.bipush 8, 2) := by decide +kernel
theorem dX6_loadCart_64 : decode cX6_loadCart 64 = .ok (.aload_n 0, 1) := by decide +kernel
theorem dX6_loadCart_65 : decode cX6_loadCart 65 = .ok (.getfield 12, 3) := by decide +kernel
theorem dX6_loadCart_68 : decode cX6_loadCart 68 = .ok (.getfield 71, 3) := by decide +kernel
theorem dX6_loadCart_71 : decode cX6_loadCart 71 = .ok (.invokevirtual 29, 3) := by decide +kernel
theorem dX6_loadCart_74 : decode cX6_loadCart 74 = .ok (.ireturn, 1) := by decide +kernel
theorem dX6_loadCart_75 : decode cX6_loadCart 75 = .ok (.aload_n 0, 1) := by decide +kernel
theorem dX6_loadCart_76 : decode cX6_loadCart 76 = .ok (.getfield 12, 3) := by decide +kernel
theorem dX6_loadCart_79 : decode cX6_loadCart 79 = .ok (.getfield 74, 3) := by decide +kernel
theorem dX6_loadCart_82 : decode cX6_loadCart 82 = .ok (.iload_n 1, 1) := by decide +kernel
theorem dX6_loadCart_83 : decode cX6_loadCart 83 = .ok (.iadd, 1) := by decide +kernel
theorem dX6_loadCart_84 : decode cX6_loadCart 84 = .ok (.bipush 30, 2) := by decide +kernel
theorem dX6_loadCart_86 : decode cX6_loadCart 86 = .ok (.if_icmp .le 14, 3) := by decide +kernel
theorem dX6_loadCart_89 : decode cX6_loadCart 89 = .ok (.aload_n 0, 1) := by decide +kernel
theorem dX6_loadCart_90 : decode cX6_loadCart 90 = .ok (.getfield 21, 3) := by decide +kernel
theorem dX6_loadCart_93 : decode cX6_loadCart 93 = .ok (.iconst 2, 1) := by decide +kernel
theorem dX6_loadCart_94 : decode cX6_loadCart 94 = .ok (.bipush 30, 2) := by decide +kernel
theorem dX6_loadCart_96 : decode cX6_loadCart 96 = .ok (.invokevirtual 29, 3) := by decide +kernel
theorem dX6_loadCart_99 : decode cX6_loadCart 99 = .ok (.ireturn, 1) := by decide +kernel
theorem dX6_loadCart_100 : decode cX6_loadCart 100 = .ok (.aload_n 0, 1) := by decide +kernel
theorem dX6_loadCart_101 : decode cX6_loadCart 101 = .ok (.getfield 12, 3) := by decide +kernel
theorem dX6_loadCart_104 : decode cX6_loadCart 104 = .ok (.dup, 1) := by decide +kernel
theorem dX6_loadCart_105 : decode cX6_loadCart 105 = .ok (.getfield 71, 3) := by decide +kernel
theorem dX6_loadCart_108 : decode cX6_loadCart 108 = .ok (.iload_n 1, 1) := by decide +kernel
theorem dX6_loadCart_109 : decode cX6_loadCart 109 = .ok (.isub, 1) := by decide +kernel
theorem dX6_loadCart_110 : decode cX6_loadCart 110 = .ok (.putfield 71, 3) := by decide +kernel
theorem dX6_loadCart_113 : decode cX6_loadCart 113 = .ok (.aload_n 0, 1) := by decide +kernel
theorem dX6_loadCart_114 : decode cX6_loadCart 114 = .ok (.getfield 12, 3) := by decide +kernel
theorem dX6_loadCart_117 : decode cX6_loadCart 117 = .ok (.dup, 1) := by decide +kernel
theorem dX6_loadCart_118 : decode cX6_loadCart 118 = .ok (.getfield 74, 3) := by decide +kernel
theorem dX6_loadCart_121 : decode cX6_loadCart 121 = .ok (.iload_n 1, 1) := by decide +kernel
theorem dX6_loadCart_122 : decode cX6_loadCart 122 = .ok (.iadd, 1) := by decide +kernel
theorem dX6_loadCart_123 : decode cX6_loadCart 123 = .ok (.putfield 74, 3) := by decide +kernel
theorem dX6_loadCart_126 : decode cX6_loadCart 126 = .ok (.aload_n 0, 1) := by decide +kernel
theorem dX6_loadCart_127 : decode cX6_loadCart 127 = .ok (.getfield 12, 3) := by decide +kernel
theorem dX6_loadCart_130 : decode cX6_loadCart 130 = .ok (.getfield 74, 3) := by decide +kernel
theorem dX6_loadCart_133 : decode cX6_loadCart 133 = .ok (.ireturn, 1) := by decide +kernel
theorem dX6_driveCart_0 : decode cX6_driveCart 0 = .ok (.iload_n 1, 1) := by decide +kernel
theorem dX6_driveCart_1 : decode cX6_driveCart 1 = .ok (.iconst 0, 1) := by decide +kernel
theorem dX6_driveCart_2 : decode cX6_driveCart 2 = .ok (.aload_n 0, 1) := by decide +kernel
theorem dX6_driveCart_3 : decode cX6_driveCart 3 = .ok (.getfield 12, 3) := by decide +kernel
theorem dX6_driveCart_6 : decode cX6_driveCart 6 = .ok (.getfield 33, 3) := by decide +kernel
theorem dX6_driveCart_9 : decode cX6_driveCart 9 = .ok (.invokestatic 25, 3) := by decide +kernel
theorem dX6_driveCart_12 : decode cX6_driveCart 12 = .ok (.ifCond .eq 13, 3) := by decide +kernel
theorem dX6_driveCart_15 : decode cX6_driveCart 15 = .ok (.aload_n 0, 1) := by decide +kernel
theorem dX6_driveCart_16 : decode cX6_driveCart 16 = .ok (.getfield 21, 3) := by decide +kernel
theorem dX6_driveCart_19 : decode cX6_driveCart 19 = .ok (.iconst 3, 1) := by decide +kernel
theorem dX6_driveCart_20 : decode cX6_driveCart 20 = .ok (.iload_n 1, 1) := by decide +kernel
theorem dX6_driveCart_21 : decode cX6_driveCart 21 = .ok (.invokevirtual 29, 3) := by decide +kernel
theorem dX6_driveCart_24 : decode cX6_driveCart 24 = .ok (.ireturn, 1) := by decide +kernel
theorem dX6_driveCart_25 : decode cX6_driveCart 25 = .ok (.iload_n 1, 1) := by decide +kernel
theorem dX6_driveCart_26 : decode cX6_driveCart 26 = .ok (.aload_n 0, 1) := by decide +kernel
theorem dX6_driveCart_27 : decode cX6_driveCart 27 = .ok (.getfield 12, 3) := by decide +kernel
theorem dX6_driveCart_30 : decode cX6_driveCart 30 = .ok (.getfield 68, 3) := by decide +kernel
theorem dX6_driveCart_33 : decode cX6_driveCart 33 = .ok (.if_icmp .ne 13, 3) := by decide +kernel
theorem dX6_driveCart_36 : decode cX6_driveCart 36 = .ok (.aload_n 0, 1) := by decide +kernel
theorem dX6_driveCart_37 : decode cX6_driveCart 37 = .ok (.getfield 21, 3) := by decide +kernel
theorem dX6_driveCart_40 : decode cX6_driveCart 40 = .ok (.iconst 4, 1) := by decide +kernel
theorem dX6_driveCart_41 : decode cX6_driveCart 41 = .ok (.iload_n 1, 1) := by decide +kernel
theorem dX6_driveCart_42 : decode cX6_driveCart 42 = .ok (.invokevirtual 29, 3) := by decide +kernel
theorem dX6_driveCart_45 : decode cX6_driveCart 45 = .ok (.ireturn, 1) := by decide +kernel
theorem dX6_driveCart_46 : decode cX6_driveCart 46 = .ok (.aload_n 0, 1) := by decide +kernel
theorem dX6_driveCart_47 : decode cX6_driveCart 47 = .ok (.getfield 12, 3) := by decide +kernel
theorem dX6_driveCart_50 : decode cX6_driveCart 50 = .ok (.invokevirtual 77, 3) := by decide +kernel
theorem dX6_driveCart_53 : decode cX6_driveCart 53 = .ok (.istore_n 2, 1) := by decide +kernel
theorem dX6_driveCart_54 : decode cX6_driveCart 54 = .ok (.iload_n 1, 1) := by decide +kernel
theorem dX6_driveCart_55 : decode cX6_driveCart 55 = .ok (.aload_n 0, 1) := by decide +kernel
theorem dX6_driveCart_56 : decode cX6_driveCart 56 = .ok (.getfield 12, 3) := by decide +kernel
theorem dX6_driveCart_59 : decode cX6_driveCart 59 = .ok (.getfield 68, 3) := by decide +kernel
theorem dX6_driveCart_62 : decode cX6_driveCart 62 = .ok (.if_icmp .le 18, 3) := by decide +kernel
theorem dX6_driveCart_65 : decode cX6_driveCart 65 = .ok (.iload_n 2, 1) := by decide +kernel
theorem dX6_driveCart_66 : decode cX6_driveCart 66 = .ok (.iconst 3, 1) := by decide +kernel
theorem dX6_driveCart_67 : decode cX6_driveCart 67 = .ok (.if_icmp .ge 13, 3) := by decide +kernel
theorem dX6_driveCart_70 : decode cX6_driveCart 70 = .ok (.aload_n 0, 1) := by decide +kernel
theorem dX6_driveCart_71 : decode cX6_driveCart 71 = .ok (.getfield 21, 3) := by decide +kernel
theorem dX6_driveCart_74 : decode cX6_driveCart 74 = .ok (.iconst 5, 1) := by decide +kernel
theorem dX6_driveCart_75 : decode cX6_driveCart 75 = .ok (.iload_n 2, 1) := by decide +kernel
theorem dX6_driveCart_76 : decode cX6_driveCart 76 = .ok (.invokevirtual 29, 3) := by decide +kernel
theorem dX6_driveCart_79 : decode cX6_driveCart 79 = .ok (.ireturn, 1) := by decide +kernel
theorem dX6_driveCart_80 : decode cX6_driveCart 80 = .ok (.aload_n 0, 1) := by decide +kernel
theorem dX6_driveCart_81 : decode cX6_driveCart 81 = .ok (.getfield 12, 3) := by decide +kernel
theorem dX6_driveCart_84 : decode cX6_driveCart 84 = .ok (.iconst 0, 1) := by decide +kernel
theorem dX6_driveCart_85 : decode cX6_driveCart 85 = .ok (.iload_n 1, 1) := by decide +kernel
theorem dX6_driveCart_86 : decode cX6_driveCart 86 = .ok (.aload_n 0, 1) := by decide +kernel
theorem dX6_driveCart_87 : decode cX6_driveCart 87 = .ok (.getfield 12, 3) := by decide +kernel
theorem dX6_driveCart_90 : decode cX6_driveCart 90 = .ok (.getfield 68, 3) := by decide +kernel
theorem dX6_driveCart_93 : decode cX6_driveCart 93 = .ok (.isub, 1) := by decide +kernel
theorem dX6_driveCart_94 : decode cX6_driveCart 94 = .ok (.invokestatic 81, 3) := by decide +kernel
theorem dX6_driveCart_97 : decode cX6_driveCart 97 = .ok (.invokevirtual 86, 3) := by decide +kernel
theorem dX6_driveCart_100 : decode cX6_driveCart 100 = .ok (.aload_n 0, 1) := by decide +kernel
theorem dX6_driveCart_101 : decode cX6_driveCart 101 = .ok (.getfield 12, 3) := by decide +kernel
theorem dX6_driveCart_104 : decode cX6_driveCart 104 = .ok (.iload_n 1, 1) := by decide +kernel
theorem dX6_driveCart_105 : decode cX6_driveCart 105 = .ok (.putfield 68, 3) := by decide +kernel
theorem dX6_driveCart_108 : decode cX6_driveCart 108 = .ok (.aload_n 0, 1) := by decide +kernel
theorem dX6_driveCart_109 : decode cX6_driveCart 109 = .ok (.getfield 12, 3) := by decide +kernel
theorem dX6_driveCart_112 : decode cX6_driveCart 112 = .ok (.invokevirtual 77, 3) := by decide +kernel
theorem dX6_driveCart_115 : decode cX6_driveCart 115 = .ok (.ireturn, 1) := by decide +kernel
theorem dX6_carryUp_0 : decode cX6_carryUp 0 = .ok (.aload_n 0, 1) := by decide +kernel
theorem dX6_carryUp_1 : decode cX6_carryUp 1 = .ok (.getfield 12, 3) := by decide +kernel
theorem dX6_carryUp_4 : decode cX6_carryUp 4 = .ok (.iload_n 1, 1) := by decide +kernel
theorem dX6_carryUp_5 : decode cX6_carryUp 5 = .ok (.invokevirtual 90, 3) := by decide +kernel
theorem dX6_carryUp_8 : decode cX6_carryUp 8 = .ok (.astore_n 3, 1) := by decide +kernel
theorem dX6_carryUp_9 : decode cX6_carryUp 9 = .ok (.aload_n 3, 1) := by decide +kernel
theorem dX6_carryUp_10 : decode cX6_carryUp 10 = .ok (.ifnonnull 13, 3) := by decide +kernel
theorem dX6_carryUp_13 : decode cX6_carryUp 13 = .ok (.aload_n 0, 1) := by decide +kernel
theorem dX6_carryUp_14 : decode cX6_carryUp 14 = .ok (.getfield 21, 3) := by decide +kernel
theorem dX6_carryUp_17 : decode cX6_carryUp 17 = .ok (.iconst 3, 1) := by decide +kernel
theorem dX6_carryUp_18 : decode cX6_carryUp 18 = .ok (.iload_n 1, 1) := by decide +kernel
theorem dX6_carryUp_19 : decode cX6_carryUp 19 = .ok (.invokevirtual 29, 3) := by decide +kernel
theorem dX6_carryUp_22 : decode cX6_carryUp 22 = .ok (.ireturn, 1) := by decide +kernel
theorem dX6_carryUp_23 : decode cX6_carryUp 23 = .ok (.iload_n 2, 1) := by decide +kernel
theorem dX6_carryUp_24 : decode cX6_carryUp 24 = .ok (.iconst 1, 1) := by decide +kernel
theorem dX6_carryUp_25 : decode cX6_carryUp 25 = .ok (.bipush 9, 2) := by decide +kernel
theorem dX6_carryUp_27 : decode cX6_carryUp 27 = .ok (.invokestatic 25, 3) := by decide +kernel
theorem dX6_carryUp_30 : decode cX6_carryUp 30 = .ok (.ifCond .eq 13, 3) := by decide +kernel
theorem dX6_carryUp_33 : decode cX6_carryUp 33 = .ok (.aload_n 0, 1) := by decide +kernel
theorem dX6_carryUp_34 : decode cX6_carryUp 34 = .ok (.getfield 21, 3) := by decide +kernel
theorem dX6_carryUp_37 : decode cX6_carryUp 37 = .ok (.iconst 1, 1) := by decide +kernel
theorem dX6_carryUp_38 : decode cX6_carryUp 38 = .ok (.iconst 0, 1) := by decide +kernel
theorem dX6_carryUp_39 : decode cX6_carryUp 39 = .ok (.invokevirtual 29, 3) := by decide +kernel
theorem dX6_carryUp_42 : decode cX6_carryUp 42 = .ok (.ireturn, 1) := by decide +kernel
theorem dX6_carryUp_43 : decode cX6_carryUp 43 = .ok (.aload_n 0, 1) := by decide +kernel
theorem dX6_carryUp_44 : decode cX6_carryUp 44 = .ok (.getfield 12, 3) := by decide +kernel
theorem dX6_carryUp_47 : decode cX6_carryUp 47 = .ok (.invokevirtual 94, 3) := by decide +kernel
theorem dX6_carryUp_50 : decode cX6_carryUp 50 = .ok (.astore 4, 2) := by decide +kernel
theorem dX6_carryUp_52 : decode cX6_carryUp 52 = .ok (.aload 4, 2) := by decide +kernel
theorem dX6_carryUp_54 : decode cX6_carryUp 54 = .ok (.ifnonnull 14, 3) := by decide +kernel
theorem dX6_carryUp_57 : decode cX6_carryUp 57 = .ok (.aload_n 0, 1) := by decide +kernel
theorem dX6_carryUp_58 : decode cX6_carryUp 58 = .ok (.getfield 21, 3) := by decide +kernel
theorem dX6_carryUp_61 : decode cX6_carryUp 61 = .ok (.bipush 7, 2) := by decide +kernel
theorem dX6_carryUp_63 : decode cX6_carryUp 63 = .ok (.iconst 0, 1) := by decide +kernel
theorem dX6_carryUp_64 : decode cX6_carryUp 64 = .ok (.invokevirtual 29, 3) := by decide +kernel
theorem dX6_carryUp_67 : decode cX6_carryUp 67 = .ok (.ireturn, 1) := by decide +kernel
theorem dX6_carryUp_68 : decode cX6_carryUp 68 = .ok (.aload_n 0, 1) := by decide +kernel
theorem dX6_carryUp_69 : decode cX6_carryUp 69 = .ok (.aload 4, 2) := by decide +kernel
theorem dX6_carryUp_71 : decode cX6_carryUp 71 = .ok (.iload_n 2, 1) := by decide +kernel
theorem dX6_carryUp_72 : decode cX6_carryUp 72 = .ok (.invokevirtual 98, 3) := by decide +kernel
theorem dX6_carryUp_75 : decode cX6_carryUp 75 = .ok (.ifCond .eq 5, 3) := by decide +kernel
theorem dX6_carryUp_78 : decode cX6_carryUp 78 = .ok (.iconst (-1), 1) := by decide +kernel
theorem dX6_carryUp_79 : decode cX6_carryUp 79 = .ok (.ireturn, 1) := by decide +kernel
theorem dX6_carryUp_80 : decode cX6_carryUp 80 = .ok (.aload_n 3, 1) := by decide +kernel
theorem dX6_carryUp_81 : decode cX6_carryUp 81 = .ok (.getfield 102, 3) := by decide +kernel
theorem dX6_carryUp_84 : decode cX6_carryUp 84 = .ok (.iload_n 2, 1) := by decide +kernel
theorem dX6_carryUp_85 : decode cX6_carryUp 85 = .ok (.aload_n 3, 1) := by decide +kernel
theorem dX6_carryUp_86 : decode cX6_carryUp 86 = .ok (.aload 4, 2) := by decide +kernel
theorem dX6_carryUp_88 : decode cX6_carryUp 88 = .ok (.invokevirtual 105, 3) := by decide +kernel
theorem dX6_carryUp_91 : decode cX6_carryUp 91 = .ok (.imul, 1) := by decide +kernel
theorem dX6_carryUp_92 : decode cX6_carryUp 92 = .ok (.iadd, 1) := by decide +kernel
theorem dX6_carryUp_93 : decode cX6_carryUp 93 = .ok (.istore 5, 2) := by decide +kernel
theorem dX6_carryUp_95 : decode cX6_carryUp 95 = .ok (.iload 5, 2) := by decide +kernel
theorem dX6_carryUp_97 : decode cX6_carryUp 97 = .ok (.bipush 30, 2) := by decide +kernel
theorem dX6_carryUp_99 : decode cX6_carryUp 99 = .ok (.if_icmp .le 15, 3) := by decide +kernel
theorem dX6_carryUp_102 : decode cX6_carryUp 102 = .ok (.aload_n 0, 1) := by decide +kernel
theorem dX6_carryUp_103 : decode cX6_carryUp 103 = .ok (.getfield 21, 3) := by decide +kernel
theorem dX6_carryUp_106 : decode cX6_carryUp 106 = .ok (.bipush 13, 2) := by decide +kernel
theorem dX6_carryUp_108 : decode cX6_carryUp 108 = .ok (.iload 5, 2) := by decide +kernel
theorem dX6_carryUp_110 : decode cX6_carryUp 110 = .ok (.invokevirtual 29, 3) := by decide +kernel
theorem dX6_carryUp_113 : decode cX6_carryUp 113 = .ok (.ireturn, 1) := by decide +kernel
theorem dX6_carryUp_114 : decode cX6_carryUp 114 = .ok (.iconst 0, 1) := by decide +kernel
theorem dX6_carryUp_115 : decode cX6_carryUp 115 = .ok (.istore 6, 2) := by decide +kernel
theorem dX6_carryUp_117 : decode cX6_carryUp 117 = .ok (.iload 6, 2) := by decide +kernel
theorem dX6_carryUp_119 : decode cX6_carryUp 119 = .ok (.iload_n 2, 1) := by decide +kernel
theorem dX6_carryUp_120 : decode cX6_carryUp 120 = .ok (.if_icmp .ge 15, 3) := by decide +kernel
theorem dX6_carryUp_123 : decode cX6_carryUp 123 = .ok (.aload_n 3, 1) := by decide +kernel
theorem dX6_carryUp_124 : decode cX6_carryUp 124 = .ok (.aload 4, 2) := by decide +kernel
theorem dX6_carryUp_126 : decode cX6_carryUp 126 = .ok (.invokevirtual 109, 3) := by decide +kernel
theorem dX6_carryUp_129 : decode cX6_carryUp 129 = .ok (.iinc 6 1, 3) := by decide +kernel
theorem dX6_carryUp_132 : decode cX6_carryUp 132 = .ok (.goto (-15), 3) := by decide +kernel
theorem dX6_carryUp_135 : decode cX6_carryUp 135 = .ok (.aload_n 0, 1) := by decide +kernel
theorem dX6_carryUp_136 : decode cX6_carryUp 136 = .ok (.getfield 12, 3) := by decide +kernel
theorem dX6_carryUp_139 : decode cX6_carryUp 139 = .ok (.dup, 1) := by decide +kernel
theorem dX6_carryUp_140 : decode cX6_carryUp 140 = .ok (.getfield 74, 3) := by decide +kernel
theorem dX6_carryUp_143 : decode cX6_carryUp 143 = .ok (.iload_n 2, 1) := by decide +kernel
theorem dX6_carryUp_144 : decode cX6_carryUp 144 = .ok (.isub, 1) := by decide +kernel
theorem dX6_carryUp_145 : decode cX6_carryUp 145 = .ok (.putfield 74, 3) := by decide +kernel
theorem dX6_carryUp_148 : decode cX6_carryUp 148 = .ok (.aload_n 3, 1) := by decide +kernel
theorem dX6_carryUp_149 : decode cX6_carryUp 149 = .ok (.getfield 102, 3) := by decide +kernel
theorem dX6_carryUp_152 : decode cX6_carryUp 152 = .ok (.ireturn, 1) := by decide +kernel
theorem dX6_isRefusedByHouse_0 : decode cX6_isRefusedByHouse 0 = .ok (.iconst 0, 1) := by decide +kernel
theorem dX6_isRefusedByHouse_1 : decode cX6_isRefusedByHouse 1 = .ok (.istore_n 3, 1) := by decide +kernel
theorem dX6_isRefusedByHouse_2 : decode cX6_isRefusedByHouse 2 = .ok (.iload_n 2, 1) := by decide +kernel
theorem dX6_isRefusedByHouse_3 : decode cX6_isRefusedByHouse 3 = .ok (.aload_n 0, 1) := by decide +kernel
theorem dX6_isRefusedByHouse_4 : decode cX6_isRefusedByHouse 4 = .ok (.getfield 12, 3) := by decide +kernel
theorem dX6_isRefusedByHouse_7 : decode cX6_isRefusedByHouse 7 = .ok (.getfield 74, 3) := by decide +kernel
theorem dX6_isRefusedByHouse_10 : decode cX6_isRefusedByHouse 10 = .ok (.if_icmp .le 23, 3) := by decide +kernel
theorem dX6_isRefusedByHouse_13 : decode cX6_isRefusedByHouse 13 = .ok (.aload_n 0, 1) := by decide +kernel
theorem dX6_isRefusedByHouse_14 : decode cX6_isRefusedByHouse 14 = .ok (.getfield 21, 3) := by decide +kernel
theorem dX6_isRefusedByHouse_17 : decode cX6_isRefusedByHouse 17 = .ok (.bipush 8, 2) := by decide +kernel
theorem dX6_isRefusedByHouse_19 : decode cX6_isRefusedByHouse 19 = .ok (.aload_n 0, 1) := by decide +kernel
theorem dX6_isRefusedByHouse_20 : decode cX6_isRefusedByHouse 20 = .ok (.getfield 12, 3) := by decide +kernel
theorem dX6_isRefusedByHouse_23 : decode cX6_isRefusedByHouse 23 = .ok (.getfield 74, 3) := by decide +kernel
theorem dX6_isRefusedByHouse_26 : decode cX6_isRefusedByHouse 26 = .ok (.invokevirtual 29, 3) := by decide +kernel
theorem dX6_isRefusedByHouse_29 : decode cX6_isRefusedByHouse 29 = .ok (.istore_n 3, 1) := by decide +kernel
theorem dX6_isRefusedByHouse_30 : decode cX6_isRefusedByHouse 30 = .ok (.goto 102, 3) := by decide +kernel
theorem dX6_isRefusedByHouse_33 : decode cX6_isRefusedByHouse 33 = .ok (.iload_n 2, 1) := by decide +kernel
theorem dX6_isRefusedByHouse_34 : decode cX6_isRefusedByHouse 34 = .ok (.aload_n 1, 1) := by decide +kernel
theorem dX6_isRefusedByHouse_35 : decode cX6_isRefusedByHouse 35 = .ok (.getfield 113, 3) := by decide +kernel
theorem dX6_isRefusedByHouse_38 : decode cX6_isRefusedByHouse 38 = .ok (.if_icmp .le 20, 3) := by decide +kernel
theorem dX6_isRefusedByHouse_41 : decode cX6_isRefusedByHouse 41 = .ok (.aload_n 0, 1) := by decide +kernel
theorem dX6_isRefusedByHouse_42 : decode cX6_isRefusedByHouse 42 = .ok (.getfield 21, 3) := by decide +kernel
theorem dX6_isRefusedByHouse_45 : decode cX6_isRefusedByHouse 45 = .ok (.bipush 9, 2) := by decide +kernel
theorem dX6_isRefusedByHouse_47 : decode cX6_isRefusedByHouse 47 = .ok (.aload_n 1, 1) := by decide +kernel
theorem dX6_isRefusedByHouse_48 : decode cX6_isRefusedByHouse 48 = .ok (.getfield 113, 3) := by decide +kernel
theorem dX6_isRefusedByHouse_51 : decode cX6_isRefusedByHouse 51 = .ok (.invokevirtual 29, 3) := by decide +kernel
theorem dX6_isRefusedByHouse_54 : decode cX6_isRefusedByHouse 54 = .ok (.istore_n 3, 1) := by decide +kernel
theorem dX6_isRefusedByHouse_55 : decode cX6_isRefusedByHouse 55 = .ok (.goto 77, 3) := by decide +kernel
theorem dX6_isRefusedByHouse_58 : decode cX6_isRefusedByHouse 58 = .ok (.aload_n 1, 1) := by decide +kernel
theorem dX6_isRefusedByHouse_59 : decode cX6_isRefusedByHouse 59 = .ok (.getfield 116, 3) := by decide +kernel
theorem dX6_isRefusedByHouse_62 : decode cX6_isRefusedByHouse 62 = .ok (.bipush 12, 2) := by decide +kernel
theorem dX6_isRefusedByHouse_64 : decode cX6_isRefusedByHouse 64 = .ok (.if_icmp .le 20, 3) := by decide +kernel
theorem dX6_isRefusedByHouse_67 : decode cX6_isRefusedByHouse 67 = .ok (.aload_n 0, 1) := by decide +kernel
theorem dX6_isRefusedByHouse_68 : decode cX6_isRefusedByHouse 68 = .ok (.getfield 21, 3) := by decide +kernel
theorem dX6_isRefusedByHouse_71 : decode cX6_isRefusedByHouse 71 = .ok (.bipush 10, 2) := by decide +kernel
theorem dX6_isRefusedByHouse_73 : decode cX6_isRefusedByHouse 73 = .ok (.aload_n 1, 1) := by decide +kernel
theorem dX6_isRefusedByHouse_74 : decode cX6_isRefusedByHouse 74 = .ok (.getfield 116, 3) := by decide +kernel
theorem dX6_isRefusedByHouse_77 : decode cX6_isRefusedByHouse 77 = .ok (.invokevirtual 29, 3) := by decide +kernel
theorem dX6_isRefusedByHouse_80 : decode cX6_isRefusedByHouse 80 = .ok (.istore_n 3, 1) := by decide +kernel
theorem dX6_isRefusedByHouse_81 : decode cX6_isRefusedByHouse 81 = .ok (.goto 51, 3) := by decide +kernel
theorem dX6_isRefusedByHouse_84 : decode cX6_isRefusedByHouse 84 = .ok (.aload_n 1, 1) := by decide +kernel
theorem dX6_isRefusedByHouse_85 : decode cX6_isRefusedByHouse 85 = .ok (.getfield 119, 3) := by decide +kernel
theorem dX6_isRefusedByHouse_88 : decode cX6_isRefusedByHouse 88 = .ok (.bipush 8, 2) := by decide +kernel
theorem dX6_isRefusedByHouse_90 : decode cX6_isRefusedByHouse 90 = .ok (.if_icmp .le 20, 3) := by decide +kernel
theorem dX6_isRefusedByHouse_93 : decode cX6_isRefusedByHouse 93 = .ok (.aload_n 0, 1) := by decide +kernel
theorem dX6_isRefusedByHouse_94 : decode cX6_isRefusedByHouse 94 = .ok (.getfield 21, 3) := by decide +kernel
theorem dX6_isRefusedByHouse_97 : decode cX6_isRefusedByHouse 97 = .ok (.bipush 11, 2) := by decide +kernel
theorem dX6_isRefusedByHouse_99 : decode cX6_isRefusedByHouse 99 = .ok (.aload_n 1, 1) := by decide +kernel
theorem dX6_isRefusedByHouse_100 : decode cX6_isRefusedByHouse 100 = .ok (.getfield 119, 3) := by decide +kernel
theorem dX6_isRefusedByHouse_103 : decode cX6_isRefusedByHouse 103 = .ok (.invokevirtual 29, 3) := by decide +kernel
theorem dX6_isRefusedByHouse_106 : decode cX6_isRefusedByHouse 106 = .ok (.istore_n 3, 1) := by decide +kernel
theorem dX6_isRefusedByHouse_107 : decode cX6_isRefusedByHouse 107 = .ok (.goto 25, 3) := by decide +kernel
theorem dX6_isRefusedByHouse_110 : decode cX6_isRefusedByHouse 110 = .ok (.iload_n 2, 1) := by decide +kernel
theorem dX6_isRefusedByHouse_111 : decode cX6_isRefusedByHouse 111 = .ok (.aload_n 1, 1) := by decide +kernel
theorem dX6_isRefusedByHouse_112 : decode cX6_isRefusedByHouse 112 = .ok (.invokevirtual 122, 3) := by decide +kernel
theorem dX6_isRefusedByHouse_115 : decode cX6_isRefusedByHouse 115 = .ok (.if_icmp .le 17, 3) := by decide +kernel
theorem dX6_isRefusedByHouse_118 : decode cX6_isRefusedByHouse 118 = .ok (.aload_n 0, 1) := by decide +kernel
theorem dX6_isRefusedByHouse_119 : decode cX6_isRefusedByHouse 119 = .ok (.getfield 21, 3) := by decide +kernel
theorem dX6_isRefusedByHouse_122 : decode cX6_isRefusedByHouse 122 = .ok (.bipush 12, 2) := by decide +kernel
theorem dX6_isRefusedByHouse_124 : decode cX6_isRefusedByHouse 124 = .ok (.aload_n 1, 1) := by decide +kernel
theorem dX6_isRefusedByHouse_125 : decode cX6_isRefusedByHouse 125 = .ok (.invokevirtual 122, 3) := by decide +kernel
theorem dX6_isRefusedByHouse_128 : decode cX6_isRefusedByHouse 128 = .ok (.invokevirtual 29, 3) := by decide +kernel
theorem dX6_isRefusedByHouse_131 : decode cX6_isRefusedByHouse 131 = .ok (.istore_n 3, 1) := by decide +kernel
theorem dX6_isRefusedByHouse_132 : decode cX6_isRefusedByHouse 132 = .ok (.iload_n 3, 1) := by decide +kernel
theorem dX6_isRefusedByHouse_133 : decode cX6_isRefusedByHouse 133 = .ok (.iconst (-1), 1) := by decide +kernel
theorem dX6_isRefusedByHouse_134 : decode cX6_isRefusedByHouse 134 = .ok (.if_icmp .ne 7, 3) := by decide +kernel
theorem dX6_isRefusedByHouse_137 : decode cX6_isRefusedByHouse 137 = .ok (.iconst 1, 1) := by decide +kernel
theorem dX6_isRefusedByHouse_138 : decode cX6_isRefusedByHouse 138 = .ok (.goto 4, 3) := by decide +kernel
theorem dX6_isRefusedByHouse_141 : decode cX6_isRefusedByHouse 141 = .ok (.iconst 0, 1) := by decide +kernel
theorem dX6_isRefusedByHouse_142 : decode cX6_isRefusedByHouse 142 = .ok (.ireturn, 1) := by decide +kernel
theorem dX6_mostThatAreLet_0 : decode cX6_mostThatAreLet 0 = .ok (.aload_n 0, 1) := by decide +kernel
theorem dX6_mostThatAreLet_1 : decode cX6_mostThatAreLet 1 = .ok (.getfield 12, 3) := by decide +kernel
theorem dX6_mostThatAreLet_4 : decode cX6_mostThatAreLet 4 = .ok (.invokevirtual 94, 3) := by decide +kernel
theorem dX6_mostThatAreLet_7 : decode cX6_mostThatAreLet 7 = .ok (.astore_n 2, 1) := by decide +kernel
theorem dX6_mostThatAreLet_8 : decode cX6_mostThatAreLet 8 = .ok (.aload_n 2, 1) := by decide +kernel
theorem dX6_mostThatAreLet_9 : decode cX6_mostThatAreLet 9 = .ok (.ifnull 21, 3) := by decide +kernel
theorem dX6_mostThatAreLet_12 : decode cX6_mostThatAreLet 12 = .ok (.aload_n 2, 1) := by decide +kernel
theorem dX6_mostThatAreLet_13 : decode cX6_mostThatAreLet 13 = .ok (.getfield 116, 3) := by decide +kernel
theorem dX6_mostThatAreLet_16 : decode cX6_mostThatAreLet 16 = .ok (.bipush 12, 2) := by decide +kernel
theorem dX6_mostThatAreLet_18 : decode cX6_mostThatAreLet 18 = .ok (.if_icmp .gt 12, 3) := by decide +kernel
theorem dX6_mostThatAreLet_21 : decode cX6_mostThatAreLet 21 = .ok (.aload_n 2, 1) := by decide +kernel
theorem dX6_mostThatAreLet_22 : decode cX6_mostThatAreLet 22 = .ok (.getfield 119, 3) := by decide +kernel
theorem dX6_mostThatAreLet_25 : decode cX6_mostThatAreLet 25 = .ok (.bipush 8, 2) := by decide +kernel
theorem dX6_mostThatAreLet_27 : decode cX6_mostThatAreLet 27 = .ok (.if_icmp .le 5, 3) := by decide +kernel
theorem dX6_mostThatAreLet_30 : decode cX6_mostThatAreLet 30 = .ok (.iconst 0, 1) := by decide +kernel
theorem dX6_mostThatAreLet_31 : decode cX6_mostThatAreLet 31 = .ok (.ireturn, 1) := by decide +kernel
theorem dX6_mostThatAreLet_32 : decode cX6_mostThatAreLet 32 = .ok (.aload_n 0, 1) := by decide +kernel
theorem dX6_mostThatAreLet_33 : decode cX6_mostThatAreLet 33 = .ok (.getfield 12, 3) := by decide +kernel
theorem dX6_mostThatAreLet_36 : decode cX6_mostThatAreLet 36 = .ok (.getfield 74, 3) := by decide +kernel
theorem dX6_mostThatAreLet_39 : decode cX6_mostThatAreLet 39 = .ok (.aload_n 2, 1) := by decide +kernel
theorem dX6_mostThatAreLet_40 : decode cX6_mostThatAreLet 40 = .ok (.getfield 113, 3) := by decide +kernel
theorem dX6_mostThatAreLet_43 : decode cX6_mostThatAreLet 43 = .ok (.invokestatic 125, 3) := by decide +kernel
theorem dX6_mostThatAreLet_46 : decode cX6_mostThatAreLet 46 = .ok (.istore_n 3, 1) := by decide +kernel
theorem dX6_mostThatAreLet_47 : decode cX6_mostThatAreLet 47 = .ok (.aload_n 2, 1) := by decide +kernel
theorem dX6_mostThatAreLet_48 : decode cX6_mostThatAreLet 48 = .ok (.invokevirtual 122, 3) := by decide +kernel
theorem dX6_mostThatAreLet_51 : decode cX6_mostThatAreLet 51 = .ok (.aload_n 1, 1) := by decide +kernel
theorem dX6_mostThatAreLet_52 : decode cX6_mostThatAreLet 52 = .ok (.aload_n 2, 1) := by decide +kernel
theorem dX6_mostThatAreLet_53 : decode cX6_mostThatAreLet 53 = .ok (.invokevirtual 128, 3) := by decide +kernel
theorem dX6_mostThatAreLet_56 : decode cX6_mostThatAreLet 56 = .ok (.invokestatic 125, 3) := by decide +kernel
theorem dX6_mostThatAreLet_59 : decode cX6_mostThatAreLet 59 = .ok (.istore 4, 2) := by decide +kernel
theorem dX6_mostThatAreLet_61 : decode cX6_mostThatAreLet 61 = .ok (.bipush 9, 2) := by decide +kernel
theorem dX6_mostThatAreLet_63 : decode cX6_mostThatAreLet 63 = .ok (.iload_n 3, 1) := by decide +kernel
theorem dX6_mostThatAreLet_64 : decode cX6_mostThatAreLet 64 = .ok (.iload 4, 2) := by decide +kernel
theorem dX6_mostThatAreLet_66 : decode cX6_mostThatAreLet 66 = .ok (.invokestatic 125, 3) := by decide +kernel
theorem dX6_mostThatAreLet_69 : decode cX6_mostThatAreLet 69 = .ok (.invokestatic 125, 3) := by decide +kernel
theorem dX6_mostThatAreLet_72 : decode cX6_mostThatAreLet 72 = .ok (.ireturn, 1) := by decide +kernel
theorem dX6_giveBone_0 : decode cX6_giveBone 0 = .ok (.aload_n 0, 1) := by decide +kernel
theorem dX6_giveBone_1 : decode cX6_giveBone 1 = .ok (.getfield 12, 3) := by decide +kernel
theorem dX6_giveBone_4 : decode cX6_giveBone 4 = .ok (.invokevirtual 94, 3) := by decide +kernel
theorem dX6_giveBone_7 : decode cX6_giveBone 7 = .ok (.astore_n 1, 1) := by decide +kernel
theorem dX6_giveBone_8 : decode cX6_giveBone 8 = .ok (.aload_n 1, 1) := by decide +kernel
theorem dX6_giveBone_9 : decode cX6_giveBone 9 = .ok (.ifnonnull 14, 3) := by decide +kernel
theorem dX6_giveBone_12 : decode cX6_giveBone 12 = .ok (.aload_n 0, 1) := by decide +kernel
theorem dX6_giveBone_13 : decode cX6_giveBone 13 = .ok (.getfield 21, 3) := by decide +kernel
theorem dX6_giveBone_16 : decode cX6_giveBone 16 = .ok (.bipush 7, 2) := by decide +kernel
theorem dX6_giveBone_18 : decode cX6_giveBone 18 = .ok (.iconst 0, 1) := by decide +kernel
theorem dX6_giveBone_19 : decode cX6_giveBone 19 = .ok (.invokevirtual 29, 3) := by decide +kernel
theorem dX6_giveBone_22 : decode cX6_giveBone 22 = .ok (.ireturn, 1) := by decide +kernel
theorem dX6_giveBone_23 : decode cX6_giveBone 23 = .ok (.aload_n 1, 1) := by decide +kernel
theorem dX6_giveBone_24 : decode cX6_giveBone 24 = .ok (.getfield 46, 3) := by decide +kernel
theorem dX6_giveBone_27 : decode cX6_giveBone 27 = .ok (.ifCond .eq 10, 3) := by decide +kernel
theorem dX6_giveBone_30 : decode cX6_giveBone 30 = .ok (.aload_n 1, 1) := by decide +kernel
theorem dX6_giveBone_31 : decode cX6_giveBone 31 = .ok (.getfield 131, 3) := by decide +kernel
theorem dX6_giveBone_34 : decode cX6_giveBone 34 = .ok (.ifCond .eq 22, 3) := by decide +kernel
theorem dX6_giveBone_37 : decode cX6_giveBone 37 = .ok (.aload_n 0, 1) := by decide +kernel
theorem dX6_giveBone_38 : decode cX6_giveBone 38 = .ok (.getfield 21, 3) := by decide +kernel
theorem dX6_giveBone_41 : decode cX6_giveBone 41 = .ok (.bipush 14, 2) := by decide +kernel
theorem dX6_giveBone_43 : decode cX6_giveBone 43 = .ok (.aload_n 0, 1) := by decide +kernel
theorem dX6_giveBone_44 : decode cX6_giveBone 44 = .ok (.getfield 12, 3) := by decide +kernel
theorem dX6_giveBone_47 : decode cX6_giveBone 47 = .ok (.getfield 68, 3) := by decide +kernel
theorem dX6_giveBone_50 : decode cX6_giveBone 50 = .ok (.iconst 1, 1) := by decide +kernel
theorem dX6_giveBone_51 : decode cX6_giveBone 51 = .ok (.isub, 1) := by decide +kernel
theorem dX6_giveBone_52 : decode cX6_giveBone 52 = .ok (.invokevirtual 29, 3) := by decide +kernel
theorem dX6_giveBone_55 : decode cX6_giveBone 55 = .ok (.ireturn, 1) := by decide +kernel
theorem dX6_giveBone_56 : decode cX6_giveBone 56 = .ok (.aload_n 0, 1) := by decide +kernel
theorem dX6_giveBone_57 : decode cX6_giveBone 57 = .ok (.getfield 12, 3) := by decide +kernel
theorem dX6_giveBone_60 : decode cX6_giveBone 60 = .ok (.getfield 135, 3) := by decide +kernel
theorem dX6_giveBone_63 : decode cX6_giveBone 63 = .ok (.iconst 1, 1) := by decide +kernel
theorem dX6_giveBone_64 : decode cX6_giveBone 64 = .ok (.if_icmp .ge 14, 3) := by decide +kernel
theorem dX6_giveBone_67 : decode cX6_giveBone 67 = .ok (.aload_n 0, 1) := by decide +kernel
theorem dX6_giveBone_68 : decode cX6_giveBone 68 = .ok (.getfield 21, 3) := by decide +kernel
theorem dX6_giveBone_71 : decode cX6_giveBone 71 = .ok (.bipush 15, 2) := by decide +kernel
theorem dX6_giveBone_73 : decode cX6_giveBone 73 = .ok (.iconst 0, 1) := by decide +kernel
theorem dX6_giveBone_74 : decode cX6_giveBone 74 = .ok (.invokevirtual 29, 3) := by decide +kernel
theorem dX6_giveBone_77 : decode cX6_giveBone 77 = .ok (.ireturn, 1) := by decide +kernel
theorem dX6_giveBone_78 : decode cX6_giveBone 78 = .ok (.aload_n 1, 1) := by decide +kernel
theorem dX6_giveBone_79 : decode cX6_giveBone 79 = .ok (.iconst 1, 1) := by decide +kernel
theorem dX6_giveBone_80 : decode cX6_giveBone 80 = .ok (.putfield 131, 3) := by decide +kernel
theorem dX6_giveBone_83 : decode cX6_giveBone 83 = .ok (.aload_n 0, 1) := by decide +kernel
theorem dX6_giveBone_84 : decode cX6_giveBone 84 = .ok (.getfield 12, 3) := by decide +kernel
theorem dX6_giveBone_87 : decode cX6_giveBone 87 = .ok (.dup, 1) := by decide +kernel
theorem dX6_giveBone_88 : decode cX6_giveBone 88 = .ok (.getfield 135, 3) := by decide +kernel
theorem dX6_giveBone_91 : decode cX6_giveBone 91 = .ok (.iconst 1, 1) := by decide +kernel
theorem dX6_giveBone_92 : decode cX6_giveBone 92 = .ok (.isub, 1) := by decide +kernel
theorem dX6_giveBone_93 : decode cX6_giveBone 93 = .ok (.putfield 135, 3) := by decide +kernel
theorem dX6_giveBone_96 : decode cX6_giveBone 96 = .ok (.aload_n 0, 1) := by decide +kernel
theorem dX6_giveBone_97 : decode cX6_giveBone 97 = .ok (.getfield 12, 3) := by decide +kernel
theorem dX6_giveBone_100 : decode cX6_giveBone 100 = .ok (.getfield 135, 3) := by decide +kernel
theorem dX6_giveBone_103 : decode cX6_giveBone 103 = .ok (.ireturn, 1) := by decide +kernel
theorem dX6_buyBones_0 : decode cX6_buyBones 0 = .ok (.iload_n 1, 1) := by decide +kernel
theorem dX6_buyBones_1 : decode cX6_buyBones 1 = .ok (.iconst 1, 1) := by decide +kernel
theorem dX6_buyBones_2 : decode cX6_buyBones 2 = .ok (.bipush 9, 2) := by decide +kernel
theorem dX6_buyBones_4 : decode cX6_buyBones 4 = .ok (.invokestatic 25, 3) := by decide +kernel
theorem dX6_buyBones_7 : decode cX6_buyBones 7 = .ok (.ifCond .eq 13, 3) := by decide +kernel
theorem dX6_buyBones_10 : decode cX6_buyBones 10 = .ok (.aload_n 0, 1) := by decide +kernel
theorem dX6_buyBones_11 : decode cX6_buyBones 11 = .ok (.getfield 21, 3) := by decide +kernel
theorem dX6_buyBones_14 : decode cX6_buyBones 14 = .ok (.iconst 1, 1) := by decide +kernel
theorem dX6_buyBones_15 : decode cX6_buyBones 15 = .ok (.iconst 0, 1) := by decide +kernel
theorem dX6_buyBones_16 : decode cX6_buyBones 16 = .ok (.invokevirtual 29, 3) := by decide +kernel
theorem dX6_buyBones_19 : decode cX6_buyBones 19 = .ok (.ireturn, 1) := by decide +kernel
theorem dX6_buyBones_20 : decode cX6_buyBones 20 = .ok (.iload_n 1, 1) := by decide +kernel
theorem dX6_buyBones_21 : decode cX6_buyBones 21 = .ok (.aload_n 0, 1) := by decide +kernel
theorem dX6_buyBones_22 : decode cX6_buyBones 22 = .ok (.getfield 12, 3) := by decide +kernel
theorem dX6_buyBones_25 : decode cX6_buyBones 25 = .ok (.getfield 138, 3) := by decide +kernel
theorem dX6_buyBones_28 : decode cX6_buyBones 28 = .ok (.if_icmp .le 22, 3) := by decide +kernel
theorem dX6_buyBones_31 : decode cX6_buyBones 31 = .ok (.aload_n 0, 1) := by decide +kernel
theorem dX6_buyBones_32 : decode cX6_buyBones 32 = .ok (.getfield 21, 3) := by decide +kernel
theorem dX6_buyBones_35 : decode cX6_buyBones 35 = .ok (.bipush 16, 2) := by decide +kernel
theorem dX6_buyBones_37 : decode cX6_buyBones 37 = .ok (.iload_n 1, 1) := by decide +kernel
theorem dX6_buyBones_38 : decode cX6_buyBones 38 = .ok (.aload_n 0, 1) := by decide +kernel
theorem dX6_buyBones_39 : decode cX6_buyBones 39 = .ok (.getfield 12, 3) := by decide +kernel
theorem dX6_buyBones_42 : decode cX6_buyBones 42 = .ok (.getfield 138, 3) := by decide +kernel
theorem dX6_buyBones_45 : decode cX6_buyBones 45 = .ok (.isub, 1) := by decide +kernel
theorem dX6_buyBones_46 : decode cX6_buyBones 46 = .ok (.invokevirtual 29, 3) := by decide +kernel
theorem dX6_buyBones_49 : decode cX6_buyBones 49 = .ok (.ireturn, 1) := by decide +kernel
theorem dX6_buyBones_50 : decode cX6_buyBones 50 = .ok (.aload_n 0, 1) := by decide +kernel
theorem dX6_buyBones_51 : decode cX6_buyBones 51 = .ok (.getfield 12, 3) := by decide +kernel
theorem dX6_buyBones_54 : decode cX6_buyBones 54 = .ok (.dup, 1) := by decide +kernel
theorem dX6_buyBones_55 : decode cX6_buyBones 55 = .ok (.getfield 138, 3) := by decide +kernel
theorem dX6_buyBones_58 : decode cX6_buyBones 58 = .ok (.iload_n 1, 1) := by decide +kernel
theorem dX6_buyBones_59 : decode cX6_buyBones 59 = .ok (.isub, 1) := by decide +kernel
theorem dX6_buyBones_60 : decode cX6_buyBones 60 = .ok (.putfield 138, 3) := by decide +kernel
theorem dX6_buyBones_63 : decode cX6_buyBones 63 = .ok (.aload_n 0, 1) := by decide +kernel
theorem dX6_buyBones_64 : decode cX6_buyBones 64 = .ok (.getfield 12, 3) := by decide +kernel
theorem dX6_buyBones_67 : decode cX6_buyBones 67 = .ok (.dup, 1) := by decide +kernel
theorem dX6_buyBones_68 : decode cX6_buyBones 68 = .ok (.getfield 135, 3) := by decide +kernel
theorem dX6_buyBones_71 : decode cX6_buyBones 71 = .ok (.iload_n 1, 1) := by decide +kernel
theorem dX6_buyBones_72 : decode cX6_buyBones 72 = .ok (.iadd, 1) := by decide +kernel
theorem dX6_buyBones_73 : decode cX6_buyBones 73 = .ok (.putfield 135, 3) := by decide +kernel
theorem dX6_buyBones_76 : decode cX6_buyBones 76 = .ok (.aload_n 0, 1) := by decide +kernel
theorem dX6_buyBones_77 : decode cX6_buyBones 77 = .ok (.getfield 12, 3) := by decide +kernel
theorem dX6_buyBones_80 : decode cX6_buyBones 80 = .ok (.getfield 135, 3) := by decide +kernel
theorem dX6_buyBones_83 : decode cX6_buyBones 83 = .ok (.ireturn, 1) := by decide +kernel
theorem dX6_mopStairs_0 : decode cX6_mopStairs 0 = .ok (.aload_n 0, 1) := by decide +kernel
theorem dX6_mopStairs_1 : decode cX6_mopStairs 1 = .ok (.getfield 12, 3) := by decide +kernel
theorem dX6_mopStairs_4 : decode cX6_mopStairs 4 = .ok (.iload_n 1, 1) := by decide +kernel
theorem dX6_mopStairs_5 : decode cX6_mopStairs 5 = .ok (.invokevirtual 90, 3) := by decide +kernel
theorem dX6_mopStairs_8 : decode cX6_mopStairs 8 = .ok (.astore_n 2, 1) := by decide +kernel
theorem dX6_mopStairs_9 : decode cX6_mopStairs 9 = .ok (.aload_n 2, 1) := by decide +kernel
theorem dX6_mopStairs_10 : decode cX6_mopStairs 10 = .ok (.ifnonnull 13, 3) := by decide +kernel
theorem dX6_mopStairs_13 : decode cX6_mopStairs 13 = .ok (.aload_n 0, 1) := by decide +kernel
theorem dX6_mopStairs_14 : decode cX6_mopStairs 14 = .ok (.getfield 21, 3) := by decide +kernel
theorem dX6_mopStairs_17 : decode cX6_mopStairs 17 = .ok (.iconst 3, 1) := by decide +kernel
theorem dX6_mopStairs_18 : decode cX6_mopStairs 18 = .ok (.iload_n 1, 1) := by decide +kernel
theorem dX6_mopStairs_19 : decode cX6_mopStairs 19 = .ok (.invokevirtual 29, 3) := by decide +kernel
theorem dX6_mopStairs_22 : decode cX6_mopStairs 22 = .ok (.ireturn, 1) := by decide +kernel
theorem dX6_mopStairs_23 : decode cX6_mopStairs 23 = .ok (.aload_n 0, 1) := by decide +kernel
theorem dX6_mopStairs_24 : decode cX6_mopStairs 24 = .ok (.getfield 12, 3) := by decide +kernel
theorem dX6_mopStairs_27 : decode cX6_mopStairs 27 = .ok (.invokevirtual 94, 3) := by decide +kernel
theorem dX6_mopStairs_30 : decode cX6_mopStairs 30 = .ok (.astore_n 3, 1) := by decide +kernel
theorem dX6_mopStairs_31 : decode cX6_mopStairs 31 = .ok (.aload_n 3, 1) := by decide +kernel
theorem dX6_mopStairs_32 : decode cX6_mopStairs 32 = .ok (.ifnonnull 14, 3) := by decide +kernel
theorem dX6_mopStairs_35 : decode cX6_mopStairs 35 = .ok (.aload_n 0, 1) := by decide +kernel
theorem dX6_mopStairs_36 : decode cX6_mopStairs 36 = .ok (.getfield 21, 3) := by decide +kernel
theorem dX6_mopStairs_39 : decode cX6_mopStairs 39 = .ok (.bipush 7, 2) := by decide +kernel
theorem dX6_mopStairs_41 : decode cX6_mopStairs 41 = .ok (.iconst 0, 1) := by decide +kernel
theorem dX6_mopStairs_42 : decode cX6_mopStairs 42 = .ok (.invokevirtual 29, 3) := by decide +kernel
theorem dX6_mopStairs_45 : decode cX6_mopStairs 45 = .ok (.ireturn, 1) := by decide +kernel
theorem dX6_mopStairs_46 : decode cX6_mopStairs 46 = .ok (.aload_n 3, 1) := by decide +kernel
theorem dX6_mopStairs_47 : decode cX6_mopStairs 47 = .ok (.getfield 119, 3) := by decide +kernel
theorem dX6_mopStairs_50 : decode cX6_mopStairs 50 = .ok (.istore 4, 2) := by decide +kernel
theorem dX6_mopStairs_52 : decode cX6_mopStairs 52 = .ok (.iload 4, 2) := by decide +kernel
theorem dX6_mopStairs_54 : decode cX6_mopStairs 54 = .ok (.ifCond .ne 22, 3) := by decide +kernel
theorem dX6_mopStairs_57 : decode cX6_mopStairs 57 = .ok (.aload_n 0, 1) := by decide +kernel
theorem dX6_mopStairs_58 : decode cX6_mopStairs 58 = .ok (.getfield 21, 3) := by decide +kernel
theorem dX6_mopStairs_61 : decode cX6_mopStairs 61 = .ok (.bipush 18, 2) := by decide +kernel
theorem dX6_mopStairs_63 : decode cX6_mopStairs 63 = .ok (.aload_n 0, 1) := by decide +kernel
theorem dX6_mopStairs_64 : decode cX6_mopStairs 64 = .ok (.getfield 12, 3) := by decide +kernel
theorem dX6_mopStairs_67 : decode cX6_mopStairs 67 = .ok (.getfield 68, 3) := by decide +kernel
theorem dX6_mopStairs_70 : decode cX6_mopStairs 70 = .ok (.iconst 1, 1) := by decide +kernel
theorem dX6_mopStairs_71 : decode cX6_mopStairs 71 = .ok (.isub, 1) := by decide +kernel
theorem dX6_mopStairs_72 : decode cX6_mopStairs 72 = .ok (.invokevirtual 29, 3) := by decide +kernel
theorem dX6_mopStairs_75 : decode cX6_mopStairs 75 = .ok (.ireturn, 1) := by decide +kernel
theorem dX6_mopStairs_76 : decode cX6_mopStairs 76 = .ok (.aload_n 2, 1) := by decide +kernel
theorem dX6_mopStairs_77 : decode cX6_mopStairs 77 = .ok (.getfield 102, 3) := by decide +kernel
theorem dX6_mopStairs_80 : decode cX6_mopStairs 80 = .ok (.iload 4, 2) := by decide +kernel
theorem dX6_mopStairs_82 : decode cX6_mopStairs 82 = .ok (.iconst 1, 1) := by decide +kernel
theorem dX6_mopStairs_83 : decode cX6_mopStairs 83 = .ok (.iadd, 1) := by decide +kernel
theorem dX6_mopStairs_84 : decode cX6_mopStairs 84 = .ok (.iconst 2, 1) := by decide +kernel
theorem dX6_mopStairs_85 : decode cX6_mopStairs 85 = .ok (.idiv, 1) := by decide +kernel
theorem dX6_mopStairs_86 : decode cX6_mopStairs 86 = .ok (.iadd, 1) := by decide +kernel
theorem dX6_mopStairs_87 : decode cX6_mopStairs 87 = .ok (.istore 5, 2) := by decide +kernel
theorem dX6_mopStairs_89 : decode cX6_mopStairs 89 = .ok (.iload 5, 2) := by decide +kernel
theorem dX6_mopStairs_91 : decode cX6_mopStairs 91 = .ok (.bipush 30, 2) := by decide +kernel
theorem dX6_mopStairs_93 : decode cX6_mopStairs 93 = .ok (.if_icmp .le 15, 3) := by decide +kernel
theorem dX6_mopStairs_96 : decode cX6_mopStairs 96 = .ok (.aload_n 0, 1) := by decide +kernel
theorem dX6_mopStairs_97 : decode cX6_mopStairs 97 = .ok (.getfield 21, 3) := by decide +kernel
theorem dX6_mopStairs_100 : decode cX6_mopStairs 100 = .ok (.bipush 13, 2) := by decide +kernel
theorem dX6_mopStairs_102 : decode cX6_mopStairs 102 = .ok (.iload 5, 2) := by decide +kernel
theorem dX6_mopStairs_104 : decode cX6_mopStairs 104 = .ok (.invokevirtual 29, 3) := by decide +kernel
theorem dX6_mopStairs_107 : decode cX6_mopStairs 107 = .ok (.ireturn, 1) := by decide +kernel
theorem dX6_mopStairs_108 : decode cX6_mopStairs 108 = .ok (.aload_n 2, 1) := by decide +kernel
theorem dX6_mopStairs_109 : decode cX6_mopStairs 109 = .ok (.iload 5, 2) := by decide +kernel
theorem dX6_mopStairs_111 : decode cX6_mopStairs 111 = .ok (.putfield 102, 3) := by decide +kernel
theorem dX6_mopStairs_114 : decode cX6_mopStairs 114 = .ok (.aload_n 3, 1) := by decide +kernel
theorem dX6_mopStairs_115 : decode cX6_mopStairs 115 = .ok (.iconst 0, 1) := by decide +kernel
theorem dX6_mopStairs_116 : decode cX6_mopStairs 116 = .ok (.putfield 119, 3) := by decide +kernel
theorem dX6_mopStairs_119 : decode cX6_mopStairs 119 = .ok (.iload 4, 2) := by decide +kernel
theorem dX6_mopStairs_121 : decode cX6_mopStairs 121 = .ok (.ireturn, 1) := by decide +kernel
theorem dX6_takePay_0 : decode cX6_takePay 0 = .ok (.aload_n 0, 1) := by decide +kernel
theorem dX6_takePay_1 : decode cX6_takePay 1 = .ok (.getfield 12, 3) := by decide +kernel
theorem dX6_takePay_4 : decode cX6_takePay 4 = .ok (.iload_n 1, 1) := by decide +kernel
theorem dX6_takePay_5 : decode cX6_takePay 5 = .ok (.invokevirtual 49, 3) := by decide +kernel
theorem dX6_takePay_8 : decode cX6_takePay 8 = .ok (.astore_n 3, 1) := by decide +kernel
theorem dX6_takePay_9 : decode cX6_takePay 9 = .ok (.aload_n 3, 1) := by decide +kernel
theorem dX6_takePay_10 : decode cX6_takePay 10 = .ok (.ifnonnull 13, 3) := by decide +kernel
theorem dX6_takePay_13 : decode cX6_takePay 13 = .ok (.aload_n 0, 1) := by decide +kernel
theorem dX6_takePay_14 : decode cX6_takePay 14 = .ok (.getfield 21, 3) := by decide +kernel
theorem dX6_takePay_17 : decode cX6_takePay 17 = .ok (.iconst 3, 1) := by decide +kernel
theorem dX6_takePay_18 : decode cX6_takePay 18 = .ok (.iload_n 1, 1) := by decide +kernel
theorem dX6_takePay_19 : decode cX6_takePay 19 = .ok (.invokevirtual 29, 3) := by decide +kernel
theorem dX6_takePay_22 : decode cX6_takePay 22 = .ok (.ireturn, 1) := by decide +kernel
theorem dX6_takePay_23 : decode cX6_takePay 23 = .ok (.iload_n 2, 1) := by decide +kernel
theorem dX6_takePay_24 : decode cX6_takePay 24 = .ok (.iconst 1, 1) := by decide +kernel
theorem dX6_takePay_25 : decode cX6_takePay 25 = .ok (.bipush 99, 2) := by decide +kernel
theorem dX6_takePay_27 : decode cX6_takePay 27 = .ok (.invokestatic 25, 3) := by decide +kernel
theorem dX6_takePay_30 : decode cX6_takePay 30 = .ok (.ifCond .eq 13, 3) := by decide +kernel
theorem dX6_takePay_33 : decode cX6_takePay 33 = .ok (.aload_n 0, 1) := by decide +kernel
theorem dX6_takePay_34 : decode cX6_takePay 34 = .ok (.getfield 21, 3) := by decide +kernel
theorem dX6_takePay_37 : decode cX6_takePay 37 = .ok (.iconst 1, 1) := by decide +kernel
theorem dX6_takePay_38 : decode cX6_takePay 38 = .ok (.iconst 0, 1) := by decide +kernel
theorem dX6_takePay_39 : decode cX6_takePay 39 = .ok (.invokevirtual 29, 3) := by decide +kernel
theorem dX6_takePay_42 : decode cX6_takePay 42 = .ok (.ireturn, 1) := by decide +kernel
theorem dX6_takePay_43 : decode cX6_takePay 43 = .ok (.aload_n 3, 1) := by decide +kernel
theorem dX6_takePay_44 : decode cX6_takePay 44 = .ok (.getfield 116, 3) := by decide +kernel
theorem dX6_takePay_47 : decode cX6_takePay 47 = .ok (.iload_n 2, 1) := by decide +kernel
theorem dX6_takePay_48 : decode cX6_takePay 48 = .ok (.if_icmp .ge 17, 3) := by decide +kernel
theorem dX6_takePay_51 : decode cX6_takePay 51 = .ok (.aload_n 0, 1) := by decide +kernel
theorem dX6_takePay_52 : decode cX6_takePay 52 = .ok (.getfield 21, 3) := by decide +kernel
theorem dX6_takePay_55 : decode cX6_takePay 55 = .ok (.bipush 17, 2) := by decide +kernel
theorem dX6_takePay_57 : decode cX6_takePay 57 = .ok (.aload_n 3, 1) := by decide +kernel
theorem dX6_takePay_58 : decode cX6_takePay 58 = .ok (.getfield 116, 3) := by decide +kernel
theorem dX6_takePay_61 : decode cX6_takePay 61 = .ok (.invokevirtual 29, 3) := by decide +kernel
theorem dX6_takePay_64 : decode cX6_takePay 64 = .ok (.ireturn, 1) := by decide +kernel
theorem dX6_takePay_65 : decode cX6_takePay 65 = .ok (.aload_n 3, 1) := by decide +kernel
theorem dX6_takePay_66 : decode cX6_takePay 66 = .ok (.dup, 1) := by decide +kernel
theorem dX6_takePay_67 : decode cX6_takePay 67 = .ok (.getfield 116, 3) := by decide +kernel
theorem dX6_takePay_70 : decode cX6_takePay 70 = .ok (.iload_n 2, 1) := by decide +kernel
theorem dX6_takePay_71 : decode cX6_takePay 71 = .ok (.isub, 1) := by decide +kernel
theorem dX6_takePay_72 : decode cX6_takePay 72 = .ok (.putfield 116, 3) := by decide +kernel
theorem dX6_takePay_75 : decode cX6_takePay 75 = .ok (.aload_n 0, 1) := by decide +kernel
theorem dX6_takePay_76 : decode cX6_takePay 76 = .ok (.getfield 12, 3) := by decide +kernel
theorem dX6_takePay_79 : decode cX6_takePay 79 = .ok (.dup, 1) := by decide +kernel
theorem dX6_takePay_80 : decode cX6_takePay 80 = .ok (.getfield 138, 3) := by decide +kernel
theorem dX6_takePay_83 : decode cX6_takePay 83 = .ok (.iload_n 2, 1) := by decide +kernel
theorem dX6_takePay_84 : decode cX6_takePay 84 = .ok (.iadd, 1) := by decide +kernel
theorem dX6_takePay_85 : decode cX6_takePay 85 = .ok (.putfield 138, 3) := by decide +kernel
theorem dX6_takePay_88 : decode cX6_takePay 88 = .ok (.aload_n 0, 1) := by decide +kernel
theorem dX6_takePay_89 : decode cX6_takePay 89 = .ok (.getfield 12, 3) := by decide +kernel
theorem dX6_takePay_92 : decode cX6_takePay 92 = .ok (.dup, 1) := by decide +kernel
theorem dX6_takePay_93 : decode cX6_takePay 93 = .ok (.getfield 141, 3) := by decide +kernel
theorem dX6_takePay_96 : decode cX6_takePay 96 = .ok (.iload_n 2, 1) := by decide +kernel
theorem dX6_takePay_97 : decode cX6_takePay 97 = .ok (.iadd, 1) := by decide +kernel
theorem dX6_takePay_98 : decode cX6_takePay 98 = .ok (.putfield 141, 3) := by decide +kernel
theorem dX6_takePay_101 : decode cX6_takePay 101 = .ok (.aload_n 3, 1) := by decide +kernel
theorem dX6_takePay_102 : decode cX6_takePay 102 = .ok (.getfield 116, 3) := by decide +kernel
theorem dX6_takePay_105 : decode cX6_takePay 105 = .ok (.ireturn, 1) := by decide +kernel
theorem dX6_shoeHorse_0 : decode cX6_shoeHorse 0 = .ok (.iload_n 1, 1) := by decide +kernel
theorem dX6_shoeHorse_1 : decode cX6_shoeHorse 1 = .ok (.iconst 0, 1) := by decide +kernel
theorem dX6_shoeHorse_2 : decode cX6_shoeHorse 2 = .ok (.iconst 3, 1) := by decide +kernel
theorem dX6_shoeHorse_3 : decode cX6_shoeHorse 3 = .ok (.invokestatic 25, 3) := by decide +kernel
theorem dX6_shoeHorse_6 : decode cX6_shoeHorse 6 = .ok (.ifCond .eq 13, 3) := by decide +kernel
theorem dX6_shoeHorse_9 : decode cX6_shoeHorse 9 = .ok (.aload_n 0, 1) := by decide +kernel
theorem dX6_shoeHorse_10 : decode cX6_shoeHorse 10 = .ok (.getfield 21, 3) := by decide +kernel
theorem dX6_shoeHorse_13 : decode cX6_shoeHorse 13 = .ok (.iconst 3, 1) := by decide +kernel
theorem dX6_shoeHorse_14 : decode cX6_shoeHorse 14 = .ok (.iload_n 1, 1) := by decide +kernel
theorem dX6_shoeHorse_15 : decode cX6_shoeHorse 15 = .ok (.invokevirtual 29, 3) := by decide +kernel
theorem dX6_shoeHorse_18 : decode cX6_shoeHorse 18 = .ok (.ireturn, 1) := by decide +kernel
theorem dX6_shoeHorse_19 : decode cX6_shoeHorse 19 = .ok (.aload_n 0, 1) := by decide +kernel
theorem dX6_shoeHorse_20 : decode cX6_shoeHorse 20 = .ok (.getfield 12, 3) := by decide +kernel
theorem dX6_shoeHorse_23 : decode cX6_shoeHorse 23 = .ok (.getfield 68, 3) := by decide +kernel
theorem dX6_shoeHorse_26 : decode cX6_shoeHorse 26 = .ok (.ifCond .eq 20, 3) := by decide +kernel
theorem dX6_shoeHorse_29 : decode cX6_shoeHorse 29 = .ok (.aload_n 0, 1) := by decide +kernel
theorem dX6_shoeHorse_30 : decode cX6_shoeHorse 30 = .ok (.getfield 21, 3) := by decide +kernel
theorem dX6_shoeHorse_33 : decode cX6_shoeHorse 33 = .ok (.bipush 6, 2) := by decide +kernel
theorem dX6_shoeHorse_35 : decode cX6_shoeHorse 35 = .ok (.aload_n 0, 1) := by decide +kernel
theorem dX6_shoeHorse_36 : decode cX6_shoeHorse 36 = .ok (.getfield 12, 3) := by decide +kernel
theorem dX6_shoeHorse_39 : decode cX6_shoeHorse 39 = .ok (.getfield 68, 3) := by decide +kernel
theorem dX6_shoeHorse_42 : decode cX6_shoeHorse 42 = .ok (.invokevirtual 29, 3) := by decide +kernel
theorem dX6_shoeHorse_45 : decode cX6_shoeHorse 45 = .ok (.ireturn, 1) := by decide +kernel
theorem dX6_shoeHorse_46 : decode cX6_shoeHorse 46 = .ok (.aload_n 0, 1) := by decide +kernel
theorem dX6_shoeHorse_47 : decode cX6_shoeHorse 47 = .ok (.getfield 12, 3) := by decide +kernel
theorem dX6_shoeHorse_50 : decode cX6_shoeHorse 50 = .ok (.getfield 144, 3) := by decide +kernel
theorem dX6_shoeHorse_53 : decode cX6_shoeHorse 53 = .ok (.iload_n 1, 1) := by decide +kernel
theorem dX6_shoeHorse_54 : decode cX6_shoeHorse 54 = .ok (.iaload, 1) := by decide +kernel
theorem dX6_shoeHorse_55 : decode cX6_shoeHorse 55 = .ok (.istore_n 2, 1) := by decide +kernel
theorem dX6_shoeHorse_56 : decode cX6_shoeHorse 56 = .ok (.iload_n 2, 1) := by decide +kernel
theorem dX6_shoeHorse_57 : decode cX6_shoeHorse 57 = .ok (.ifCond .ne 14, 3) := by decide +kernel
theorem dX6_shoeHorse_60 : decode cX6_shoeHorse 60 = .ok (.aload_n 0, 1) := by decide +kernel
theorem dX6_shoeHorse_61 : decode cX6_shoeHorse 61 = .ok (.getfield 21, 3) := by decide +kernel
theorem dX6_shoeHorse_64 : decode cX6_shoeHorse 64 = .ok (.bipush 19, 2) := by decide +kernel
theorem dX6_shoeHorse_66 : decode cX6_shoeHorse 66 = .ok (.iload_n 1, 1) := by decide +kernel
theorem dX6_shoeHorse_67 : decode cX6_shoeHorse 67 = .ok (.invokevirtual 29, 3) := by decide +kernel
theorem dX6_shoeHorse_70 : decode cX6_shoeHorse 70 = .ok (.ireturn, 1) := by decide +kernel
theorem dX6_shoeHorse_71 : decode cX6_shoeHorse 71 = .ok (.aload_n 0, 1) := by decide +kernel
theorem dX6_shoeHorse_72 : decode cX6_shoeHorse 72 = .ok (.getfield 12, 3) := by decide +kernel
theorem dX6_shoeHorse_75 : decode cX6_shoeHorse 75 = .ok (.getfield 138, 3) := by decide +kernel
theorem dX6_shoeHorse_78 : decode cX6_shoeHorse 78 = .ok (.iconst 4, 1) := by decide +kernel
theorem dX6_shoeHorse_79 : decode cX6_shoeHorse 79 = .ok (.if_icmp .ge 22, 3) := by decide +kernel
theorem dX6_shoeHorse_82 : decode cX6_shoeHorse 82 = .ok (.aload_n 0, 1) := by decide +kernel
theorem dX6_shoeHorse_83 : decode cX6_shoeHorse 83 = .ok (.getfield 21, 3) := by decide +kernel
theorem dX6_shoeHorse_86 : decode cX6_shoeHorse 86 = .ok (.bipush 16, 2) := by decide +kernel
theorem dX6_shoeHorse_88 : decode cX6_shoeHorse 88 = .ok (.iconst 4, 1) := by decide +kernel
theorem dX6_shoeHorse_89 : decode cX6_shoeHorse 89 = .ok (.aload_n 0, 1) := by decide +kernel
theorem dX6_shoeHorse_90 : decode cX6_shoeHorse 90 = .ok (.getfield 12, 3) := by decide +kernel
theorem dX6_shoeHorse_93 : decode cX6_shoeHorse 93 = .ok (.getfield 138, 3) := by decide +kernel
theorem dX6_shoeHorse_96 : decode cX6_shoeHorse 96 = .ok (.isub, 1) := by decide +kernel
theorem dX6_shoeHorse_97 : decode cX6_shoeHorse 97 = .ok (.invokevirtual 29, 3) := by decide +kernel
theorem dX6_shoeHorse_100 : decode cX6_shoeHorse 100 = .ok (.ireturn, 1) := by decide +kernel
theorem dX6_shoeHorse_101 : decode cX6_shoeHorse 101 = .ok (.aload_n 0, 1) := by decide +kernel
theorem dX6_shoeHorse_102 : decode cX6_shoeHorse 102 = .ok (.getfield 12, 3) := by decide +kernel
theorem dX6_shoeHorse_105 : decode cX6_shoeHorse 105 = .ok (.dup, 1) := by decide +kernel
theorem dX6_shoeHorse_106 : decode cX6_shoeHorse 106 = .ok (.getfield 138, 3) := by decide +kernel
theorem dX6_shoeHorse_109 : decode cX6_shoeHorse 109 = .ok (.iconst 4, 1) := by decide +kernel
theorem dX6_shoeHorse_110 : decode cX6_shoeHorse 110 = .ok (.isub, 1) := by decide +kernel
theorem dX6_shoeHorse_111 : decode cX6_shoeHorse 111 = .ok (.putfield 138, 3) := by decide +kernel
theorem dX6_shoeHorse_114 : decode cX6_shoeHorse 114 = .ok (.aload_n 0, 1) := by decide +kernel
theorem dX6_shoeHorse_115 : decode cX6_shoeHorse 115 = .ok (.getfield 12, 3) := by decide +kernel
theorem dX6_shoeHorse_118 : decode cX6_shoeHorse 118 = .ok (.getfield 144, 3) := by decide +kernel
theorem dX6_shoeHorse_121 : decode cX6_shoeHorse 121 = .ok (.iload_n 1, 1) := by decide +kernel
theorem dX6_shoeHorse_122 : decode cX6_shoeHorse 122 = .ok (.iconst 0, 1) := by decide +kernel
theorem dX6_shoeHorse_123 : decode cX6_shoeHorse 123 = .ok (.iastore, 1) := by decide +kernel
theorem dX6_shoeHorse_124 : decode cX6_shoeHorse 124 = .ok (.iload_n 2, 1) := by decide +kernel
theorem dX6_shoeHorse_125 : decode cX6_shoeHorse 125 = .ok (.ireturn, 1) := by decide +kernel
theorem dX6_passDays_0 : decode cX6_passDays 0 = .ok (.iload_n 1, 1) := by decide +kernel
theorem dX6_passDays_1 : decode cX6_passDays 1 = .ok (.iconst 1, 1) := by decide +kernel
theorem dX6_passDays_2 : decode cX6_passDays 2 = .ok (.bipush 30, 2) := by decide +kernel
theorem dX6_passDays_4 : decode cX6_passDays 4 = .ok (.invokestatic 25, 3) := by decide +kernel
theorem dX6_passDays_7 : decode cX6_passDays 7 = .ok (.ifCond .eq 13, 3) := by decide +kernel
theorem dX6_passDays_10 : decode cX6_passDays 10 = .ok (.aload_n 0, 1) := by decide +kernel
theorem dX6_passDays_11 : decode cX6_passDays 11 = .ok (.getfield 21, 3) := by decide +kernel
theorem dX6_passDays_14 : decode cX6_passDays 14 = .ok (.iconst 1, 1) := by decide +kernel
theorem dX6_passDays_15 : decode cX6_passDays 15 = .ok (.iconst 0, 1) := by decide +kernel
theorem dX6_passDays_16 : decode cX6_passDays 16 = .ok (.invokevirtual 29, 3) := by decide +kernel
theorem dX6_passDays_19 : decode cX6_passDays 19 = .ok (.ireturn, 1) := by decide +kernel
theorem dX6_passDays_20 : decode cX6_passDays 20 = .ok (.iconst 0, 1) := by decide +kernel
theorem dX6_passDays_21 : decode cX6_passDays 21 = .ok (.istore_n 2, 1) := by decide +kernel
theorem dX6_passDays_22 : decode cX6_passDays 22 = .ok (.iload_n 2, 1) := by decide +kernel
theorem dX6_passDays_23 : decode cX6_passDays 23 = .ok (.iload_n 1, 1) := by decide +kernel
theorem dX6_passDays_24 : decode cX6_passDays 24 = .ok (.if_icmp .ge 16, 3) := by decide +kernel
theorem dX6_passDays_27 : decode cX6_passDays 27 = .ok (.aload_n 0, 1) := by decide +kernel
theorem dX6_passDays_28 : decode cX6_passDays 28 = .ok (.getfield 12, 3) := by decide +kernel
theorem dX6_passDays_31 : decode cX6_passDays 31 = .ok (.invokevirtual 148, 3) := by decide +kernel
theorem dX6_passDays_34 : decode cX6_passDays 34 = .ok (.iinc 2 1, 3) := by decide +kernel
theorem dX6_passDays_37 : decode cX6_passDays 37 = .ok (.goto (-15), 3) := by decide +kernel
theorem dX6_passDays_40 : decode cX6_passDays 40 = .ok (.aload_n 0, 1) := by decide +kernel
theorem dX6_passDays_41 : decode cX6_passDays 41 = .ok (.getfield 12, 3) := by decide +kernel
theorem dX6_passDays_44 : decode cX6_passDays 44 = .ok (.iconst 3, 1) := by decide +kernel
theorem dX6_passDays_45 : decode cX6_passDays 45 = .ok (.invokevirtual 151, 3) := by decide +kernel
theorem dX6_passDays_48 : decode cX6_passDays 48 = .ok (.ireturn, 1) := by decide +kernel
theorem dX6_carryOut_0 : decode cX6_carryOut 0 = .ok (.iload_n 1, 1) := by decide +kernel
theorem dX6_carryOut_1 : decode cX6_carryOut 1 = .ok (.tableswitch 86 0 6 #[43, 49, 55, 62, 67, 73, 80], 43) := by decide +kernel
theorem dX6_carryOut_44 : decode cX6_carryOut 44 = .ok (.aload_n 0, 1) := by decide +kernel
theorem dX6_carryOut_45 : decode cX6_carryOut 45 = .ok (.iload_n 2, 1) := by decide +kernel
theorem dX6_carryOut_46 : decode cX6_carryOut 46 = .ok (.invokevirtual 155, 3) := by decide +kernel
theorem dX6_carryOut_49 : decode cX6_carryOut 49 = .ok (.ireturn, 1) := by decide +kernel
theorem dX6_carryOut_50 : decode cX6_carryOut 50 = .ok (.aload_n 0, 1) := by decide +kernel
theorem dX6_carryOut_51 : decode cX6_carryOut 51 = .ok (.iload_n 2, 1) := by decide +kernel
theorem dX6_carryOut_52 : decode cX6_carryOut 52 = .ok (.invokevirtual 158, 3) := by decide +kernel
theorem dX6_carryOut_55 : decode cX6_carryOut 55 = .ok (.ireturn, 1) := by decide +kernel
theorem dX6_carryOut_56 : decode cX6_carryOut 56 = .ok (.aload_n 0, 1) := by decide +kernel
theorem dX6_carryOut_57 : decode cX6_carryOut 57 = .ok (.iload_n 2, 1) := by decide +kernel
theorem dX6_carryOut_58 : decode cX6_carryOut 58 = .ok (.iload_n 3, 1) := by decide +kernel
theorem dX6_carryOut_59 : decode cX6_carryOut 59 = .ok (.invokevirtual 161, 3) := by decide +kernel
theorem dX6_carryOut_62 : decode cX6_carryOut 62 = .ok (.ireturn, 1) := by decide +kernel
theorem dX6_carryOut_63 : decode cX6_carryOut 63 = .ok (.aload_n 0, 1) := by decide +kernel
theorem dX6_carryOut_64 : decode cX6_carryOut 64 = .ok (.invokevirtual 164, 3) := by decide +kernel
theorem dX6_carryOut_67 : decode cX6_carryOut 67 = .ok (.ireturn, 1) := by decide +kernel
theorem dX6_carryOut_68 : decode cX6_carryOut 68 = .ok (.aload_n 0, 1) := by decide +kernel
theorem dX6_carryOut_69 : decode cX6_carryOut 69 = .ok (.iload_n 2, 1) := by decide +kernel
theorem dX6_carryOut_70 : decode cX6_carryOut 70 = .ok (.invokevirtual 167, 3) := by decide +kernel
theorem dX6_carryOut_73 : decode cX6_carryOut 73 = .ok (.ireturn, 1) := by decide +kernel
theorem dX6_carryOut_74 : decode cX6_carryOut 74 = .ok (.aload_n 0, 1) := by decide +kernel
theorem dX6_carryOut_75 : decode cX6_carryOut 75 = .ok (.iload_n 2, 1) := by decide +kernel
theorem dX6_carryOut_76 : decode cX6_carryOut 76 = .ok (.iload_n 3, 1) := by decide +kernel
theorem dX6_carryOut_77 : decode cX6_carryOut 77 = .ok (.invokevirtual 170, 3) := by decide +kernel
theorem dX6_carryOut_80 : decode cX6_carryOut 80 = .ok (.ireturn, 1) := by decide +kernel
theorem dX6_carryOut_81 : decode cX6_carryOut 81 = .ok (.aload_n 0, 1) := by decide +kernel
theorem dX6_carryOut_82 : decode cX6_carryOut 82 = .ok (.iload_n 2, 1) := by decide +kernel
theorem dX6_carryOut_83 : decode cX6_carryOut 83 = .ok (.invokevirtual 173, 3) := by decide +kernel
theorem dX6_carryOut_86 : decode cX6_carryOut 86 = .ok (.ireturn, 1) := by decide +kernel
theorem dX6_carryOut_87 : decode cX6_carryOut 87 = .ok (.aload_n 0, 1) := by decide +kernel
theorem dX6_carryOut_88 : decode cX6_carryOut 88 = .ok (.iload_n 2, 1) := by decide +kernel
theorem dX6_carryOut_89 : decode cX6_carryOut 89 = .ok (.invokevirtual 176, 3) := by decide +kernel
theorem dX6_carryOut_92 : decode cX6_carryOut 92 = .ok (.ireturn, 1) := by decide +kernel
theorem dX7_init_0 : decode cX7_init 0 = .ok (.aload_n 0, 1) := by decide +kernel
theorem dX7_init_1 : decode cX7_init 1 = .ok (.invokespecial 1, 3) := by decide +kernel
theorem dX7_init_4 : decode cX7_init 4 = .ok (.aload_n 0, 1) := by decide +kernel
theorem dX7_init_5 : decode cX7_init 5 = .ok (.new 7, 3) := by decide +kernel
theorem dX7_init_8 : decode cX7_init 8 = .ok (.dup, 1) := by decide +kernel
theorem dX7_init_9 : decode cX7_init 9 = .ok (.invokespecial 9, 3) := by decide +kernel
theorem dX7_init_12 : decode cX7_init 12 = .ok (.putfield 10, 3) := by decide +kernel
theorem dX7_init_15 : decode cX7_init 15 = .ok (.aload_n 0, 1) := by decide +kernel
theorem dX7_init_16 : decode cX7_init 16 = .ok (.aload_n 0, 1) := by decide +kernel
theorem dX7_init_17 : decode cX7_init 17 = .ok (.getfield 10, 3) := by decide +kernel
theorem dX7_init_20 : decode cX7_init 20 = .ok (.getfield 16, 3) := by decide +kernel
theorem dX7_init_23 : decode cX7_init 23 = .ok (.putfield 20, 3) := by decide +kernel
theorem dX7_init_26 : decode cX7_init 26 = .ok (.aload_n 0, 1) := by decide +kernel
theorem dX7_init_27 : decode cX7_init 27 = .ok (.aload_n 0, 1) := by decide +kernel
theorem dX7_init_28 : decode cX7_init 28 = .ok (.getfield 10, 3) := by decide +kernel
theorem dX7_init_31 : decode cX7_init 31 = .ok (.getfield 21, 3) := by decide +kernel
theorem dX7_init_34 : decode cX7_init 34 = .ok (.putfield 25, 3) := by decide +kernel
theorem dX7_init_37 : decode cX7_init 37 = .ok (.aload_n 0, 1) := by decide +kernel
theorem dX7_init_38 : decode cX7_init 38 = .ok (.new 28, 3) := by decide +kernel
theorem dX7_init_41 : decode cX7_init 41 = .ok (.dup, 1) := by decide +kernel
theorem dX7_init_42 : decode cX7_init 42 = .ok (.invokespecial 30, 3) := by decide +kernel
theorem dX7_init_45 : decode cX7_init 45 = .ok (.putfield 31, 3) := by decide +kernel
theorem dX7_init_48 : decode cX7_init 48 = .ok (.aload_n 0, 1) := by decide +kernel
theorem dX7_init_49 : decode cX7_init 49 = .ok (.new 35, 3) := by decide +kernel
theorem dX7_init_52 : decode cX7_init 52 = .ok (.dup, 1) := by decide +kernel
theorem dX7_init_53 : decode cX7_init 53 = .ok (.invokespecial 37, 3) := by decide +kernel
theorem dX7_init_56 : decode cX7_init 56 = .ok (.putfield 38, 3) := by decide +kernel
theorem dX7_init_59 : decode cX7_init 59 = .ok (.aload_n 0, 1) := by decide +kernel
theorem dX7_init_60 : decode cX7_init 60 = .ok (.new 41, 3) := by decide +kernel
theorem dX7_init_63 : decode cX7_init 63 = .ok (.dup, 1) := by decide +kernel
theorem dX7_init_64 : decode cX7_init 64 = .ok (.invokespecial 43, 3) := by decide +kernel
theorem dX7_init_67 : decode cX7_init 67 = .ok (.putfield 44, 3) := by decide +kernel
theorem dX7_init_70 : decode cX7_init 70 = .ok (.aload_n 0, 1) := by decide +kernel
theorem dX7_init_71 : decode cX7_init 71 = .ok (.iconst (-1), 1) := by decide +kernel
theorem dX7_init_72 : decode cX7_init 72 = .ok (.putfield 48, 3) := by decide +kernel
theorem dX7_init_75 : decode cX7_init 75 = .ok (.aload_n 0, 1) := by decide +kernel
theorem dX7_init_76 : decode cX7_init 76 = .ok (.new 52, 3) := by decide +kernel
theorem dX7_init_79 : decode cX7_init 79 = .ok (.dup, 1) := by decide +kernel
theorem dX7_init_80 : decode cX7_init 80 = .ok (.invokespecial 54, 3) := by decide +kernel
theorem dX7_init_83 : decode cX7_init 83 = .ok (.putfield 55, 3) := by decide +kernel
theorem dX7_init_86 : decode cX7_init 86 = .ok (.return_, 1) := by decide +kernel
theorem dX7_house_0 : decode cX7_house 0 = .ok (.aload_n 0, 1) := by decide +kernel
theorem dX7_house_1 : decode cX7_house 1 = .ok (.getfield 31, 3) := by decide +kernel
theorem dX7_house_4 : decode cX7_house 4 = .ok (.aload_n 0, 1) := by decide +kernel
theorem dX7_house_5 : decode cX7_house 5 = .ok (.getfield 20, 3) := by decide +kernel
theorem dX7_house_8 : decode cX7_house 8 = .ok (.invokevirtual 59, 3) := by decide +kernel
theorem dX7_house_11 : decode cX7_house 11 = .ok (.aload_n 0, 1) := by decide +kernel
theorem dX7_house_12 : decode cX7_house 12 = .ok (.aload_n 0, 1) := by decide +kernel
theorem dX7_house_13 : decode cX7_house 13 = .ok (.getfield 10, 3) := by decide +kernel
theorem dX7_house_16 : decode cX7_house 16 = .ok (.iload_n 1, 1) := by decide +kernel
theorem dX7_house_17 : decode cX7_house 17 = .ok (.iload_n 2, 1) := by decide +kernel
theorem dX7_house_18 : decode cX7_house 18 = .ok (.invokevirtual 63, 3) := by decide +kernel
theorem dX7_house_21 : decode cX7_house 21 = .ok (.invokevirtual 67, 3) := by decide +kernel
theorem dX7_house_24 : decode cX7_house 24 = .ok (.ireturn, 1) := by decide +kernel
theorem dX7_order_0 : decode cX7_order 0 = .ok (.aload_n 0, 1) := by decide +kernel
theorem dX7_order_1 : decode cX7_order 1 = .ok (.getfield 31, 3) := by decide +kernel
theorem dX7_order_4 : decode cX7_order 4 = .ok (.aload_n 0, 1) := by decide +kernel
theorem dX7_order_5 : decode cX7_order 5 = .ok (.getfield 20, 3) := by decide +kernel
theorem dX7_order_8 : decode cX7_order 8 = .ok (.invokevirtual 59, 3) := by decide +kernel
theorem dX7_order_11 : decode cX7_order 11 = .ok (.aload_n 0, 1) := by decide +kernel
theorem dX7_order_12 : decode cX7_order 12 = .ok (.aload_n 0, 1) := by decide +kernel
theorem dX7_order_13 : decode cX7_order 13 = .ok (.getfield 10, 3) := by decide +kernel
theorem dX7_order_16 : decode cX7_order 16 = .ok (.iload_n 1, 1) := by decide +kernel
theorem dX7_order_17 : decode cX7_order 17 = .ok (.iload_n 2, 1) := by decide +kernel
theorem dX7_order_18 : decode cX7_order 18 = .ok (.invokevirtual 71, 3) := by decide +kernel
theorem dX7_order_21 : decode cX7_order 21 = .ok (.invokevirtual 67, 3) := by decide +kernel
theorem dX7_order_24 : decode cX7_order 24 = .ok (.ireturn, 1) := by decide +kernel
theorem dX7_carrier_0 : decode cX7_carrier 0 = .ok (.aload_n 0, 1) := by decide +kernel
theorem dX7_carrier_1 : decode cX7_carrier 1 = .ok (.getfield 31, 3) := by decide +kernel
theorem dX7_carrier_4 : decode cX7_carrier 4 = .ok (.aload_n 0, 1) := by decide +kernel
theorem dX7_carrier_5 : decode cX7_carrier 5 = .ok (.getfield 20, 3) := by decide +kernel
theorem dX7_carrier_8 : decode cX7_carrier 8 = .ok (.invokevirtual 59, 3) := by decide +kernel
theorem dX7_carrier_11 : decode cX7_carrier 11 = .ok (.aload_n 0, 1) := by decide +kernel
theorem dX7_carrier_12 : decode cX7_carrier 12 = .ok (.aload_n 0, 1) := by decide +kernel
theorem dX7_carrier_13 : decode cX7_carrier 13 = .ok (.getfield 10, 3) := by decide +kernel
theorem dX7_carrier_16 : decode cX7_carrier 16 = .ok (.iload_n 1, 1) := by decide +kernel
theorem dX7_carrier_17 : decode cX7_carrier 17 = .ok (.invokevirtual 74, 3) := by decide +kernel
theorem dX7_carrier_20 : decode cX7_carrier 20 = .ok (.invokevirtual 67, 3) := by decide +kernel
theorem dX7_carrier_23 : decode cX7_carrier 23 = .ok (.ireturn, 1) := by decide +kernel
theorem dX7_load_0 : decode cX7_load 0 = .ok (.aload_n 0, 1) := by decide +kernel
theorem dX7_load_1 : decode cX7_load 1 = .ok (.getfield 31, 3) := by decide +kernel
theorem dX7_load_4 : decode cX7_load 4 = .ok (.aload_n 0, 1) := by decide +kernel
theorem dX7_load_5 : decode cX7_load 5 = .ok (.getfield 20, 3) := by decide +kernel
theorem dX7_load_8 : decode cX7_load 8 = .ok (.invokevirtual 59, 3) := by decide +kernel
theorem dX7_load_11 : decode cX7_load 11 = .ok (.aload_n 0, 1) := by decide +kernel
theorem dX7_load_12 : decode cX7_load 12 = .ok (.aload_n 0, 1) := by decide +kernel
theorem dX7_load_13 : decode cX7_load 13 = .ok (.getfield 10, 3) := by decide +kernel
theorem dX7_load_16 : decode cX7_load 16 = .ok (.iload_n 1, 1) := by decide +kernel
theorem dX7_load_17 : decode cX7_load 17 = .ok (.invokevirtual 77, 3) := by decide +kernel
theorem dX7_load_20 : decode cX7_load 20 = .ok (.invokevirtual 67, 3) := by decide +kernel
theorem dX7_load_23 : decode cX7_load 23 = .ok (.ireturn, 1) := by decide +kernel
theorem dX7_drive_0 : decode cX7_drive 0 = .ok (.aload_n 0, 1) := by decide +kernel
theorem dX7_drive_1 : decode cX7_drive 1 = .ok (.getfield 31, 3) := by decide +kernel
theorem dX7_drive_4 : decode cX7_drive 4 = .ok (.aload_n 0, 1) := by decide +kernel
theorem dX7_drive_5 : decode cX7_drive 5 = .ok (.getfield 20, 3) := by decide +kernel
theorem dX7_drive_8 : decode cX7_drive 8 = .ok (.invokevirtual 59, 3) := by decide +kernel
theorem dX7_drive_11 : decode cX7_drive 11 = .ok (.aload_n 0, 1) := by decide +kernel
theorem dX7_drive_12 : decode cX7_drive 12 = .ok (.aload_n 0, 1) := by decide +kernel
theorem dX7_drive_13 : decode cX7_drive 13 = .ok (.getfield 10, 3) := by decide +kernel
theorem dX7_drive_16 : decode cX7_drive 16 = .ok (.iload_n 1, 1) := by decide +kernel
theorem dX7_drive_17 : decode cX7_drive 17 = .ok (.invokevirtual 80, 3) := by decide +kernel
theorem dX7_drive_20 : decode cX7_drive 20 = .ok (.invokevirtual 67, 3) := by decide +kernel
theorem dX7_drive_23 : decode cX7_drive 23 = .ok (.ireturn, 1) := by decide +kernel
theorem dX7_carry_0 : decode cX7_carry 0 = .ok (.aload_n 0, 1) := by decide +kernel
theorem dX7_carry_1 : decode cX7_carry 1 = .ok (.getfield 31, 3) := by decide +kernel
theorem dX7_carry_4 : decode cX7_carry 4 = .ok (.aload_n 0, 1) := by decide +kernel
theorem dX7_carry_5 : decode cX7_carry 5 = .ok (.getfield 20, 3) := by decide +kernel
theorem dX7_carry_8 : decode cX7_carry 8 = .ok (.invokevirtual 59, 3) := by decide +kernel
theorem dX7_carry_11 : decode cX7_carry 11 = .ok (.aload_n 0, 1) := by decide +kernel
theorem dX7_carry_12 : decode cX7_carry 12 = .ok (.aload_n 0, 1) := by decide +kernel
theorem dX7_carry_13 : decode cX7_carry 13 = .ok (.getfield 10, 3) := by decide +kernel
theorem dX7_carry_16 : decode cX7_carry 16 = .ok (.iload_n 1, 1) := by decide +kernel
theorem dX7_carry_17 : decode cX7_carry 17 = .ok (.iload_n 2, 1) := by decide +kernel
theorem dX7_carry_18 : decode cX7_carry 18 = .ok (.invokevirtual 83, 3) := by decide +kernel
theorem dX7_carry_21 : decode cX7_carry 21 = .ok (.invokevirtual 67, 3) := by decide +kernel
theorem dX7_carry_24 : decode cX7_carry 24 = .ok (.ireturn, 1) := by decide +kernel
theorem dX7_bone_0 : decode cX7_bone 0 = .ok (.aload_n 0, 1) := by decide +kernel
theorem dX7_bone_1 : decode cX7_bone 1 = .ok (.getfield 31, 3) := by decide +kernel
theorem dX7_bone_4 : decode cX7_bone 4 = .ok (.aload_n 0, 1) := by decide +kernel
theorem dX7_bone_5 : decode cX7_bone 5 = .ok (.getfield 20, 3) := by decide +kernel
theorem dX7_bone_8 : decode cX7_bone 8 = .ok (.invokevirtual 59, 3) := by decide +kernel
theorem dX7_bone_11 : decode cX7_bone 11 = .ok (.aload_n 0, 1) := by decide +kernel
theorem dX7_bone_12 : decode cX7_bone 12 = .ok (.aload_n 0, 1) := by decide +kernel
theorem dX7_bone_13 : decode cX7_bone 13 = .ok (.getfield 10, 3) := by decide +kernel
theorem dX7_bone_16 : decode cX7_bone 16 = .ok (.invokevirtual 86, 3) := by decide +kernel
theorem dX7_bone_19 : decode cX7_bone 19 = .ok (.invokevirtual 67, 3) := by decide +kernel
theorem dX7_bone_22 : decode cX7_bone 22 = .ok (.ireturn, 1) := by decide +kernel
theorem dX7_bones_0 : decode cX7_bones 0 = .ok (.aload_n 0, 1) := by decide +kernel
theorem dX7_bones_1 : decode cX7_bones 1 = .ok (.getfield 31, 3) := by decide +kernel
theorem dX7_bones_4 : decode cX7_bones 4 = .ok (.aload_n 0, 1) := by decide +kernel
theorem dX7_bones_5 : decode cX7_bones 5 = .ok (.getfield 20, 3) := by decide +kernel
theorem dX7_bones_8 : decode cX7_bones 8 = .ok (.invokevirtual 59, 3) := by decide +kernel
theorem dX7_bones_11 : decode cX7_bones 11 = .ok (.aload_n 0, 1) := by decide +kernel
theorem dX7_bones_12 : decode cX7_bones 12 = .ok (.aload_n 0, 1) := by decide +kernel
theorem dX7_bones_13 : decode cX7_bones 13 = .ok (.getfield 10, 3) := by decide +kernel
theorem dX7_bones_16 : decode cX7_bones 16 = .ok (.iload_n 1, 1) := by decide +kernel
theorem dX7_bones_17 : decode cX7_bones 17 = .ok (.invokevirtual 90, 3) := by decide +kernel
theorem dX7_bones_20 : decode cX7_bones 20 = .ok (.invokevirtual 67, 3) := by decide +kernel
theorem dX7_bones_23 : decode cX7_bones 23 = .ok (.ireturn, 1) := by decide +kernel
theorem dX7_mop_0 : decode cX7_mop 0 = .ok (.aload_n 0, 1) := by decide +kernel
theorem dX7_mop_1 : decode cX7_mop 1 = .ok (.getfield 31, 3) := by decide +kernel
theorem dX7_mop_4 : decode cX7_mop 4 = .ok (.aload_n 0, 1) := by decide +kernel
theorem dX7_mop_5 : decode cX7_mop 5 = .ok (.getfield 20, 3) := by decide +kernel
theorem dX7_mop_8 : decode cX7_mop 8 = .ok (.invokevirtual 59, 3) := by decide +kernel
theorem dX7_mop_11 : decode cX7_mop 11 = .ok (.aload_n 0, 1) := by decide +kernel
theorem dX7_mop_12 : decode cX7_mop 12 = .ok (.aload_n 0, 1) := by decide +kernel
theorem dX7_mop_13 : decode cX7_mop 13 = .ok (.getfield 10, 3) := by decide +kernel
theorem dX7_mop_16 : decode cX7_mop 16 = .ok (.iload_n 1, 1) := by decide +kernel
theorem dX7_mop_17 : decode cX7_mop 17 = .ok (.invokevirtual 93, 3) := by decide +kernel
theorem dX7_mop_20 : decode cX7_mop 20 = .ok (.invokevirtual 67, 3) := by decide +kernel
theorem dX7_mop_23 : decode cX7_mop 23 = .ok (.ireturn, 1) := by decide +kernel
theorem dX7_pay_0 : decode cX7_pay 0 = .ok (.aload_n 0, 1) := by decide +kernel
theorem dX7_pay_1 : decode cX7_pay 1 = .ok (.getfield 31, 3) := by decide +kernel
theorem dX7_pay_4 : decode cX7_pay 4 = .ok (.aload_n 0, 1) := by decide +kernel
theorem dX7_pay_5 : decode cX7_pay 5 = .ok (.getfield 20, 3) := by decide +kernel
theorem dX7_pay_8 : decode cX7_pay 8 = .ok (.invokevirtual 59, 3) := by decide +kernel
theorem dX7_pay_11 : decode cX7_pay 11 = .ok (.aload_n 0, 1) := by decide +kernel
theorem dX7_pay_12 : decode cX7_pay 12 = .ok (.aload_n 0, 1) := by decide +kernel
theorem dX7_pay_13 : decode cX7_pay 13 = .ok (.getfield 10, 3) := by decide +kernel
theorem dX7_pay_16 : decode cX7_pay 16 = .ok (.iload_n 1, 1) := by decide +kernel
theorem dX7_pay_17 : decode cX7_pay 17 = .ok (.iload_n 2, 1) := by decide +kernel
theorem dX7_pay_18 : decode cX7_pay 18 = .ok (.invokevirtual 96, 3) := by decide +kernel
theorem dX7_pay_21 : decode cX7_pay 21 = .ok (.invokevirtual 67, 3) := by decide +kernel
theorem dX7_pay_24 : decode cX7_pay 24 = .ok (.ireturn, 1) := by decide +kernel
theorem dX7_shoe_0 : decode cX7_shoe 0 = .ok (.aload_n 0, 1) := by decide +kernel
theorem dX7_shoe_1 : decode cX7_shoe 1 = .ok (.getfield 31, 3) := by decide +kernel
theorem dX7_shoe_4 : decode cX7_shoe 4 = .ok (.aload_n 0, 1) := by decide +kernel
theorem dX7_shoe_5 : decode cX7_shoe 5 = .ok (.getfield 20, 3) := by decide +kernel
theorem dX7_shoe_8 : decode cX7_shoe 8 = .ok (.invokevirtual 59, 3) := by decide +kernel
theorem dX7_shoe_11 : decode cX7_shoe 11 = .ok (.aload_n 0, 1) := by decide +kernel
theorem dX7_shoe_12 : decode cX7_shoe 12 = .ok (.aload_n 0, 1) := by decide +kernel
theorem dX7_shoe_13 : decode cX7_shoe 13 = .ok (.getfield 10, 3) := by decide +kernel
theorem dX7_shoe_16 : decode cX7_shoe 16 = .ok (.iload_n 1, 1) := by decide +kernel
theorem dX7_shoe_17 : decode cX7_shoe 17 = .ok (.invokevirtual 99, 3) := by decide +kernel
theorem dX7_shoe_20 : decode cX7_shoe 20 = .ok (.invokevirtual 67, 3) := by decide +kernel
theorem dX7_shoe_23 : decode cX7_shoe 23 = .ok (.ireturn, 1) := by decide +kernel
theorem dX7_days_0 : decode cX7_days 0 = .ok (.aload_n 0, 1) := by decide +kernel
theorem dX7_days_1 : decode cX7_days 1 = .ok (.getfield 31, 3) := by decide +kernel
theorem dX7_days_4 : decode cX7_days 4 = .ok (.aload_n 0, 1) := by decide +kernel
theorem dX7_days_5 : decode cX7_days 5 = .ok (.getfield 20, 3) := by decide +kernel
theorem dX7_days_8 : decode cX7_days 8 = .ok (.invokevirtual 59, 3) := by decide +kernel
theorem dX7_days_11 : decode cX7_days 11 = .ok (.aload_n 0, 1) := by decide +kernel
theorem dX7_days_12 : decode cX7_days 12 = .ok (.aload_n 0, 1) := by decide +kernel
theorem dX7_days_13 : decode cX7_days 13 = .ok (.getfield 10, 3) := by decide +kernel
theorem dX7_days_16 : decode cX7_days 16 = .ok (.iload_n 1, 1) := by decide +kernel
theorem dX7_days_17 : decode cX7_days 17 = .ok (.invokevirtual 102, 3) := by decide +kernel
theorem dX7_days_20 : decode cX7_days 20 = .ok (.invokevirtual 67, 3) := by decide +kernel
theorem dX7_days_23 : decode cX7_days 23 = .ok (.ireturn, 1) := by decide +kernel
theorem dX7_houseOf_0 : decode cX7_houseOf 0 = .ok (.aload_n 0, 1) := by decide +kernel
theorem dX7_houseOf_1 : decode cX7_houseOf 1 = .ok (.getfield 20, 3) := by decide +kernel
theorem dX7_houseOf_4 : decode cX7_houseOf 4 = .ok (.iload_n 1, 1) := by decide +kernel
theorem dX7_houseOf_5 : decode cX7_houseOf 5 = .ok (.invokevirtual 105, 3) := by decide +kernel
theorem dX7_houseOf_8 : decode cX7_houseOf 8 = .ok (.astore_n 3, 1) := by decide +kernel
theorem dX7_houseOf_9 : decode cX7_houseOf 9 = .ok (.aload_n 3, 1) := by decide +kernel
theorem dX7_houseOf_10 : decode cX7_houseOf 10 = .ok (.ifnonnull 13, 3) := by decide +kernel
theorem dX7_houseOf_13 : decode cX7_houseOf 13 = .ok (.new 109, 3) := by decide +kernel
theorem dX7_houseOf_16 : decode cX7_houseOf 16 = .ok (.dup, 1) := by decide +kernel
theorem dX7_houseOf_17 : decode cX7_houseOf 17 = .ok (.ldc 111, 2) := by decide +kernel
theorem dX7_houseOf_19 : decode cX7_houseOf 19 = .ok (.invokespecial 113, 3) := by decide +kernel
theorem dX7_houseOf_22 : decode cX7_houseOf 22 = .ok (.athrow, 1) := by decide +kernel
theorem dX7_houseOf_23 : decode cX7_houseOf 23 = .ok (.iload_n 2, 1) := by decide +kernel
theorem dX7_houseOf_24 : decode cX7_houseOf 24 = .ok (.iconst 0, 1) := by decide +kernel
theorem dX7_houseOf_25 : decode cX7_houseOf 25 = .ok (.bipush 7, 2) := by decide +kernel
theorem dX7_houseOf_27 : decode cX7_houseOf 27 = .ok (.invokestatic 116, 3) := by decide +kernel
theorem dX7_houseOf_30 : decode cX7_houseOf 30 = .ok (.ifCond .eq 13, 3) := by decide +kernel
theorem dX7_houseOf_33 : decode cX7_houseOf 33 = .ok (.new 120, 3) := by decide +kernel
theorem dX7_houseOf_36 : decode cX7_houseOf 36 = .ok (.dup, 1) := by decide +kernel
theorem dX7_houseOf_37 : decode cX7_houseOf 37 = .ok (.ldc 122, 2) := by decide +kernel
theorem dX7_houseOf_39 : decode cX7_houseOf 39 = .ok (.invokespecial 124, 3) := by decide +kernel
theorem dX7_houseOf_42 : decode cX7_houseOf 42 = .ok (.athrow, 1) := by decide +kernel
theorem dX7_houseOf_43 : decode cX7_houseOf 43 = .ok (.aload_n 3, 1) := by decide +kernel
theorem dX7_houseOf_44 : decode cX7_houseOf 44 = .ok (.iload_n 2, 1) := by decide +kernel
theorem dX7_houseOf_45 : decode cX7_houseOf 45 = .ok (.invokevirtual 125, 3) := by decide +kernel
theorem dX7_houseOf_48 : decode cX7_houseOf 48 = .ok (.ireturn, 1) := by decide +kernel
theorem dX7_carrierOf_0 : decode cX7_carrierOf 0 = .ok (.aload_n 0, 1) := by decide +kernel
theorem dX7_carrierOf_1 : decode cX7_carrierOf 1 = .ok (.getfield 20, 3) := by decide +kernel
theorem dX7_carrierOf_4 : decode cX7_carrierOf 4 = .ok (.iload_n 1, 1) := by decide +kernel
theorem dX7_carrierOf_5 : decode cX7_carrierOf 5 = .ok (.invokevirtual 130, 3) := by decide +kernel
theorem dX7_carrierOf_8 : decode cX7_carrierOf 8 = .ok (.astore_n 3, 1) := by decide +kernel
theorem dX7_carrierOf_9 : decode cX7_carrierOf 9 = .ok (.aload_n 3, 1) := by decide +kernel
theorem dX7_carrierOf_10 : decode cX7_carrierOf 10 = .ok (.ifnonnull 13, 3) := by decide +kernel
theorem dX7_carrierOf_13 : decode cX7_carrierOf 13 = .ok (.new 109, 3) := by decide +kernel
theorem dX7_carrierOf_16 : decode cX7_carrierOf 16 = .ok (.dup, 1) := by decide +kernel
theorem dX7_carrierOf_17 : decode cX7_carrierOf 17 = .ok (.ldc 134, 2) := by decide +kernel
theorem dX7_carrierOf_19 : decode cX7_carrierOf 19 = .ok (.invokespecial 113, 3) := by decide +kernel
theorem dX7_carrierOf_22 : decode cX7_carrierOf 22 = .ok (.athrow, 1) := by decide +kernel
theorem dX7_carrierOf_23 : decode cX7_carrierOf 23 = .ok (.iload_n 2, 1) := by decide +kernel
theorem dX7_carrierOf_24 : decode cX7_carrierOf 24 = .ok (.iconst 0, 1) := by decide +kernel
theorem dX7_carrierOf_25 : decode cX7_carrierOf 25 = .ok (.iconst 3, 1) := by decide +kernel
theorem dX7_carrierOf_26 : decode cX7_carrierOf 26 = .ok (.invokestatic 116, 3) := by decide +kernel
theorem dX7_carrierOf_29 : decode cX7_carrierOf 29 = .ok (.ifCond .eq 13, 3) := by decide +kernel
theorem dX7_carrierOf_32 : decode cX7_carrierOf 32 = .ok (.new 120, 3) := by decide +kernel
theorem dX7_carrierOf_35 : decode cX7_carrierOf 35 = .ok (.dup, 1) := by decide +kernel
theorem dX7_carrierOf_36 : decode cX7_carrierOf 36 = .ok (.ldc 136, 2) := by decide +kernel
theorem dX7_carrierOf_38 : decode cX7_carrierOf 38 = .ok (.invokespecial 124, 3) := by decide +kernel
theorem dX7_carrierOf_41 : decode cX7_carrierOf 41 = .ok (.athrow, 1) := by decide +kernel
theorem dX7_carrierOf_42 : decode cX7_carrierOf 42 = .ok (.aload_n 3, 1) := by decide +kernel
theorem dX7_carrierOf_43 : decode cX7_carrierOf 43 = .ok (.iload_n 2, 1) := by decide +kernel
theorem dX7_carrierOf_44 : decode cX7_carrierOf 44 = .ok (.invokevirtual 138, 3) := by decide +kernel
theorem dX7_carrierOf_47 : decode cX7_carrierOf 47 = .ok (.ireturn, 1) := by decide +kernel
theorem dX7_shoeOf_0 : decode cX7_shoeOf 0 = .ok (.iload_n 1, 1) := by decide +kernel
theorem dX7_shoeOf_1 : decode cX7_shoeOf 1 = .ok (.iconst 0, 1) := by decide +kernel
theorem dX7_shoeOf_2 : decode cX7_shoeOf 2 = .ok (.iconst 3, 1) := by decide +kernel
theorem dX7_shoeOf_3 : decode cX7_shoeOf 3 = .ok (.invokestatic 116, 3) := by decide +kernel
theorem dX7_shoeOf_6 : decode cX7_shoeOf 6 = .ok (.ifCond .eq 13, 3) := by decide +kernel
theorem dX7_shoeOf_9 : decode cX7_shoeOf 9 = .ok (.new 109, 3) := by decide +kernel
theorem dX7_shoeOf_12 : decode cX7_shoeOf 12 = .ok (.dup, 1) := by decide +kernel
theorem dX7_shoeOf_13 : decode cX7_shoeOf 13 = .ok (.ldc 141, 2) := by decide +kernel
theorem dX7_shoeOf_15 : decode cX7_shoeOf 15 = .ok (.invokespecial 113, 3) := by decide +kernel
theorem dX7_shoeOf_18 : decode cX7_shoeOf 18 = .ok (.athrow, 1) := by decide +kernel
theorem dX7_shoeOf_19 : decode cX7_shoeOf 19 = .ok (.aload_n 0, 1) := by decide +kernel
theorem dX7_shoeOf_20 : decode cX7_shoeOf 20 = .ok (.getfield 20, 3) := by decide +kernel
theorem dX7_shoeOf_23 : decode cX7_shoeOf 23 = .ok (.getfield 143, 3) := by decide +kernel
theorem dX7_shoeOf_26 : decode cX7_shoeOf 26 = .ok (.iload_n 1, 1) := by decide +kernel
theorem dX7_shoeOf_27 : decode cX7_shoeOf 27 = .ok (.iaload, 1) := by decide +kernel
theorem dX7_shoeOf_28 : decode cX7_shoeOf 28 = .ok (.ireturn, 1) := by decide +kernel
theorem dX7_tires_0 : decode cX7_tires 0 = .ok (.aload_n 0, 1) := by decide +kernel
theorem dX7_tires_1 : decode cX7_tires 1 = .ok (.getfield 20, 3) := by decide +kernel
theorem dX7_tires_4 : decode cX7_tires 4 = .ok (.iload_n 1, 1) := by decide +kernel
theorem dX7_tires_5 : decode cX7_tires 5 = .ok (.invokevirtual 130, 3) := by decide +kernel
theorem dX7_tires_8 : decode cX7_tires 8 = .ok (.astore_n 3, 1) := by decide +kernel
theorem dX7_tires_9 : decode cX7_tires 9 = .ok (.aload_n 0, 1) := by decide +kernel
theorem dX7_tires_10 : decode cX7_tires 10 = .ok (.getfield 20, 3) := by decide +kernel
theorem dX7_tires_13 : decode cX7_tires 13 = .ok (.iload_n 2, 1) := by decide +kernel
theorem dX7_tires_14 : decode cX7_tires 14 = .ok (.invokevirtual 105, 3) := by decide +kernel
theorem dX7_tires_17 : decode cX7_tires 17 = .ok (.astore 4, 2) := by decide +kernel
theorem dX7_tires_19 : decode cX7_tires 19 = .ok (.aload_n 3, 1) := by decide +kernel
theorem dX7_tires_20 : decode cX7_tires 20 = .ok (.ifnull 8, 3) := by decide +kernel
theorem dX7_tires_23 : decode cX7_tires 23 = .ok (.aload 4, 2) := by decide +kernel
theorem dX7_tires_25 : decode cX7_tires 25 = .ok (.ifnonnull 13, 3) := by decide +kernel
theorem dX7_tires_28 : decode cX7_tires 28 = .ok (.new 109, 3) := by decide +kernel
theorem dX7_tires_31 : decode cX7_tires 31 = .ok (.dup, 1) := by decide +kernel
theorem dX7_tires_32 : decode cX7_tires 32 = .ok (.ldc 147, 2) := by decide +kernel
theorem dX7_tires_34 : decode cX7_tires 34 = .ok (.invokespecial 113, 3) := by decide +kernel
theorem dX7_tires_37 : decode cX7_tires 37 = .ok (.athrow, 1) := by decide +kernel
theorem dX7_tires_38 : decode cX7_tires 38 = .ok (.aload_n 3, 1) := by decide +kernel
theorem dX7_tires_39 : decode cX7_tires 39 = .ok (.aload 4, 2) := by decide +kernel
theorem dX7_tires_41 : decode cX7_tires 41 = .ok (.invokevirtual 149, 3) := by decide +kernel
theorem dX7_tires_44 : decode cX7_tires 44 = .ok (.ireturn, 1) := by decide +kernel
theorem dX7_canCarry_0 : decode cX7_canCarry 0 = .ok (.aload_n 0, 1) := by decide +kernel
theorem dX7_canCarry_1 : decode cX7_canCarry 1 = .ok (.getfield 20, 3) := by decide +kernel
theorem dX7_canCarry_4 : decode cX7_canCarry 4 = .ok (.iload_n 1, 1) := by decide +kernel
theorem dX7_canCarry_5 : decode cX7_canCarry 5 = .ok (.invokevirtual 130, 3) := by decide +kernel
theorem dX7_canCarry_8 : decode cX7_canCarry 8 = .ok (.astore_n 3, 1) := by decide +kernel
theorem dX7_canCarry_9 : decode cX7_canCarry 9 = .ok (.aload_n 0, 1) := by decide +kernel
theorem dX7_canCarry_10 : decode cX7_canCarry 10 = .ok (.getfield 20, 3) := by decide +kernel
theorem dX7_canCarry_13 : decode cX7_canCarry 13 = .ok (.iload_n 2, 1) := by decide +kernel
theorem dX7_canCarry_14 : decode cX7_canCarry 14 = .ok (.invokevirtual 105, 3) := by decide +kernel
theorem dX7_canCarry_17 : decode cX7_canCarry 17 = .ok (.astore 4, 2) := by decide +kernel
theorem dX7_canCarry_19 : decode cX7_canCarry 19 = .ok (.aload_n 3, 1) := by decide +kernel
theorem dX7_canCarry_20 : decode cX7_canCarry 20 = .ok (.ifnull 8, 3) := by decide +kernel
theorem dX7_canCarry_23 : decode cX7_canCarry 23 = .ok (.aload 4, 2) := by decide +kernel
theorem dX7_canCarry_25 : decode cX7_canCarry 25 = .ok (.ifnonnull 13, 3) := by decide +kernel
theorem dX7_canCarry_28 : decode cX7_canCarry 28 = .ok (.new 109, 3) := by decide +kernel
theorem dX7_canCarry_31 : decode cX7_canCarry 31 = .ok (.dup, 1) := by decide +kernel
theorem dX7_canCarry_32 : decode cX7_canCarry 32 = .ok (.ldc 147, 2) := by decide +kernel
theorem dX7_canCarry_34 : decode cX7_canCarry 34 = .ok (.invokespecial 113, 3) := by decide +kernel
theorem dX7_canCarry_37 : decode cX7_canCarry 37 = .ok (.athrow, 1) := by decide +kernel
theorem dX7_canCarry_38 : decode cX7_canCarry 38 = .ok (.aload_n 3, 1) := by decide +kernel
theorem dX7_canCarry_39 : decode cX7_canCarry 39 = .ok (.aload 4, 2) := by decide +kernel
theorem dX7_canCarry_41 : decode cX7_canCarry 41 = .ok (.invokevirtual 153, 3) := by decide +kernel
theorem dX7_canCarry_44 : decode cX7_canCarry 44 = .ok (.ireturn, 1) := by decide +kernel
theorem dX7_mayCarry_0 : decode cX7_mayCarry 0 = .ok (.aload_n 0, 1) := by decide +kernel
theorem dX7_mayCarry_1 : decode cX7_mayCarry 1 = .ok (.getfield 20, 3) := by decide +kernel
theorem dX7_mayCarry_4 : decode cX7_mayCarry 4 = .ok (.iload_n 1, 1) := by decide +kernel
theorem dX7_mayCarry_5 : decode cX7_mayCarry 5 = .ok (.invokevirtual 130, 3) := by decide +kernel
theorem dX7_mayCarry_8 : decode cX7_mayCarry 8 = .ok (.astore_n 2, 1) := by decide +kernel
theorem dX7_mayCarry_9 : decode cX7_mayCarry 9 = .ok (.aload_n 2, 1) := by decide +kernel
theorem dX7_mayCarry_10 : decode cX7_mayCarry 10 = .ok (.ifnonnull 13, 3) := by decide +kernel
theorem dX7_mayCarry_13 : decode cX7_mayCarry 13 = .ok (.new 109, 3) := by decide +kernel
theorem dX7_mayCarry_16 : decode cX7_mayCarry 16 = .ok (.dup, 1) := by decide +kernel
theorem dX7_mayCarry_17 : decode cX7_mayCarry 17 = .ok (.ldc 134, 2) := by decide +kernel
theorem dX7_mayCarry_19 : decode cX7_mayCarry 19 = .ok (.invokespecial 113, 3) := by decide +kernel
theorem dX7_mayCarry_22 : decode cX7_mayCarry 22 = .ok (.athrow, 1) := by decide +kernel
theorem dX7_mayCarry_23 : decode cX7_mayCarry 23 = .ok (.aload_n 0, 1) := by decide +kernel
theorem dX7_mayCarry_24 : decode cX7_mayCarry 24 = .ok (.getfield 10, 3) := by decide +kernel
theorem dX7_mayCarry_27 : decode cX7_mayCarry 27 = .ok (.aload_n 2, 1) := by decide +kernel
theorem dX7_mayCarry_28 : decode cX7_mayCarry 28 = .ok (.invokevirtual 156, 3) := by decide +kernel
theorem dX7_mayCarry_31 : decode cX7_mayCarry 31 = .ok (.ireturn, 1) := by decide +kernel
theorem dX7_bestCarrier_0 : decode cX7_bestCarrier 0 = .ok (.aload_n 0, 1) := by decide +kernel
theorem dX7_bestCarrier_1 : decode cX7_bestCarrier 1 = .ok (.getfield 20, 3) := by decide +kernel
theorem dX7_bestCarrier_4 : decode cX7_bestCarrier 4 = .ok (.iload_n 1, 1) := by decide +kernel
theorem dX7_bestCarrier_5 : decode cX7_bestCarrier 5 = .ok (.invokevirtual 105, 3) := by decide +kernel
theorem dX7_bestCarrier_8 : decode cX7_bestCarrier 8 = .ok (.astore_n 2, 1) := by decide +kernel
theorem dX7_bestCarrier_9 : decode cX7_bestCarrier 9 = .ok (.aload_n 2, 1) := by decide +kernel
theorem dX7_bestCarrier_10 : decode cX7_bestCarrier 10 = .ok (.ifnonnull 13, 3) := by decide +kernel
theorem dX7_bestCarrier_13 : decode cX7_bestCarrier 13 = .ok (.new 109, 3) := by decide +kernel
theorem dX7_bestCarrier_16 : decode cX7_bestCarrier 16 = .ok (.dup, 1) := by decide +kernel
theorem dX7_bestCarrier_17 : decode cX7_bestCarrier 17 = .ok (.ldc 111, 2) := by decide +kernel
theorem dX7_bestCarrier_19 : decode cX7_bestCarrier 19 = .ok (.invokespecial 113, 3) := by decide +kernel
theorem dX7_bestCarrier_22 : decode cX7_bestCarrier 22 = .ok (.athrow, 1) := by decide +kernel
theorem dX7_bestCarrier_23 : decode cX7_bestCarrier 23 = .ok (.aload_n 0, 1) := by decide +kernel
theorem dX7_bestCarrier_24 : decode cX7_bestCarrier 24 = .ok (.getfield 20, 3) := by decide +kernel
theorem dX7_bestCarrier_27 : decode cX7_bestCarrier 27 = .ok (.aload_n 2, 1) := by decide +kernel
theorem dX7_bestCarrier_28 : decode cX7_bestCarrier 28 = .ok (.invokevirtual 160, 3) := by decide +kernel
theorem dX7_bestCarrier_31 : decode cX7_bestCarrier 31 = .ok (.istore_n 3, 1) := by decide +kernel
theorem dX7_bestCarrier_32 : decode cX7_bestCarrier 32 = .ok (.iload_n 3, 1) := by decide +kernel
theorem dX7_bestCarrier_33 : decode cX7_bestCarrier 33 = .ok (.iconst (-1), 1) := by decide +kernel
theorem dX7_bestCarrier_34 : decode cX7_bestCarrier 34 = .ok (.if_icmp .ne 13, 3) := by decide +kernel
theorem dX7_bestCarrier_37 : decode cX7_bestCarrier 37 = .ok (.new 163, 3) := by decide +kernel
theorem dX7_bestCarrier_40 : decode cX7_bestCarrier 40 = .ok (.dup, 1) := by decide +kernel
theorem dX7_bestCarrier_41 : decode cX7_bestCarrier 41 = .ok (.ldc 165, 2) := by decide +kernel
theorem dX7_bestCarrier_43 : decode cX7_bestCarrier 43 = .ok (.invokespecial 167, 3) := by decide +kernel
theorem dX7_bestCarrier_46 : decode cX7_bestCarrier 46 = .ok (.athrow, 1) := by decide +kernel
theorem dX7_bestCarrier_47 : decode cX7_bestCarrier 47 = .ok (.iload_n 3, 1) := by decide +kernel
theorem dX7_bestCarrier_48 : decode cX7_bestCarrier 48 = .ok (.ireturn, 1) := by decide +kernel
theorem dX7_reach_0 : decode cX7_reach 0 = .ok (.aload_n 0, 1) := by decide +kernel
theorem dX7_reach_1 : decode cX7_reach 1 = .ok (.getfield 20, 3) := by decide +kernel
theorem dX7_reach_4 : decode cX7_reach 4 = .ok (.invokevirtual 168, 3) := by decide +kernel
theorem dX7_reach_7 : decode cX7_reach 7 = .ok (.iconst 3, 1) := by decide +kernel
theorem dX7_reach_8 : decode cX7_reach 8 = .ok (.if_icmp .ge 13, 3) := by decide +kernel
theorem dX7_reach_11 : decode cX7_reach 11 = .ok (.aload_n 0, 1) := by decide +kernel
theorem dX7_reach_12 : decode cX7_reach 12 = .ok (.getfield 20, 3) := by decide +kernel
theorem dX7_reach_15 : decode cX7_reach 15 = .ok (.getfield 171, 3) := by decide +kernel
theorem dX7_reach_18 : decode cX7_reach 18 = .ok (.goto 10, 3) := by decide +kernel
theorem dX7_reach_21 : decode cX7_reach 21 = .ok (.aload_n 0, 1) := by decide +kernel
theorem dX7_reach_22 : decode cX7_reach 22 = .ok (.getfield 20, 3) := by decide +kernel
theorem dX7_reach_25 : decode cX7_reach 25 = .ok (.getfield 174, 3) := by decide +kernel
theorem dX7_reach_28 : decode cX7_reach 28 = .ok (.ireturn, 1) := by decide +kernel
theorem dX7_isQuiet_0 : decode cX7_isQuiet 0 = .ok (.aload_n 0, 1) := by decide +kernel
theorem dX7_isQuiet_1 : decode cX7_isQuiet 1 = .ok (.getfield 20, 3) := by decide +kernel
theorem dX7_isQuiet_4 : decode cX7_isQuiet 4 = .ok (.iload_n 1, 1) := by decide +kernel
theorem dX7_isQuiet_5 : decode cX7_isQuiet 5 = .ok (.invokevirtual 105, 3) := by decide +kernel
theorem dX7_isQuiet_8 : decode cX7_isQuiet 8 = .ok (.astore_n 2, 1) := by decide +kernel
theorem dX7_isQuiet_9 : decode cX7_isQuiet 9 = .ok (.aload_n 2, 1) := by decide +kernel
theorem dX7_isQuiet_10 : decode cX7_isQuiet 10 = .ok (.ifnonnull 13, 3) := by decide +kernel
theorem dX7_isQuiet_13 : decode cX7_isQuiet 13 = .ok (.new 109, 3) := by decide +kernel
theorem dX7_isQuiet_16 : decode cX7_isQuiet 16 = .ok (.dup, 1) := by decide +kernel
theorem dX7_isQuiet_17 : decode cX7_isQuiet 17 = .ok (.ldc 111, 2) := by decide +kernel
theorem dX7_isQuiet_19 : decode cX7_isQuiet 19 = .ok (.invokespecial 113, 3) := by decide +kernel
theorem dX7_isQuiet_22 : decode cX7_isQuiet 22 = .ok (.athrow, 1) := by decide +kernel
theorem dX7_isQuiet_23 : decode cX7_isQuiet 23 = .ok (.aload_n 2, 1) := by decide +kernel
theorem dX7_isQuiet_24 : decode cX7_isQuiet 24 = .ok (.invokevirtual 177, 3) := by decide +kernel
theorem dX7_isQuiet_27 : decode cX7_isQuiet 27 = .ok (.ifCond .le 7, 3) := by decide +kernel
theorem dX7_isQuiet_30 : decode cX7_isQuiet 30 = .ok (.iconst 1, 1) := by decide +kernel
theorem dX7_isQuiet_31 : decode cX7_isQuiet 31 = .ok (.goto 4, 3) := by decide +kernel
theorem dX7_isQuiet_34 : decode cX7_isQuiet 34 = .ok (.iconst 0, 1) := by decide +kernel
theorem dX7_isQuiet_35 : decode cX7_isQuiet 35 = .ok (.ireturn, 1) := by decide +kernel
theorem dX7_ranked_0 : decode cX7_ranked 0 = .ok (.aload_n 0, 1) := by decide +kernel
theorem dX7_ranked_1 : decode cX7_ranked 1 = .ok (.getfield 20, 3) := by decide +kernel
theorem dX7_ranked_4 : decode cX7_ranked 4 = .ok (.iload_n 1, 1) := by decide +kernel
theorem dX7_ranked_5 : decode cX7_ranked 5 = .ok (.invokevirtual 180, 3) := by decide +kernel
theorem dX7_ranked_8 : decode cX7_ranked 8 = .ok (.istore_n 2, 1) := by decide +kernel
theorem dX7_ranked_9 : decode cX7_ranked 9 = .ok (.iload_n 2, 1) := by decide +kernel
theorem dX7_ranked_10 : decode cX7_ranked 10 = .ok (.iconst (-1), 1) := by decide +kernel
theorem dX7_ranked_11 : decode cX7_ranked 11 = .ok (.if_icmp .ne 13, 3) := by decide +kernel
theorem dX7_ranked_14 : decode cX7_ranked 14 = .ok (.new 163, 3) := by decide +kernel
theorem dX7_ranked_17 : decode cX7_ranked 17 = .ok (.dup, 1) := by decide +kernel
theorem dX7_ranked_18 : decode cX7_ranked 18 = .ok (.ldc 183, 2) := by decide +kernel
theorem dX7_ranked_20 : decode cX7_ranked 20 = .ok (.invokespecial 167, 3) := by decide +kernel
theorem dX7_ranked_23 : decode cX7_ranked 23 = .ok (.athrow, 1) := by decide +kernel
theorem dX7_ranked_24 : decode cX7_ranked 24 = .ok (.iload_n 2, 1) := by decide +kernel
theorem dX7_ranked_25 : decode cX7_ranked 25 = .ok (.ireturn, 1) := by decide +kernel
theorem dX7_carried_0 : decode cX7_carried 0 = .ok (.aload_n 0, 1) := by decide +kernel
theorem dX7_carried_1 : decode cX7_carried 1 = .ok (.getfield 20, 3) := by decide +kernel
theorem dX7_carried_4 : decode cX7_carried 4 = .ok (.invokevirtual 185, 3) := by decide +kernel
theorem dX7_carried_7 : decode cX7_carried 7 = .ok (.ireturn, 1) := by decide +kernel
theorem dX7_carriedAgain_0 : decode cX7_carriedAgain 0 = .ok (.aload_n 0, 1) := by decide +kernel
theorem dX7_carriedAgain_1 : decode cX7_carriedAgain 1 = .ok (.getfield 20, 3) := by decide +kernel
theorem dX7_carriedAgain_4 : decode cX7_carriedAgain 4 = .ok (.invokevirtual 188, 3) := by decide +kernel
theorem dX7_carriedAgain_7 : decode cX7_carriedAgain 7 = .ok (.iconst 3, 1) := by decide +kernel
theorem dX7_carriedAgain_8 : decode cX7_carriedAgain 8 = .ok (.idiv, 1) := by decide +kernel
theorem dX7_carriedAgain_9 : decode cX7_carriedAgain 9 = .ok (.ireturn, 1) := by decide +kernel
theorem dX7_append_0 : decode cX7_append 0 = .ok (.aload_n 0, 1) := by decide +kernel
theorem dX7_append_1 : decode cX7_append 1 = .ok (.getfield 44, 3) := by decide +kernel
theorem dX7_append_4 : decode cX7_append 4 = .ok (.getfield 191, 3) := by decide +kernel
theorem dX7_append_7 : decode cX7_append 7 = .ok (.bipush 60, 2) := by decide +kernel
theorem dX7_append_9 : decode cX7_append 9 = .ok (.if_icmp .lt 13, 3) := by decide +kernel
theorem dX7_append_12 : decode cX7_append 12 = .ok (.new 194, 3) := by decide +kernel
theorem dX7_append_15 : decode cX7_append 15 = .ok (.dup, 1) := by decide +kernel
theorem dX7_append_16 : decode cX7_append 16 = .ok (.ldc 196, 2) := by decide +kernel
theorem dX7_append_18 : decode cX7_append 18 = .ok (.invokespecial 198, 3) := by decide +kernel
theorem dX7_append_21 : decode cX7_append 21 = .ok (.athrow, 1) := by decide +kernel
theorem dX7_append_22 : decode cX7_append 22 = .ok (.aload_n 0, 1) := by decide +kernel
theorem dX7_append_23 : decode cX7_append 23 = .ok (.getfield 44, 3) := by decide +kernel
theorem dX7_append_26 : decode cX7_append 26 = .ok (.getfield 199, 3) := by decide +kernel
theorem dX7_append_29 : decode cX7_append 29 = .ok (.aload_n 0, 1) := by decide +kernel
theorem dX7_append_30 : decode cX7_append 30 = .ok (.getfield 44, 3) := by decide +kernel
theorem dX7_append_33 : decode cX7_append 33 = .ok (.getfield 191, 3) := by decide +kernel
theorem dX7_append_36 : decode cX7_append 36 = .ok (.iload_n 1, 1) := by decide +kernel
theorem dX7_append_37 : decode cX7_append 37 = .ok (.castore, 1) := by decide +kernel
theorem dX7_append_38 : decode cX7_append 38 = .ok (.aload_n 0, 1) := by decide +kernel
theorem dX7_append_39 : decode cX7_append 39 = .ok (.getfield 44, 3) := by decide +kernel
theorem dX7_append_42 : decode cX7_append 42 = .ok (.dup, 1) := by decide +kernel
theorem dX7_append_43 : decode cX7_append 43 = .ok (.getfield 191, 3) := by decide +kernel
theorem dX7_append_46 : decode cX7_append 46 = .ok (.iconst 1, 1) := by decide +kernel
theorem dX7_append_47 : decode cX7_append 47 = .ok (.iadd, 1) := by decide +kernel
theorem dX7_append_48 : decode cX7_append 48 = .ok (.putfield 191, 3) := by decide +kernel
theorem dX7_append_51 : decode cX7_append 51 = .ok (.aload_n 0, 1) := by decide +kernel
theorem dX7_append_52 : decode cX7_append 52 = .ok (.getfield 44, 3) := by decide +kernel
theorem dX7_append_55 : decode cX7_append 55 = .ok (.getfield 191, 3) := by decide +kernel
theorem dX7_append_58 : decode cX7_append 58 = .ok (.ireturn, 1) := by decide +kernel
theorem dX7_commands_0 : decode cX7_commands 0 = .ok (.aload_n 0, 1) := by decide +kernel
theorem dX7_commands_1 : decode cX7_commands 1 = .ok (.getfield 44, 3) := by decide +kernel
theorem dX7_commands_4 : decode cX7_commands 4 = .ok (.invokevirtual 203, 3) := by decide +kernel
theorem dX7_commands_7 : decode cX7_commands 7 = .ok (.istore_n 1, 1) := by decide +kernel
theorem dX7_commands_8 : decode cX7_commands 8 = .ok (.aload_n 0, 1) := by decide +kernel
theorem dX7_commands_9 : decode cX7_commands 9 = .ok (.iload_n 1, 1) := by decide +kernel
theorem dX7_commands_10 : decode cX7_commands 10 = .ok (.ifCond .eq 7, 3) := by decide +kernel
theorem dX7_commands_13 : decode cX7_commands 13 = .ok (.iconst (-1), 1) := by decide +kernel
theorem dX7_commands_14 : decode cX7_commands 14 = .ok (.goto 10, 3) := by decide +kernel
theorem dX7_commands_17 : decode cX7_commands 17 = .ok (.aload_n 0, 1) := by decide +kernel
theorem dX7_commands_18 : decode cX7_commands 18 = .ok (.getfield 44, 3) := by decide +kernel
theorem dX7_commands_21 : decode cX7_commands 21 = .ok (.getfield 207, 3) := by decide +kernel
theorem dX7_commands_24 : decode cX7_commands 24 = .ok (.putfield 48, 3) := by decide +kernel
theorem dX7_commands_27 : decode cX7_commands 27 = .ok (.aload_n 0, 1) := by decide +kernel
theorem dX7_commands_28 : decode cX7_commands 28 = .ok (.getfield 44, 3) := by decide +kernel
theorem dX7_commands_31 : decode cX7_commands 31 = .ok (.iconst 0, 1) := by decide +kernel
theorem dX7_commands_32 : decode cX7_commands 32 = .ok (.putfield 191, 3) := by decide +kernel
theorem dX7_commands_35 : decode cX7_commands 35 = .ok (.iload_n 1, 1) := by decide +kernel
theorem dX7_commands_36 : decode cX7_commands 36 = .ok (.ifCond .ne 13, 3) := by decide +kernel
theorem dX7_commands_39 : decode cX7_commands 39 = .ok (.new 120, 3) := by decide +kernel
theorem dX7_commands_42 : decode cX7_commands 42 = .ok (.dup, 1) := by decide +kernel
theorem dX7_commands_43 : decode cX7_commands 43 = .ok (.ldc 210, 2) := by decide +kernel
theorem dX7_commands_45 : decode cX7_commands 45 = .ok (.invokespecial 124, 3) := by decide +kernel
theorem dX7_commands_48 : decode cX7_commands 48 = .ok (.athrow, 1) := by decide +kernel
theorem dX7_commands_49 : decode cX7_commands 49 = .ok (.aload_n 0, 1) := by decide +kernel
theorem dX7_commands_50 : decode cX7_commands 50 = .ok (.getfield 31, 3) := by decide +kernel
theorem dX7_commands_53 : decode cX7_commands 53 = .ok (.aload_n 0, 1) := by decide +kernel
theorem dX7_commands_54 : decode cX7_commands 54 = .ok (.getfield 20, 3) := by decide +kernel
theorem dX7_commands_57 : decode cX7_commands 57 = .ok (.invokevirtual 59, 3) := by decide +kernel
theorem dX7_commands_60 : decode cX7_commands 60 = .ok (.aload_n 0, 1) := by decide +kernel
theorem dX7_commands_61 : decode cX7_commands 61 = .ok (.invokevirtual 212, 3) := by decide +kernel
theorem dX7_commands_64 : decode cX7_commands 64 = .ok (.ifCond .ne 24, 3) := by decide +kernel
theorem dX7_commands_67 : decode cX7_commands 67 = .ok (.aload_n 0, 1) := by decide +kernel
theorem dX7_commands_68 : decode cX7_commands 68 = .ok (.getfield 31, 3) := by decide +kernel
theorem dX7_commands_71 : decode cX7_commands 71 = .ok (.aload_n 0, 1) := by decide +kernel
theorem dX7_commands_72 : decode cX7_commands 72 = .ok (.getfield 20, 3) := by decide +kernel
theorem dX7_commands_75 : decode cX7_commands 75 = .ok (.invokevirtual 215, 3) := by decide +kernel
theorem dX7_commands_78 : decode cX7_commands 78 = .ok (.new 218, 3) := by decide +kernel
theorem dX7_commands_81 : decode cX7_commands 81 = .ok (.dup, 1) := by decide +kernel
theorem dX7_commands_82 : decode cX7_commands 82 = .ok (.ldc 220, 2) := by decide +kernel
theorem dX7_commands_84 : decode cX7_commands 84 = .ok (.invokespecial 222, 3) := by decide +kernel
theorem dX7_commands_87 : decode cX7_commands 87 = .ok (.athrow, 1) := by decide +kernel
theorem dX7_commands_88 : decode cX7_commands 88 = .ok (.aload_n 0, 1) := by decide +kernel
theorem dX7_commands_89 : decode cX7_commands 89 = .ok (.getfield 31, 3) := by decide +kernel
theorem dX7_commands_92 : decode cX7_commands 92 = .ok (.invokevirtual 223, 3) := by decide +kernel
theorem dX7_commands_95 : decode cX7_commands 95 = .ok (.aload_n 0, 1) := by decide +kernel
theorem dX7_commands_96 : decode cX7_commands 96 = .ok (.getfield 44, 3) := by decide +kernel
theorem dX7_commands_99 : decode cX7_commands 99 = .ok (.getfield 226, 3) := by decide +kernel
theorem dX7_commands_102 : decode cX7_commands 102 = .ok (.ireturn, 1) := by decide +kernel
theorem dX7_faultPosition_0 : decode cX7_faultPosition 0 = .ok (.aload_n 0, 1) := by decide +kernel
theorem dX7_faultPosition_1 : decode cX7_faultPosition 1 = .ok (.getfield 48, 3) := by decide +kernel
theorem dX7_faultPosition_4 : decode cX7_faultPosition 4 = .ok (.ireturn, 1) := by decide +kernel
theorem dX7_reason_0 : decode cX7_reason 0 = .ok (.iload_n 1, 1) := by decide +kernel
theorem dX7_reason_1 : decode cX7_reason 1 = .ok (.iconst 0, 1) := by decide +kernel
theorem dX7_reason_2 : decode cX7_reason 2 = .ok (.iconst 2, 1) := by decide +kernel
theorem dX7_reason_3 : decode cX7_reason 3 = .ok (.invokestatic 116, 3) := by decide +kernel
theorem dX7_reason_6 : decode cX7_reason 6 = .ok (.ifCond .eq 13, 3) := by decide +kernel
theorem dX7_reason_9 : decode cX7_reason 9 = .ok (.new 120, 3) := by decide +kernel
theorem dX7_reason_12 : decode cX7_reason 12 = .ok (.dup, 1) := by decide +kernel
theorem dX7_reason_13 : decode cX7_reason 13 = .ok (.ldc 229, 2) := by decide +kernel
theorem dX7_reason_15 : decode cX7_reason 15 = .ok (.invokespecial 124, 3) := by decide +kernel
theorem dX7_reason_18 : decode cX7_reason 18 = .ok (.athrow, 1) := by decide +kernel
theorem dX7_reason_19 : decode cX7_reason 19 = .ok (.aload_n 0, 1) := by decide +kernel
theorem dX7_reason_20 : decode cX7_reason 20 = .ok (.getfield 25, 3) := by decide +kernel
theorem dX7_reason_23 : decode cX7_reason 23 = .ok (.getfield 231, 3) := by decide +kernel
theorem dX7_reason_26 : decode cX7_reason 26 = .ok (.ifCond .ne 13, 3) := by decide +kernel
theorem dX7_reason_29 : decode cX7_reason 29 = .ok (.new 163, 3) := by decide +kernel
theorem dX7_reason_32 : decode cX7_reason 32 = .ok (.dup, 1) := by decide +kernel
theorem dX7_reason_33 : decode cX7_reason 33 = .ok (.ldc 236, 2) := by decide +kernel
theorem dX7_reason_35 : decode cX7_reason 35 = .ok (.invokespecial 167, 3) := by decide +kernel
theorem dX7_reason_38 : decode cX7_reason 38 = .ok (.athrow, 1) := by decide +kernel
theorem dX7_reason_39 : decode cX7_reason 39 = .ok (.iload_n 1, 1) := by decide +kernel
theorem dX7_reason_40 : decode cX7_reason 40 = .ok (.ifCond .ne 13, 3) := by decide +kernel
theorem dX7_reason_43 : decode cX7_reason 43 = .ok (.aload_n 0, 1) := by decide +kernel
theorem dX7_reason_44 : decode cX7_reason 44 = .ok (.getfield 25, 3) := by decide +kernel
theorem dX7_reason_47 : decode cX7_reason 47 = .ok (.getfield 231, 3) := by decide +kernel
theorem dX7_reason_50 : decode cX7_reason 50 = .ok (.goto 25, 3) := by decide +kernel
theorem dX7_reason_53 : decode cX7_reason 53 = .ok (.iload_n 1, 1) := by decide +kernel
theorem dX7_reason_54 : decode cX7_reason 54 = .ok (.iconst 1, 1) := by decide +kernel
theorem dX7_reason_55 : decode cX7_reason 55 = .ok (.if_icmp .ne 13, 3) := by decide +kernel
theorem dX7_reason_58 : decode cX7_reason 58 = .ok (.aload_n 0, 1) := by decide +kernel
theorem dX7_reason_59 : decode cX7_reason 59 = .ok (.getfield 25, 3) := by decide +kernel
theorem dX7_reason_62 : decode cX7_reason 62 = .ok (.getfield 238, 3) := by decide +kernel
theorem dX7_reason_65 : decode cX7_reason 65 = .ok (.goto 10, 3) := by decide +kernel
theorem dX7_reason_68 : decode cX7_reason 68 = .ok (.aload_n 0, 1) := by decide +kernel
theorem dX7_reason_69 : decode cX7_reason 69 = .ok (.getfield 25, 3) := by decide +kernel
theorem dX7_reason_72 : decode cX7_reason 72 = .ok (.getfield 241, 3) := by decide +kernel
theorem dX7_reason_75 : decode cX7_reason 75 = .ok (.ireturn, 1) := by decide +kernel
theorem dX7_line_0 : decode cX7_line 0 = .ok (.aload_n 0, 1) := by decide +kernel
theorem dX7_line_1 : decode cX7_line 1 = .ok (.getfield 20, 3) := by decide +kernel
theorem dX7_line_4 : decode cX7_line 4 = .ok (.iload_n 1, 1) := by decide +kernel
theorem dX7_line_5 : decode cX7_line 5 = .ok (.invokevirtual 105, 3) := by decide +kernel
theorem dX7_line_8 : decode cX7_line 8 = .ok (.astore_n 2, 1) := by decide +kernel
theorem dX7_line_9 : decode cX7_line 9 = .ok (.aload_n 2, 1) := by decide +kernel
theorem dX7_line_10 : decode cX7_line 10 = .ok (.ifnonnull 13, 3) := by decide +kernel
theorem dX7_line_13 : decode cX7_line 13 = .ok (.new 109, 3) := by decide +kernel
theorem dX7_line_16 : decode cX7_line 16 = .ok (.dup, 1) := by decide +kernel
theorem dX7_line_17 : decode cX7_line 17 = .ok (.ldc 111, 2) := by decide +kernel
theorem dX7_line_19 : decode cX7_line 19 = .ok (.invokespecial 113, 3) := by decide +kernel
theorem dX7_line_22 : decode cX7_line 22 = .ok (.athrow, 1) := by decide +kernel
theorem dX7_line_23 : decode cX7_line 23 = .ok (.aload_n 0, 1) := by decide +kernel
theorem dX7_line_24 : decode cX7_line 24 = .ok (.getfield 55, 3) := by decide +kernel
theorem dX7_line_27 : decode cX7_line 27 = .ok (.iconst 0, 1) := by decide +kernel
theorem dX7_line_28 : decode cX7_line 28 = .ok (.invokevirtual 244, 3) := by decide +kernel
theorem dX7_line_31 : decode cX7_line 31 = .ok (.aload_n 0, 1) := by decide +kernel
theorem dX7_line_32 : decode cX7_line 32 = .ok (.getfield 55, 3) := by decide +kernel
theorem dX7_line_35 : decode cX7_line 35 = .ok (.iload_n 1, 1) := by decide +kernel
theorem dX7_line_36 : decode cX7_line 36 = .ok (.invokevirtual 248, 3) := by decide +kernel
theorem dX7_line_39 : decode cX7_line 39 = .ok (.bipush 58, 2) := by decide +kernel
theorem dX7_line_41 : decode cX7_line 41 = .ok (.invokevirtual 252, 3) := by decide +kernel
theorem dX7_line_44 : decode cX7_line 44 = .ok (.aload_n 2, 1) := by decide +kernel
theorem dX7_line_45 : decode cX7_line 45 = .ok (.getfield 255, 3) := by decide +kernel
theorem dX7_line_48 : decode cX7_line 48 = .ok (.invokevirtual 248, 3) := by decide +kernel
theorem dX7_line_51 : decode cX7_line 51 = .ok (.bipush 47, 2) := by decide +kernel
theorem dX7_line_53 : decode cX7_line 53 = .ok (.invokevirtual 252, 3) := by decide +kernel
theorem dX7_line_56 : decode cX7_line 56 = .ok (.aload_n 2, 1) := by decide +kernel
theorem dX7_line_57 : decode cX7_line 57 = .ok (.getfield 258, 3) := by decide +kernel
theorem dX7_line_60 : decode cX7_line 60 = .ok (.invokevirtual 248, 3) := by decide +kernel
theorem dX7_line_63 : decode cX7_line 63 = .ok (.pop, 1) := by decide +kernel
theorem dX7_line_64 : decode cX7_line 64 = .ok (.iconst 0, 1) := by decide +kernel
theorem dX7_line_65 : decode cX7_line 65 = .ok (.istore_n 3, 1) := by decide +kernel
theorem dX7_line_66 : decode cX7_line 66 = .ok (.iload_n 3, 1) := by decide +kernel
theorem dX7_line_67 : decode cX7_line 67 = .ok (.aload_n 2, 1) := by decide +kernel
theorem dX7_line_68 : decode cX7_line 68 = .ok (.getfield 261, 3) := by decide +kernel
theorem dX7_line_71 : decode cX7_line 71 = .ok (.if_icmp .ge 19, 3) := by decide +kernel
theorem dX7_line_74 : decode cX7_line 74 = .ok (.aload_n 0, 1) := by decide +kernel
theorem dX7_line_75 : decode cX7_line 75 = .ok (.getfield 55, 3) := by decide +kernel
theorem dX7_line_78 : decode cX7_line 78 = .ok (.bipush 35, 2) := by decide +kernel
theorem dX7_line_80 : decode cX7_line 80 = .ok (.invokevirtual 252, 3) := by decide +kernel
theorem dX7_line_83 : decode cX7_line 83 = .ok (.pop, 1) := by decide +kernel
theorem dX7_line_84 : decode cX7_line 84 = .ok (.iinc 3 3, 3) := by decide +kernel
theorem dX7_line_87 : decode cX7_line 87 = .ok (.goto (-21), 3) := by decide +kernel
theorem dX7_line_90 : decode cX7_line 90 = .ok (.aload_n 2, 1) := by decide +kernel
theorem dX7_line_91 : decode cX7_line 91 = .ok (.aload_n 0, 1) := by decide +kernel
theorem dX7_line_92 : decode cX7_line 92 = .ok (.getfield 55, 3) := by decide +kernel
theorem dX7_line_95 : decode cX7_line 95 = .ok (.invokevirtual 264, 3) := by decide +kernel
theorem dX7_line_98 : decode cX7_line 98 = .ok (.aload_n 0, 1) := by decide +kernel
theorem dX7_line_99 : decode cX7_line 99 = .ok (.getfield 55, 3) := by decide +kernel
theorem dX7_line_102 : decode cX7_line 102 = .ok (.invokevirtual 268, 3) := by decide +kernel
theorem dX7_line_105 : decode cX7_line 105 = .ok (.ireturn, 1) := by decide +kernel
theorem dX7_character_0 : decode cX7_character 0 = .ok (.iload_n 1, 1) := by decide +kernel
theorem dX7_character_1 : decode cX7_character 1 = .ok (.ifCond .lt 14, 3) := by decide +kernel
theorem dX7_character_4 : decode cX7_character 4 = .ok (.iload_n 1, 1) := by decide +kernel
theorem dX7_character_5 : decode cX7_character 5 = .ok (.aload_n 0, 1) := by decide +kernel
theorem dX7_character_6 : decode cX7_character 6 = .ok (.getfield 55, 3) := by decide +kernel
theorem dX7_character_9 : decode cX7_character 9 = .ok (.invokevirtual 268, 3) := by decide +kernel
theorem dX7_character_12 : decode cX7_character 12 = .ok (.if_icmp .lt 14, 3) := by decide +kernel
theorem dX7_character_15 : decode cX7_character 15 = .ok (.new 109, 3) := by decide +kernel
theorem dX7_character_18 : decode cX7_character 18 = .ok (.dup, 1) := by decide +kernel
theorem dX7_character_19 : decode cX7_character 19 = .ok (.ldc_w 270, 3) := by decide +kernel
theorem dX7_character_22 : decode cX7_character 22 = .ok (.invokespecial 113, 3) := by decide +kernel
theorem dX7_character_25 : decode cX7_character 25 = .ok (.athrow, 1) := by decide +kernel
theorem dX7_character_26 : decode cX7_character 26 = .ok (.aload_n 0, 1) := by decide +kernel
theorem dX7_character_27 : decode cX7_character 27 = .ok (.getfield 55, 3) := by decide +kernel
theorem dX7_character_30 : decode cX7_character 30 = .ok (.iload_n 1, 1) := by decide +kernel
theorem dX7_character_31 : decode cX7_character 31 = .ok (.invokevirtual 272, 3) := by decide +kernel
theorem dX7_character_34 : decode cX7_character 34 = .ok (.ireturn, 1) := by decide +kernel
theorem dX7_meanArrears_0 : decode cX7_meanArrears 0 = .ok (.aload_n 0, 1) := by decide +kernel
theorem dX7_meanArrears_1 : decode cX7_meanArrears 1 = .ok (.getfield 20, 3) := by decide +kernel
theorem dX7_meanArrears_4 : decode cX7_meanArrears 4 = .ok (.getfield 174, 3) := by decide +kernel
theorem dX7_meanArrears_7 : decode cX7_meanArrears 7 = .ok (.ifCond .ne 14, 3) := by decide +kernel
theorem dX7_meanArrears_10 : decode cX7_meanArrears 10 = .ok (.new 276, 3) := by decide +kernel
theorem dX7_meanArrears_13 : decode cX7_meanArrears 13 = .ok (.dup, 1) := by decide +kernel
theorem dX7_meanArrears_14 : decode cX7_meanArrears 14 = .ok (.ldc_w 278, 3) := by decide +kernel
theorem dX7_meanArrears_17 : decode cX7_meanArrears 17 = .ok (.invokespecial 280, 3) := by decide +kernel
theorem dX7_meanArrears_20 : decode cX7_meanArrears 20 = .ok (.athrow, 1) := by decide +kernel
theorem dX7_meanArrears_21 : decode cX7_meanArrears 21 = .ok (.aload_n 0, 1) := by decide +kernel
theorem dX7_meanArrears_22 : decode cX7_meanArrears 22 = .ok (.getfield 20, 3) := by decide +kernel
theorem dX7_meanArrears_25 : decode cX7_meanArrears 25 = .ok (.iconst 4, 1) := by decide +kernel
theorem dX7_meanArrears_26 : decode cX7_meanArrears 26 = .ok (.invokevirtual 281, 3) := by decide +kernel
theorem dX7_meanArrears_29 : decode cX7_meanArrears 29 = .ok (.i2f, 1) := by decide +kernel
theorem dX7_meanArrears_30 : decode cX7_meanArrears 30 = .ok (.aload_n 0, 1) := by decide +kernel
theorem dX7_meanArrears_31 : decode cX7_meanArrears 31 = .ok (.getfield 20, 3) := by decide +kernel
theorem dX7_meanArrears_34 : decode cX7_meanArrears 34 = .ok (.getfield 174, 3) := by decide +kernel
theorem dX7_meanArrears_37 : decode cX7_meanArrears 37 = .ok (.i2f, 1) := by decide +kernel
theorem dX7_meanArrears_38 : decode cX7_meanArrears 38 = .ok (.fdiv, 1) := by decide +kernel
theorem dX7_meanArrears_39 : decode cX7_meanArrears 39 = .ok (.freturn, 1) := by decide +kernel
theorem dX7_paidShare_0 : decode cX7_paidShare 0 = .ok (.aload_n 0, 1) := by decide +kernel
theorem dX7_paidShare_1 : decode cX7_paidShare 1 = .ok (.getfield 20, 3) := by decide +kernel
theorem dX7_paidShare_4 : decode cX7_paidShare 4 = .ok (.invokevirtual 188, 3) := by decide +kernel
theorem dX7_paidShare_7 : decode cX7_paidShare 7 = .ok (.istore_n 1, 1) := by decide +kernel
theorem dX7_paidShare_8 : decode cX7_paidShare 8 = .ok (.iload_n 1, 1) := by decide +kernel
theorem dX7_paidShare_9 : decode cX7_paidShare 9 = .ok (.ifCond .ne 14, 3) := by decide +kernel
theorem dX7_paidShare_12 : decode cX7_paidShare 12 = .ok (.new 276, 3) := by decide +kernel
theorem dX7_paidShare_15 : decode cX7_paidShare 15 = .ok (.dup, 1) := by decide +kernel
theorem dX7_paidShare_16 : decode cX7_paidShare 16 = .ok (.ldc_w 284, 3) := by decide +kernel
theorem dX7_paidShare_19 : decode cX7_paidShare 19 = .ok (.invokespecial 280, 3) := by decide +kernel
theorem dX7_paidShare_22 : decode cX7_paidShare 22 = .ok (.athrow, 1) := by decide +kernel
theorem dX7_paidShare_23 : decode cX7_paidShare 23 = .ok (.aload_n 0, 1) := by decide +kernel
theorem dX7_paidShare_24 : decode cX7_paidShare 24 = .ok (.getfield 20, 3) := by decide +kernel
theorem dX7_paidShare_27 : decode cX7_paidShare 27 = .ok (.getfield 286, 3) := by decide +kernel
theorem dX7_paidShare_30 : decode cX7_paidShare 30 = .ok (.i2d, 1) := by decide +kernel
theorem dX7_paidShare_31 : decode cX7_paidShare 31 = .ok (.iload_n 1, 1) := by decide +kernel
theorem dX7_paidShare_32 : decode cX7_paidShare 32 = .ok (.i2d, 1) := by decide +kernel
theorem dX7_paidShare_33 : decode cX7_paidShare 33 = .ok (.ddiv, 1) := by decide +kernel
theorem dX7_paidShare_34 : decode cX7_paidShare 34 = .ok (.dreturn, 1) := by decide +kernel
theorem dX7_account_0 : decode cX7_account 0 = .ok (.iload_n 1, 1) := by decide +kernel
theorem dX7_account_1 : decode cX7_account 1 = .ok (.iconst 0, 1) := by decide +kernel
theorem dX7_account_2 : decode cX7_account 2 = .ok (.bipush 15, 2) := by decide +kernel
theorem dX7_account_4 : decode cX7_account 4 = .ok (.invokestatic 116, 3) := by decide +kernel
theorem dX7_account_7 : decode cX7_account 7 = .ok (.ifCond .eq 14, 3) := by decide +kernel
theorem dX7_account_10 : decode cX7_account 10 = .ok (.new 120, 3) := by decide +kernel
theorem dX7_account_13 : decode cX7_account 13 = .ok (.dup, 1) := by decide +kernel
theorem dX7_account_14 : decode cX7_account 14 = .ok (.ldc_w 289, 3) := by decide +kernel
theorem dX7_account_17 : decode cX7_account 17 = .ok (.invokespecial 124, 3) := by decide +kernel
theorem dX7_account_20 : decode cX7_account 20 = .ok (.athrow, 1) := by decide +kernel
theorem dX7_account_21 : decode cX7_account 21 = .ok (.iload_n 1, 1) := by decide +kernel
theorem dX7_account_22 : decode cX7_account 22 = .ok (.bipush 14, 2) := by decide +kernel
theorem dX7_account_24 : decode cX7_account 24 = .ok (.if_icmp .ne 11, 3) := by decide +kernel
theorem dX7_account_27 : decode cX7_account 27 = .ok (.aload_n 0, 1) := by decide +kernel
theorem dX7_account_28 : decode cX7_account 28 = .ok (.getfield 31, 3) := by decide +kernel
theorem dX7_account_31 : decode cX7_account 31 = .ok (.getfield 291, 3) := by decide +kernel
theorem dX7_account_34 : decode cX7_account 34 = .ok (.ireturn, 1) := by decide +kernel
theorem dX7_account_35 : decode cX7_account 35 = .ok (.iload_n 1, 1) := by decide +kernel
theorem dX7_account_36 : decode cX7_account 36 = .ok (.bipush 15, 2) := by decide +kernel
theorem dX7_account_38 : decode cX7_account 38 = .ok (.if_icmp .ne 11, 3) := by decide +kernel
theorem dX7_account_41 : decode cX7_account 41 = .ok (.aload_n 0, 1) := by decide +kernel
theorem dX7_account_42 : decode cX7_account 42 = .ok (.getfield 44, 3) := by decide +kernel
theorem dX7_account_45 : decode cX7_account 45 = .ok (.getfield 191, 3) := by decide +kernel
theorem dX7_account_48 : decode cX7_account 48 = .ok (.ireturn, 1) := by decide +kernel
theorem dX7_account_49 : decode cX7_account 49 = .ok (.aload_n 0, 1) := by decide +kernel
theorem dX7_account_50 : decode cX7_account 50 = .ok (.getfield 20, 3) := by decide +kernel
theorem dX7_account_53 : decode cX7_account 53 = .ok (.iload_n 1, 1) := by decide +kernel
theorem dX7_account_54 : decode cX7_account 54 = .ok (.invokevirtual 292, 3) := by decide +kernel
theorem dX7_account_57 : decode cX7_account 57 = .ok (.ireturn, 1) := by decide +kernel
theorem dX7_undo_0 : decode cX7_undo 0 = .ok (.aload_n 0, 1) := by decide +kernel
theorem dX7_undo_1 : decode cX7_undo 1 = .ok (.getfield 31, 3) := by decide +kernel
theorem dX7_undo_4 : decode cX7_undo 4 = .ok (.getfield 291, 3) := by decide +kernel
theorem dX7_undo_7 : decode cX7_undo 7 = .ok (.ifCond .ne 14, 3) := by decide +kernel
theorem dX7_undo_10 : decode cX7_undo 10 = .ok (.new 194, 3) := by decide +kernel
theorem dX7_undo_13 : decode cX7_undo 13 = .ok (.dup, 1) := by decide +kernel
theorem dX7_undo_14 : decode cX7_undo 14 = .ok (.ldc_w 293, 3) := by decide +kernel
theorem dX7_undo_17 : decode cX7_undo 17 = .ok (.invokespecial 198, 3) := by decide +kernel
theorem dX7_undo_20 : decode cX7_undo 20 = .ok (.athrow, 1) := by decide +kernel
theorem dX7_undo_21 : decode cX7_undo 21 = .ok (.aload_n 0, 1) := by decide +kernel
theorem dX7_undo_22 : decode cX7_undo 22 = .ok (.getfield 31, 3) := by decide +kernel
theorem dX7_undo_25 : decode cX7_undo 25 = .ok (.aload_n 0, 1) := by decide +kernel
theorem dX7_undo_26 : decode cX7_undo 26 = .ok (.getfield 20, 3) := by decide +kernel
theorem dX7_undo_29 : decode cX7_undo 29 = .ok (.invokevirtual 295, 3) := by decide +kernel
theorem dX7_undo_32 : decode cX7_undo 32 = .ok (.aload_n 0, 1) := by decide +kernel
theorem dX7_undo_33 : decode cX7_undo 33 = .ok (.getfield 31, 3) := by decide +kernel
theorem dX7_undo_36 : decode cX7_undo 36 = .ok (.getfield 291, 3) := by decide +kernel
theorem dX7_undo_39 : decode cX7_undo 39 = .ok (.ireturn, 1) := by decide +kernel
theorem dX7_save_0 : decode cX7_save 0 = .ok (.aload_n 0, 1) := by decide +kernel
theorem dX7_save_1 : decode cX7_save 1 = .ok (.getfield 38, 3) := by decide +kernel
theorem dX7_save_4 : decode cX7_save 4 = .ok (.aload_n 0, 1) := by decide +kernel
theorem dX7_save_5 : decode cX7_save 5 = .ok (.getfield 20, 3) := by decide +kernel
theorem dX7_save_8 : decode cX7_save 8 = .ok (.invokevirtual 298, 3) := by decide +kernel
theorem dX7_save_11 : decode cX7_save 11 = .ok (.aload_n 0, 1) := by decide +kernel
theorem dX7_save_12 : decode cX7_save 12 = .ok (.iconst 1, 1) := by decide +kernel
theorem dX7_save_13 : decode cX7_save 13 = .ok (.putfield 301, 3) := by decide +kernel
theorem dX7_save_16 : decode cX7_save 16 = .ok (.aload_n 0, 1) := by decide +kernel
theorem dX7_save_17 : decode cX7_save 17 = .ok (.getfield 20, 3) := by decide +kernel
theorem dX7_save_20 : decode cX7_save 20 = .ok (.getfield 305, 3) := by decide +kernel
theorem dX7_save_23 : decode cX7_save 23 = .ok (.ireturn, 1) := by decide +kernel
theorem dX7_restore_0 : decode cX7_restore 0 = .ok (.aload_n 0, 1) := by decide +kernel
theorem dX7_restore_1 : decode cX7_restore 1 = .ok (.getfield 301, 3) := by decide +kernel
theorem dX7_restore_4 : decode cX7_restore 4 = .ok (.ifCond .ne 14, 3) := by decide +kernel
theorem dX7_restore_7 : decode cX7_restore 7 = .ok (.new 194, 3) := by decide +kernel
theorem dX7_restore_10 : decode cX7_restore 10 = .ok (.dup, 1) := by decide +kernel
theorem dX7_restore_11 : decode cX7_restore 11 = .ok (.ldc_w 308, 3) := by decide +kernel
theorem dX7_restore_14 : decode cX7_restore 14 = .ok (.invokespecial 198, 3) := by decide +kernel
theorem dX7_restore_17 : decode cX7_restore 17 = .ok (.athrow, 1) := by decide +kernel
theorem dX7_restore_18 : decode cX7_restore 18 = .ok (.aload_n 0, 1) := by decide +kernel
theorem dX7_restore_19 : decode cX7_restore 19 = .ok (.getfield 20, 3) := by decide +kernel
theorem dX7_restore_22 : decode cX7_restore 22 = .ok (.aload_n 0, 1) := by decide +kernel
theorem dX7_restore_23 : decode cX7_restore 23 = .ok (.getfield 38, 3) := by decide +kernel
theorem dX7_restore_26 : decode cX7_restore 26 = .ok (.invokevirtual 298, 3) := by decide +kernel
theorem dX7_restore_29 : decode cX7_restore 29 = .ok (.aload_n 0, 1) := by decide +kernel
theorem dX7_restore_30 : decode cX7_restore 30 = .ok (.getfield 31, 3) := by decide +kernel
theorem dX7_restore_33 : decode cX7_restore 33 = .ok (.invokevirtual 310, 3) := by decide +kernel
theorem dX7_restore_36 : decode cX7_restore 36 = .ok (.aload_n 0, 1) := by decide +kernel
theorem dX7_restore_37 : decode cX7_restore 37 = .ok (.getfield 20, 3) := by decide +kernel
theorem dX7_restore_40 : decode cX7_restore 40 = .ok (.getfield 305, 3) := by decide +kernel
theorem dX7_restore_43 : decode cX7_restore 43 = .ok (.ireturn, 1) := by decide +kernel
theorem dX7_settled_0 : decode cX7_settled 0 = .ok (.iload_n 1, 1) := by decide +kernel
theorem dX7_settled_1 : decode cX7_settled 1 = .ok (.iconst (-1), 1) := by decide +kernel
theorem dX7_settled_2 : decode cX7_settled 2 = .ok (.if_icmp .ne 14, 3) := by decide +kernel
theorem dX7_settled_5 : decode cX7_settled 5 = .ok (.new 218, 3) := by decide +kernel
theorem dX7_settled_8 : decode cX7_settled 8 = .ok (.dup, 1) := by decide +kernel
theorem dX7_settled_9 : decode cX7_settled 9 = .ok (.ldc_w 313, 3) := by decide +kernel
theorem dX7_settled_12 : decode cX7_settled 12 = .ok (.invokespecial 222, 3) := by decide +kernel
theorem dX7_settled_15 : decode cX7_settled 15 = .ok (.athrow, 1) := by decide +kernel
theorem dX7_settled_16 : decode cX7_settled 16 = .ok (.aload_n 0, 1) := by decide +kernel
theorem dX7_settled_17 : decode cX7_settled 17 = .ok (.getfield 31, 3) := by decide +kernel
theorem dX7_settled_20 : decode cX7_settled 20 = .ok (.invokevirtual 223, 3) := by decide +kernel
theorem dX7_settled_23 : decode cX7_settled 23 = .ok (.iload_n 1, 1) := by decide +kernel
theorem dX7_settled_24 : decode cX7_settled 24 = .ok (.ireturn, 1) := by decide +kernel
theorem dX7_allCarriedOut_0 : decode cX7_allCarriedOut 0 = .ok (.iconst 0, 1) := by decide +kernel
theorem dX7_allCarriedOut_1 : decode cX7_allCarriedOut 1 = .ok (.istore_n 1, 1) := by decide +kernel
theorem dX7_allCarriedOut_2 : decode cX7_allCarriedOut 2 = .ok (.iload_n 1, 1) := by decide +kernel
theorem dX7_allCarriedOut_3 : decode cX7_allCarriedOut 3 = .ok (.aload_n 0, 1) := by decide +kernel
theorem dX7_allCarriedOut_4 : decode cX7_allCarriedOut 4 = .ok (.getfield 44, 3) := by decide +kernel
theorem dX7_allCarriedOut_7 : decode cX7_allCarriedOut 7 = .ok (.getfield 226, 3) := by decide +kernel
theorem dX7_allCarriedOut_10 : decode cX7_allCarriedOut 10 = .ok (.if_icmp .ge 63, 3) := by decide +kernel
theorem dX7_allCarriedOut_13 : decode cX7_allCarriedOut 13 = .ok (.iload_n 1, 1) := by decide +kernel
theorem dX7_allCarriedOut_14 : decode cX7_allCarriedOut 14 = .ok (.bipush 30, 2) := by decide +kernel
theorem dX7_allCarriedOut_16 : decode cX7_allCarriedOut 16 = .ok (.if_icmp .ge 57, 3) := by decide +kernel
theorem dX7_allCarriedOut_19 : decode cX7_allCarriedOut 19 = .ok (.aload_n 0, 1) := by decide +kernel
theorem dX7_allCarriedOut_20 : decode cX7_allCarriedOut 20 = .ok (.getfield 10, 3) := by decide +kernel
theorem dX7_allCarriedOut_23 : decode cX7_allCarriedOut 23 = .ok (.aload_n 0, 1) := by decide +kernel
theorem dX7_allCarriedOut_24 : decode cX7_allCarriedOut 24 = .ok (.getfield 44, 3) := by decide +kernel
theorem dX7_allCarriedOut_27 : decode cX7_allCarriedOut 27 = .ok (.getfield 315, 3) := by decide +kernel
theorem dX7_allCarriedOut_30 : decode cX7_allCarriedOut 30 = .ok (.iload_n 1, 1) := by decide +kernel
theorem dX7_allCarriedOut_31 : decode cX7_allCarriedOut 31 = .ok (.iaload, 1) := by decide +kernel
theorem dX7_allCarriedOut_32 : decode cX7_allCarriedOut 32 = .ok (.aload_n 0, 1) := by decide +kernel
theorem dX7_allCarriedOut_33 : decode cX7_allCarriedOut 33 = .ok (.getfield 44, 3) := by decide +kernel
theorem dX7_allCarriedOut_36 : decode cX7_allCarriedOut 36 = .ok (.getfield 318, 3) := by decide +kernel
theorem dX7_allCarriedOut_39 : decode cX7_allCarriedOut 39 = .ok (.iload_n 1, 1) := by decide +kernel
theorem dX7_allCarriedOut_40 : decode cX7_allCarriedOut 40 = .ok (.iaload, 1) := by decide +kernel
theorem dX7_allCarriedOut_41 : decode cX7_allCarriedOut 41 = .ok (.aload_n 0, 1) := by decide +kernel
theorem dX7_allCarriedOut_42 : decode cX7_allCarriedOut 42 = .ok (.getfield 44, 3) := by decide +kernel
theorem dX7_allCarriedOut_45 : decode cX7_allCarriedOut 45 = .ok (.getfield 321, 3) := by decide +kernel
theorem dX7_allCarriedOut_48 : decode cX7_allCarriedOut 48 = .ok (.iload_n 1, 1) := by decide +kernel
theorem dX7_allCarriedOut_49 : decode cX7_allCarriedOut 49 = .ok (.iaload, 1) := by decide +kernel
theorem dX7_allCarriedOut_50 : decode cX7_allCarriedOut 50 = .ok (.invokevirtual 324, 3) := by decide +kernel
theorem dX7_allCarriedOut_53 : decode cX7_allCarriedOut 53 = .ok (.iconst (-1), 1) := by decide +kernel
theorem dX7_allCarriedOut_54 : decode cX7_allCarriedOut 54 = .ok (.if_icmp .ne 13, 3) := by decide +kernel
theorem dX7_allCarriedOut_57 : decode cX7_allCarriedOut 57 = .ok (.aload_n 0, 1) := by decide +kernel
theorem dX7_allCarriedOut_58 : decode cX7_allCarriedOut 58 = .ok (.getfield 25, 3) := by decide +kernel
theorem dX7_allCarriedOut_61 : decode cX7_allCarriedOut 61 = .ok (.iload_n 1, 1) := by decide +kernel
theorem dX7_allCarriedOut_62 : decode cX7_allCarriedOut 62 = .ok (.putfield 241, 3) := by decide +kernel
theorem dX7_allCarriedOut_65 : decode cX7_allCarriedOut 65 = .ok (.iconst 0, 1) := by decide +kernel
theorem dX7_allCarriedOut_66 : decode cX7_allCarriedOut 66 = .ok (.ireturn, 1) := by decide +kernel
theorem dX7_allCarriedOut_67 : decode cX7_allCarriedOut 67 = .ok (.iinc 1 1, 3) := by decide +kernel
theorem dX7_allCarriedOut_70 : decode cX7_allCarriedOut 70 = .ok (.goto (-68), 3) := by decide +kernel
theorem dX7_allCarriedOut_73 : decode cX7_allCarriedOut 73 = .ok (.iconst 1, 1) := by decide +kernel
theorem dX7_allCarriedOut_74 : decode cX7_allCarriedOut 74 = .ok (.ireturn, 1) := by decide +kernel
theorem dX7_isOutside_0 : decode cX7_isOutside 0 = .ok (.iload_n 0, 1) := by decide +kernel
theorem dX7_isOutside_1 : decode cX7_isOutside 1 = .ok (.iload_n 1, 1) := by decide +kernel
theorem dX7_isOutside_2 : decode cX7_isOutside 2 = .ok (.if_icmp .lt 8, 3) := by decide +kernel
theorem dX7_isOutside_5 : decode cX7_isOutside 5 = .ok (.iload_n 0, 1) := by decide +kernel
theorem dX7_isOutside_6 : decode cX7_isOutside 6 = .ok (.iload_n 2, 1) := by decide +kernel
theorem dX7_isOutside_7 : decode cX7_isOutside 7 = .ok (.if_icmp .le 7, 3) := by decide +kernel
theorem dX7_isOutside_10 : decode cX7_isOutside 10 = .ok (.iconst 1, 1) := by decide +kernel
theorem dX7_isOutside_11 : decode cX7_isOutside 11 = .ok (.goto 4, 3) := by decide +kernel
theorem dX7_isOutside_14 : decode cX7_isOutside 14 = .ok (.iconst 0, 1) := by decide +kernel
theorem dX7_isOutside_15 : decode cX7_isOutside 15 = .ok (.ireturn, 1) := by decide +kernel
theorem dX8_init_0 : decode cX8_init 0 = .ok (.aload_n 0, 1) := by decide +kernel
theorem dX8_init_1 : decode cX8_init 1 = .ok (.invokespecial 3, 3) := by decide +kernel
theorem dX8_init_4 : decode cX8_init 4 = .ok (.aload_n 0, 1) := by decide +kernel
theorem dX8_init_5 : decode cX8_init 5 = .ok (.bipush 102, 2) := by decide +kernel
theorem dX8_init_7 : decode cX8_init 7 = .ok (.newarray .int, 2) := by decide +kernel
theorem dX8_init_9 : decode cX8_init 9 = .ok (.putfield 9, 3) := by decide +kernel
theorem dX8_init_12 : decode cX8_init 12 = .ok (.aload_n 0, 1) := by decide +kernel
theorem dX8_init_13 : decode cX8_init 13 = .ok (.bipush 102, 2) := by decide +kernel
theorem dX8_init_15 : decode cX8_init 15 = .ok (.newarray .int, 2) := by decide +kernel
theorem dX8_init_17 : decode cX8_init 17 = .ok (.putfield 13, 3) := by decide +kernel
theorem dX8_init_20 : decode cX8_init 20 = .ok (.aload_n 0, 1) := by decide +kernel
theorem dX8_init_21 : decode cX8_init 21 = .ok (.bipush 102, 2) := by decide +kernel
theorem dX8_init_23 : decode cX8_init 23 = .ok (.newarray .int, 2) := by decide +kernel
theorem dX8_init_25 : decode cX8_init 25 = .ok (.putfield 16, 3) := by decide +kernel
theorem dX8_init_28 : decode cX8_init 28 = .ok (.aload_n 0, 1) := by decide +kernel
theorem dX8_init_29 : decode cX8_init 29 = .ok (.sipush 816, 3) := by decide +kernel
theorem dX8_init_32 : decode cX8_init 32 = .ok (.newarray .int, 2) := by decide +kernel
theorem dX8_init_34 : decode cX8_init 34 = .ok (.putfield 19, 3) := by decide +kernel
theorem dX8_init_37 : decode cX8_init 37 = .ok (.aload_n 0, 1) := by decide +kernel
theorem dX8_init_38 : decode cX8_init 38 = .ok (.bipush 60, 2) := by decide +kernel
theorem dX8_init_40 : decode cX8_init 40 = .ok (.newarray .int, 2) := by decide +kernel
theorem dX8_init_42 : decode cX8_init 42 = .ok (.putfield 22, 3) := by decide +kernel
theorem dX8_init_45 : decode cX8_init 45 = .ok (.aload_n 0, 1) := by decide +kernel
theorem dX8_init_46 : decode cX8_init 46 = .ok (.iconst (-1), 1) := by decide +kernel
theorem dX8_init_47 : decode cX8_init 47 = .ok (.putfield 25, 3) := by decide +kernel
theorem dX8_init_50 : decode cX8_init 50 = .ok (.aload_n 0, 1) := by decide +kernel
theorem dX8_init_51 : decode cX8_init 51 = .ok (.bipush 40, 2) := by decide +kernel
theorem dX8_init_53 : decode cX8_init 53 = .ok (.newarray .int, 2) := by decide +kernel
theorem dX8_init_55 : decode cX8_init 55 = .ok (.putfield 29, 3) := by decide +kernel
theorem dX8_init_58 : decode cX8_init 58 = .ok (.aload_n 0, 1) := by decide +kernel
theorem dX8_init_59 : decode cX8_init 59 = .ok (.bipush 32, 2) := by decide +kernel
theorem dX8_init_61 : decode cX8_init 61 = .ok (.newarray .int, 2) := by decide +kernel
theorem dX8_init_63 : decode cX8_init 63 = .ok (.putfield 32, 3) := by decide +kernel
theorem dX8_init_66 : decode cX8_init 66 = .ok (.aload_n 0, 1) := by decide +kernel
theorem dX8_init_67 : decode cX8_init 67 = .ok (.bipush 64, 2) := by decide +kernel
theorem dX8_init_69 : decode cX8_init 69 = .ok (.newarray .int, 2) := by decide +kernel
theorem dX8_init_71 : decode cX8_init 71 = .ok (.putfield 35, 3) := by decide +kernel
theorem dX8_init_74 : decode cX8_init 74 = .ok (.aload_n 0, 1) := by decide +kernel
theorem dX8_init_75 : decode cX8_init 75 = .ok (.getfield 9, 3) := by decide +kernel
theorem dX8_init_78 : decode cX8_init 78 = .ok (.iconst 5, 1) := by decide +kernel
theorem dX8_init_79 : decode cX8_init 79 = .ok (.bipush 100, 2) := by decide +kernel
theorem dX8_init_81 : decode cX8_init 81 = .ok (.iastore, 1) := by decide +kernel
theorem dX8_init_82 : decode cX8_init 82 = .ok (.aload_n 0, 1) := by decide +kernel
theorem dX8_init_83 : decode cX8_init 83 = .ok (.getfield 9, 3) := by decide +kernel
theorem dX8_init_86 : decode cX8_init 86 = .ok (.bipush 6, 2) := by decide +kernel
theorem dX8_init_88 : decode cX8_init 88 = .ok (.bipush 20, 2) := by decide +kernel
theorem dX8_init_90 : decode cX8_init 90 = .ok (.iastore, 1) := by decide +kernel
theorem dX8_init_91 : decode cX8_init 91 = .ok (.aload_n 0, 1) := by decide +kernel
theorem dX8_init_92 : decode cX8_init 92 = .ok (.getfield 9, 3) := by decide +kernel
theorem dX8_init_95 : decode cX8_init 95 = .ok (.bipush 8, 2) := by decide +kernel
theorem dX8_init_97 : decode cX8_init 97 = .ok (.iconst 3, 1) := by decide +kernel
theorem dX8_init_98 : decode cX8_init 98 = .ok (.iastore, 1) := by decide +kernel
theorem dX8_init_99 : decode cX8_init 99 = .ok (.return_, 1) := by decide +kernel
theorem dX8_thrown_0 : decode cX8_thrown 0 = .ok (.aload_n 0, 1) := by decide +kernel
theorem dX8_thrown_1 : decode cX8_thrown 1 = .ok (.getfield 38, 3) := by decide +kernel
theorem dX8_thrown_4 : decode cX8_thrown 4 = .ok (.ireturn, 1) := by decide +kernel
theorem dX8_isIn_0 : decode cX8_isIn 0 = .ok (.iload_n 0, 1) := by decide +kernel
theorem dX8_isIn_1 : decode cX8_isIn 1 = .ok (.iload_n 1, 1) := by decide +kernel
theorem dX8_isIn_2 : decode cX8_isIn 2 = .ok (.if_icmp .lt 12, 3) := by decide +kernel
theorem dX8_isIn_5 : decode cX8_isIn 5 = .ok (.iload_n 0, 1) := by decide +kernel
theorem dX8_isIn_6 : decode cX8_isIn 6 = .ok (.iload_n 2, 1) := by decide +kernel
theorem dX8_isIn_7 : decode cX8_isIn 7 = .ok (.if_icmp .gt 7, 3) := by decide +kernel
theorem dX8_isIn_10 : decode cX8_isIn 10 = .ok (.iconst 1, 1) := by decide +kernel
theorem dX8_isIn_11 : decode cX8_isIn 11 = .ok (.goto 4, 3) := by decide +kernel
theorem dX8_isIn_14 : decode cX8_isIn 14 = .ok (.iconst 0, 1) := by decide +kernel
theorem dX8_isIn_15 : decode cX8_isIn 15 = .ok (.ireturn, 1) := by decide +kernel
theorem dX8_copies_0 : decode cX8_copies 0 = .ok (.iconst 0, 1) := by decide +kernel
theorem dX8_copies_1 : decode cX8_copies 1 = .ok (.istore 4, 2) := by decide +kernel
theorem dX8_copies_3 : decode cX8_copies 3 = .ok (.iload 4, 2) := by decide +kernel
theorem dX8_copies_5 : decode cX8_copies 5 = .ok (.bipush 102, 2) := by decide +kernel
theorem dX8_copies_7 : decode cX8_copies 7 = .ok (.if_icmp .ge 21, 3) := by decide +kernel
theorem dX8_copies_10 : decode cX8_copies 10 = .ok (.aload_n 2, 1) := by decide +kernel
theorem dX8_copies_11 : decode cX8_copies 11 = .ok (.iload_n 3, 1) := by decide +kernel
theorem dX8_copies_12 : decode cX8_copies 12 = .ok (.iload 4, 2) := by decide +kernel
theorem dX8_copies_14 : decode cX8_copies 14 = .ok (.iadd, 1) := by decide +kernel
theorem dX8_copies_15 : decode cX8_copies 15 = .ok (.aload_n 0, 1) := by decide +kernel
theorem dX8_copies_16 : decode cX8_copies 16 = .ok (.iload_n 1, 1) := by decide +kernel
theorem dX8_copies_17 : decode cX8_copies 17 = .ok (.iload 4, 2) := by decide +kernel
theorem dX8_copies_19 : decode cX8_copies 19 = .ok (.iadd, 1) := by decide +kernel
theorem dX8_copies_20 : decode cX8_copies 20 = .ok (.iaload, 1) := by decide +kernel
theorem dX8_copies_21 : decode cX8_copies 21 = .ok (.iastore, 1) := by decide +kernel
theorem dX8_copies_22 : decode cX8_copies 22 = .ok (.iinc 4 1, 3) := by decide +kernel
theorem dX8_copies_25 : decode cX8_copies 25 = .ok (.goto (-22), 3) := by decide +kernel
theorem dX8_copies_28 : decode cX8_copies 28 = .ok (.return_, 1) := by decide +kernel
theorem dX8_hinders_0 : decode cX8_hinders 0 = .ok (.iload_n 1, 1) := by decide +kernel
theorem dX8_hinders_1 : decode cX8_hinders 1 = .ok (.ifCond .eq 20, 3) := by decide +kernel
theorem dX8_hinders_4 : decode cX8_hinders 4 = .ok (.aload_n 0, 1) := by decide +kernel
theorem dX8_hinders_5 : decode cX8_hinders 5 = .ok (.getfield 41, 3) := by decide +kernel
theorem dX8_hinders_8 : decode cX8_hinders 8 = .ok (.ifCond .ne 13, 3) := by decide +kernel
theorem dX8_hinders_11 : decode cX8_hinders 11 = .ok (.aload_n 0, 1) := by decide +kernel
theorem dX8_hinders_12 : decode cX8_hinders 12 = .ok (.iload_n 2, 1) := by decide +kernel
theorem dX8_hinders_13 : decode cX8_hinders 13 = .ok (.putfield 41, 3) := by decide +kernel
theorem dX8_hinders_16 : decode cX8_hinders 16 = .ok (.aload_n 0, 1) := by decide +kernel
theorem dX8_hinders_17 : decode cX8_hinders 17 = .ok (.iload_n 3, 1) := by decide +kernel
theorem dX8_hinders_18 : decode cX8_hinders 18 = .ok (.putfield 44, 3) := by decide +kernel
theorem dX8_hinders_21 : decode cX8_hinders 21 = .ok (.return_, 1) := by decide +kernel
theorem dX8_begins_0 : decode cX8_begins 0 = .ok (.aload_n 0, 1) := by decide +kernel
theorem dX8_begins_1 : decode cX8_begins 1 = .ok (.getfield 9, 3) := by decide +kernel
theorem dX8_begins_4 : decode cX8_begins 4 = .ok (.iconst 0, 1) := by decide +kernel
theorem dX8_begins_5 : decode cX8_begins 5 = .ok (.aload_n 0, 1) := by decide +kernel
theorem dX8_begins_6 : decode cX8_begins 6 = .ok (.getfield 13, 3) := by decide +kernel
theorem dX8_begins_9 : decode cX8_begins 9 = .ok (.iconst 0, 1) := by decide +kernel
theorem dX8_begins_10 : decode cX8_begins 10 = .ok (.invokestatic 47, 3) := by decide +kernel
theorem dX8_begins_13 : decode cX8_begins 13 = .ok (.aload_n 0, 1) := by decide +kernel
theorem dX8_begins_14 : decode cX8_begins 14 = .ok (.iconst 0, 1) := by decide +kernel
theorem dX8_begins_15 : decode cX8_begins 15 = .ok (.putfield 41, 3) := by decide +kernel
theorem dX8_begins_18 : decode cX8_begins 18 = .ok (.return_, 1) := by decide +kernel
theorem dX8_remembers_0 : decode cX8_remembers 0 = .ok (.aload_n 0, 1) := by decide +kernel
theorem dX8_remembers_1 : decode cX8_remembers 1 = .ok (.getfield 51, 3) := by decide +kernel
theorem dX8_remembers_4 : decode cX8_remembers 4 = .ok (.bipush 8, 2) := by decide +kernel
theorem dX8_remembers_6 : decode cX8_remembers 6 = .ok (.if_icmp .ne 43, 3) := by decide +kernel
theorem dX8_remembers_9 : decode cX8_remembers 9 = .ok (.iconst 0, 1) := by decide +kernel
theorem dX8_remembers_10 : decode cX8_remembers 10 = .ok (.istore_n 1, 1) := by decide +kernel
theorem dX8_remembers_11 : decode cX8_remembers 11 = .ok (.iload_n 1, 1) := by decide +kernel
theorem dX8_remembers_12 : decode cX8_remembers 12 = .ok (.sipush 714, 3) := by decide +kernel
theorem dX8_remembers_15 : decode cX8_remembers 15 = .ok (.if_icmp .ge 24, 3) := by decide +kernel
theorem dX8_remembers_18 : decode cX8_remembers 18 = .ok (.aload_n 0, 1) := by decide +kernel
theorem dX8_remembers_19 : decode cX8_remembers 19 = .ok (.getfield 19, 3) := by decide +kernel
theorem dX8_remembers_22 : decode cX8_remembers 22 = .ok (.iload_n 1, 1) := by decide +kernel
theorem dX8_remembers_23 : decode cX8_remembers 23 = .ok (.aload_n 0, 1) := by decide +kernel
theorem dX8_remembers_24 : decode cX8_remembers 24 = .ok (.getfield 19, 3) := by decide +kernel
theorem dX8_remembers_27 : decode cX8_remembers 27 = .ok (.iload_n 1, 1) := by decide +kernel
theorem dX8_remembers_28 : decode cX8_remembers 28 = .ok (.bipush 102, 2) := by decide +kernel
theorem dX8_remembers_30 : decode cX8_remembers 30 = .ok (.iadd, 1) := by decide +kernel
theorem dX8_remembers_31 : decode cX8_remembers 31 = .ok (.iaload, 1) := by decide +kernel
theorem dX8_remembers_32 : decode cX8_remembers 32 = .ok (.iastore, 1) := by decide +kernel
theorem dX8_remembers_33 : decode cX8_remembers 33 = .ok (.iinc 1 1, 3) := by decide +kernel
theorem dX8_remembers_36 : decode cX8_remembers 36 = .ok (.goto (-25), 3) := by decide +kernel
theorem dX8_remembers_39 : decode cX8_remembers 39 = .ok (.aload_n 0, 1) := by decide +kernel
theorem dX8_remembers_40 : decode cX8_remembers 40 = .ok (.dup, 1) := by decide +kernel
theorem dX8_remembers_41 : decode cX8_remembers 41 = .ok (.getfield 51, 3) := by decide +kernel
theorem dX8_remembers_44 : decode cX8_remembers 44 = .ok (.iconst 1, 1) := by decide +kernel
theorem dX8_remembers_45 : decode cX8_remembers 45 = .ok (.isub, 1) := by decide +kernel
theorem dX8_remembers_46 : decode cX8_remembers 46 = .ok (.putfield 51, 3) := by decide +kernel
theorem dX8_remembers_49 : decode cX8_remembers 49 = .ok (.aload_n 0, 1) := by decide +kernel
theorem dX8_remembers_50 : decode cX8_remembers 50 = .ok (.getfield 13, 3) := by decide +kernel
theorem dX8_remembers_53 : decode cX8_remembers 53 = .ok (.iconst 0, 1) := by decide +kernel
theorem dX8_remembers_54 : decode cX8_remembers 54 = .ok (.aload_n 0, 1) := by decide +kernel
theorem dX8_remembers_55 : decode cX8_remembers 55 = .ok (.getfield 19, 3) := by decide +kernel
theorem dX8_remembers_58 : decode cX8_remembers 58 = .ok (.aload_n 0, 1) := by decide +kernel
theorem dX8_remembers_59 : decode cX8_remembers 59 = .ok (.getfield 51, 3) := by decide +kernel
theorem dX8_remembers_62 : decode cX8_remembers 62 = .ok (.bipush 102, 2) := by decide +kernel
theorem dX8_remembers_64 : decode cX8_remembers 64 = .ok (.imul, 1) := by decide +kernel
theorem dX8_remembers_65 : decode cX8_remembers 65 = .ok (.invokestatic 47, 3) := by decide +kernel
theorem dX8_remembers_68 : decode cX8_remembers 68 = .ok (.aload_n 0, 1) := by decide +kernel
theorem dX8_remembers_69 : decode cX8_remembers 69 = .ok (.dup, 1) := by decide +kernel
theorem dX8_remembers_70 : decode cX8_remembers 70 = .ok (.getfield 51, 3) := by decide +kernel
theorem dX8_remembers_73 : decode cX8_remembers 73 = .ok (.iconst 1, 1) := by decide +kernel
theorem dX8_remembers_74 : decode cX8_remembers 74 = .ok (.iadd, 1) := by decide +kernel
theorem dX8_remembers_75 : decode cX8_remembers 75 = .ok (.putfield 51, 3) := by decide +kernel
theorem dX8_remembers_78 : decode cX8_remembers 78 = .ok (.return_, 1) := by decide +kernel
theorem dX8_ends_0 : decode cX8_ends 0 = .ok (.aload_n 0, 1) := by decide +kernel
theorem dX8_ends_1 : decode cX8_ends 1 = .ok (.aload_n 0, 1) := by decide +kernel
theorem dX8_ends_2 : decode cX8_ends 2 = .ok (.getfield 41, 3) := by decide +kernel
theorem dX8_ends_5 : decode cX8_ends 5 = .ok (.ifCond .ne 7, 3) := by decide +kernel
theorem dX8_ends_8 : decode cX8_ends 8 = .ok (.iconst 0, 1) := by decide +kernel
theorem dX8_ends_9 : decode cX8_ends 9 = .ok (.goto 4, 3) := by decide +kernel
theorem dX8_ends_12 : decode cX8_ends 12 = .ok (.iload_n 3, 1) := by decide +kernel
theorem dX8_ends_13 : decode cX8_ends 13 = .ok (.putfield 38, 3) := by decide +kernel
theorem dX8_ends_16 : decode cX8_ends 16 = .ok (.aload_n 0, 1) := by decide +kernel
theorem dX8_ends_17 : decode cX8_ends 17 = .ok (.getfield 41, 3) := by decide +kernel
theorem dX8_ends_20 : decode cX8_ends 20 = .ok (.ifCond .eq 39, 3) := by decide +kernel
theorem dX8_ends_23 : decode cX8_ends 23 = .ok (.aload_n 0, 1) := by decide +kernel
theorem dX8_ends_24 : decode cX8_ends 24 = .ok (.aload_n 0, 1) := by decide +kernel
theorem dX8_ends_25 : decode cX8_ends 25 = .ok (.getfield 41, 3) := by decide +kernel
theorem dX8_ends_28 : decode cX8_ends 28 = .ok (.putfield 54, 3) := by decide +kernel
theorem dX8_ends_31 : decode cX8_ends 31 = .ok (.aload_n 0, 1) := by decide +kernel
theorem dX8_ends_32 : decode cX8_ends 32 = .ok (.aload_n 0, 1) := by decide +kernel
theorem dX8_ends_33 : decode cX8_ends 33 = .ok (.getfield 44, 3) := by decide +kernel
theorem dX8_ends_36 : decode cX8_ends 36 = .ok (.putfield 57, 3) := by decide +kernel
theorem dX8_ends_39 : decode cX8_ends 39 = .ok (.aload_n 0, 1) := by decide +kernel
theorem dX8_ends_40 : decode cX8_ends 40 = .ok (.iload_n 2, 1) := by decide +kernel
theorem dX8_ends_41 : decode cX8_ends 41 = .ok (.putfield 60, 3) := by decide +kernel
theorem dX8_ends_44 : decode cX8_ends 44 = .ok (.aload_n 0, 1) := by decide +kernel
theorem dX8_ends_45 : decode cX8_ends 45 = .ok (.getfield 13, 3) := by decide +kernel
theorem dX8_ends_48 : decode cX8_ends 48 = .ok (.iconst 0, 1) := by decide +kernel
theorem dX8_ends_49 : decode cX8_ends 49 = .ok (.aload_n 0, 1) := by decide +kernel
theorem dX8_ends_50 : decode cX8_ends 50 = .ok (.getfield 9, 3) := by decide +kernel
theorem dX8_ends_53 : decode cX8_ends 53 = .ok (.iconst 0, 1) := by decide +kernel
theorem dX8_ends_54 : decode cX8_ends 54 = .ok (.invokestatic 47, 3) := by decide +kernel
theorem dX8_ends_57 : decode cX8_ends 57 = .ok (.iconst 0, 1) := by decide +kernel
theorem dX8_ends_58 : decode cX8_ends 58 = .ok (.ireturn, 1) := by decide +kernel
theorem dX8_ends_59 : decode cX8_ends 59 = .ok (.aload_n 0, 1) := by decide +kernel
theorem dX8_ends_60 : decode cX8_ends 60 = .ok (.invokevirtual 63, 3) := by decide +kernel
theorem dX8_ends_63 : decode cX8_ends 63 = .ok (.iload_n 1, 1) := by decide +kernel
theorem dX8_ends_64 : decode cX8_ends 64 = .ok (.ireturn, 1) := by decide +kernel
theorem dX8_reason_0 : decode cX8_reason 0 = .ok (.aload_n 0, 1) := by decide +kernel
theorem dX8_reason_1 : decode cX8_reason 1 = .ok (.iload_n 1, 1) := by decide +kernel
theorem dX8_reason_2 : decode cX8_reason 2 = .ok (.iconst 0, 1) := by decide +kernel
theorem dX8_reason_3 : decode cX8_reason 3 = .ok (.iconst 2, 1) := by decide +kernel
theorem dX8_reason_4 : decode cX8_reason 4 = .ok (.invokestatic 66, 3) := by decide +kernel
theorem dX8_reason_7 : decode cX8_reason 7 = .ok (.ifCond .ne 7, 3) := by decide +kernel
theorem dX8_reason_10 : decode cX8_reason 10 = .ok (.iconst 1, 1) := by decide +kernel
theorem dX8_reason_11 : decode cX8_reason 11 = .ok (.goto 15, 3) := by decide +kernel
theorem dX8_reason_14 : decode cX8_reason 14 = .ok (.aload_n 0, 1) := by decide +kernel
theorem dX8_reason_15 : decode cX8_reason 15 = .ok (.getfield 54, 3) := by decide +kernel
theorem dX8_reason_18 : decode cX8_reason 18 = .ok (.ifCond .ne 7, 3) := by decide +kernel
theorem dX8_reason_21 : decode cX8_reason 21 = .ok (.iconst 2, 1) := by decide +kernel
theorem dX8_reason_22 : decode cX8_reason 22 = .ok (.goto 4, 3) := by decide +kernel
theorem dX8_reason_25 : decode cX8_reason 25 = .ok (.iconst 0, 1) := by decide +kernel
theorem dX8_reason_26 : decode cX8_reason 26 = .ok (.putfield 38, 3) := by decide +kernel
theorem dX8_reason_29 : decode cX8_reason 29 = .ok (.aload_n 0, 1) := by decide +kernel
theorem dX8_reason_30 : decode cX8_reason 30 = .ok (.getfield 38, 3) := by decide +kernel
theorem dX8_reason_33 : decode cX8_reason 33 = .ok (.ifCond .eq 7, 3) := by decide +kernel
theorem dX8_reason_36 : decode cX8_reason 36 = .ok (.iconst 0, 1) := by decide +kernel
theorem dX8_reason_37 : decode cX8_reason 37 = .ok (.goto 30, 3) := by decide +kernel
theorem dX8_reason_40 : decode cX8_reason 40 = .ok (.iload_n 1, 1) := by decide +kernel
theorem dX8_reason_41 : decode cX8_reason 41 = .ok (.ifCond .ne 10, 3) := by decide +kernel
theorem dX8_reason_44 : decode cX8_reason 44 = .ok (.aload_n 0, 1) := by decide +kernel
theorem dX8_reason_45 : decode cX8_reason 45 = .ok (.getfield 54, 3) := by decide +kernel
theorem dX8_reason_48 : decode cX8_reason 48 = .ok (.goto 19, 3) := by decide +kernel
theorem dX8_reason_51 : decode cX8_reason 51 = .ok (.iload_n 1, 1) := by decide +kernel
theorem dX8_reason_52 : decode cX8_reason 52 = .ok (.iconst 1, 1) := by decide +kernel
theorem dX8_reason_53 : decode cX8_reason 53 = .ok (.if_icmp .ne 10, 3) := by decide +kernel
theorem dX8_reason_56 : decode cX8_reason 56 = .ok (.aload_n 0, 1) := by decide +kernel
theorem dX8_reason_57 : decode cX8_reason 57 = .ok (.getfield 57, 3) := by decide +kernel
theorem dX8_reason_60 : decode cX8_reason 60 = .ok (.goto 7, 3) := by decide +kernel
theorem dX8_reason_63 : decode cX8_reason 63 = .ok (.aload_n 0, 1) := by decide +kernel
theorem dX8_reason_64 : decode cX8_reason 64 = .ok (.getfield 60, 3) := by decide +kernel
theorem dX8_reason_67 : decode cX8_reason 67 = .ok (.ireturn, 1) := by decide +kernel
theorem dX8_undo_0 : decode cX8_undo 0 = .ok (.aload_n 0, 1) := by decide +kernel
theorem dX8_undo_1 : decode cX8_undo 1 = .ok (.aload_n 0, 1) := by decide +kernel
theorem dX8_undo_2 : decode cX8_undo 2 = .ok (.getfield 51, 3) := by decide +kernel
theorem dX8_undo_5 : decode cX8_undo 5 = .ok (.ifCond .ne 7, 3) := by decide +kernel
theorem dX8_undo_8 : decode cX8_undo 8 = .ok (.iconst 1, 1) := by decide +kernel
theorem dX8_undo_9 : decode cX8_undo 9 = .ok (.goto 4, 3) := by decide +kernel
theorem dX8_undo_12 : decode cX8_undo 12 = .ok (.iconst 0, 1) := by decide +kernel
theorem dX8_undo_13 : decode cX8_undo 13 = .ok (.putfield 38, 3) := by decide +kernel
theorem dX8_undo_16 : decode cX8_undo 16 = .ok (.aload_n 0, 1) := by decide +kernel
theorem dX8_undo_17 : decode cX8_undo 17 = .ok (.getfield 38, 3) := by decide +kernel
theorem dX8_undo_20 : decode cX8_undo 20 = .ok (.ifCond .eq 5, 3) := by decide +kernel
theorem dX8_undo_23 : decode cX8_undo 23 = .ok (.iconst 0, 1) := by decide +kernel
theorem dX8_undo_24 : decode cX8_undo 24 = .ok (.ireturn, 1) := by decide +kernel
theorem dX8_undo_25 : decode cX8_undo 25 = .ok (.aload_n 0, 1) := by decide +kernel
theorem dX8_undo_26 : decode cX8_undo 26 = .ok (.dup, 1) := by decide +kernel
theorem dX8_undo_27 : decode cX8_undo 27 = .ok (.getfield 51, 3) := by decide +kernel
theorem dX8_undo_30 : decode cX8_undo 30 = .ok (.iconst 1, 1) := by decide +kernel
theorem dX8_undo_31 : decode cX8_undo 31 = .ok (.isub, 1) := by decide +kernel
theorem dX8_undo_32 : decode cX8_undo 32 = .ok (.putfield 51, 3) := by decide +kernel
theorem dX8_undo_35 : decode cX8_undo 35 = .ok (.aload_n 0, 1) := by decide +kernel
theorem dX8_undo_36 : decode cX8_undo 36 = .ok (.getfield 19, 3) := by decide +kernel
theorem dX8_undo_39 : decode cX8_undo 39 = .ok (.aload_n 0, 1) := by decide +kernel
theorem dX8_undo_40 : decode cX8_undo 40 = .ok (.getfield 51, 3) := by decide +kernel
theorem dX8_undo_43 : decode cX8_undo 43 = .ok (.bipush 102, 2) := by decide +kernel
theorem dX8_undo_45 : decode cX8_undo 45 = .ok (.imul, 1) := by decide +kernel
theorem dX8_undo_46 : decode cX8_undo 46 = .ok (.aload_n 0, 1) := by decide +kernel
theorem dX8_undo_47 : decode cX8_undo 47 = .ok (.getfield 9, 3) := by decide +kernel
theorem dX8_undo_50 : decode cX8_undo 50 = .ok (.iconst 0, 1) := by decide +kernel
theorem dX8_undo_51 : decode cX8_undo 51 = .ok (.invokestatic 47, 3) := by decide +kernel
theorem dX8_undo_54 : decode cX8_undo 54 = .ok (.aload_n 0, 1) := by decide +kernel
theorem dX8_undo_55 : decode cX8_undo 55 = .ok (.getfield 51, 3) := by decide +kernel
theorem dX8_undo_58 : decode cX8_undo 58 = .ok (.ireturn, 1) := by decide +kernel
theorem dX8_save_0 : decode cX8_save 0 = .ok (.aload_n 0, 1) := by decide +kernel
theorem dX8_save_1 : decode cX8_save 1 = .ok (.iconst 0, 1) := by decide +kernel
theorem dX8_save_2 : decode cX8_save 2 = .ok (.putfield 38, 3) := by decide +kernel
theorem dX8_save_5 : decode cX8_save 5 = .ok (.aload_n 0, 1) := by decide +kernel
theorem dX8_save_6 : decode cX8_save 6 = .ok (.getfield 9, 3) := by decide +kernel
theorem dX8_save_9 : decode cX8_save 9 = .ok (.iconst 0, 1) := by decide +kernel
theorem dX8_save_10 : decode cX8_save 10 = .ok (.aload_n 0, 1) := by decide +kernel
theorem dX8_save_11 : decode cX8_save 11 = .ok (.getfield 16, 3) := by decide +kernel
theorem dX8_save_14 : decode cX8_save 14 = .ok (.iconst 0, 1) := by decide +kernel
theorem dX8_save_15 : decode cX8_save 15 = .ok (.invokestatic 47, 3) := by decide +kernel
theorem dX8_save_18 : decode cX8_save 18 = .ok (.aload_n 0, 1) := by decide +kernel
theorem dX8_save_19 : decode cX8_save 19 = .ok (.iconst 1, 1) := by decide +kernel
theorem dX8_save_20 : decode cX8_save 20 = .ok (.putfield 70, 3) := by decide +kernel
theorem dX8_save_23 : decode cX8_save 23 = .ok (.aload_n 0, 1) := by decide +kernel
theorem dX8_save_24 : decode cX8_save 24 = .ok (.getfield 9, 3) := by decide +kernel
theorem dX8_save_27 : decode cX8_save 27 = .ok (.iconst 0, 1) := by decide +kernel
theorem dX8_save_28 : decode cX8_save 28 = .ok (.iaload, 1) := by decide +kernel
theorem dX8_save_29 : decode cX8_save 29 = .ok (.ireturn, 1) := by decide +kernel
theorem dX8_restore_0 : decode cX8_restore 0 = .ok (.aload_n 0, 1) := by decide +kernel
theorem dX8_restore_1 : decode cX8_restore 1 = .ok (.aload_n 0, 1) := by decide +kernel
theorem dX8_restore_2 : decode cX8_restore 2 = .ok (.getfield 70, 3) := by decide +kernel
theorem dX8_restore_5 : decode cX8_restore 5 = .ok (.ifCond .eq 7, 3) := by decide +kernel
theorem dX8_restore_8 : decode cX8_restore 8 = .ok (.iconst 0, 1) := by decide +kernel
theorem dX8_restore_9 : decode cX8_restore 9 = .ok (.goto 4, 3) := by decide +kernel
theorem dX8_restore_12 : decode cX8_restore 12 = .ok (.iconst 1, 1) := by decide +kernel
theorem dX8_restore_13 : decode cX8_restore 13 = .ok (.putfield 38, 3) := by decide +kernel
theorem dX8_restore_16 : decode cX8_restore 16 = .ok (.aload_n 0, 1) := by decide +kernel
theorem dX8_restore_17 : decode cX8_restore 17 = .ok (.getfield 38, 3) := by decide +kernel
theorem dX8_restore_20 : decode cX8_restore 20 = .ok (.ifCond .eq 5, 3) := by decide +kernel
theorem dX8_restore_23 : decode cX8_restore 23 = .ok (.iconst 0, 1) := by decide +kernel
theorem dX8_restore_24 : decode cX8_restore 24 = .ok (.ireturn, 1) := by decide +kernel
theorem dX8_restore_25 : decode cX8_restore 25 = .ok (.aload_n 0, 1) := by decide +kernel
theorem dX8_restore_26 : decode cX8_restore 26 = .ok (.getfield 16, 3) := by decide +kernel
theorem dX8_restore_29 : decode cX8_restore 29 = .ok (.iconst 0, 1) := by decide +kernel
theorem dX8_restore_30 : decode cX8_restore 30 = .ok (.aload_n 0, 1) := by decide +kernel
theorem dX8_restore_31 : decode cX8_restore 31 = .ok (.getfield 9, 3) := by decide +kernel
theorem dX8_restore_34 : decode cX8_restore 34 = .ok (.iconst 0, 1) := by decide +kernel
theorem dX8_restore_35 : decode cX8_restore 35 = .ok (.invokestatic 47, 3) := by decide +kernel
theorem dX8_restore_38 : decode cX8_restore 38 = .ok (.aload_n 0, 1) := by decide +kernel
theorem dX8_restore_39 : decode cX8_restore 39 = .ok (.iconst 0, 1) := by decide +kernel
theorem dX8_restore_40 : decode cX8_restore 40 = .ok (.putfield 51, 3) := by decide +kernel
theorem dX8_restore_43 : decode cX8_restore 43 = .ok (.aload_n 0, 1) := by decide +kernel
theorem dX8_restore_44 : decode cX8_restore 44 = .ok (.getfield 9, 3) := by decide +kernel
theorem dX8_restore_47 : decode cX8_restore 47 = .ok (.iconst 0, 1) := by decide +kernel
theorem dX8_restore_48 : decode cX8_restore 48 = .ok (.iaload, 1) := by decide +kernel
theorem dX8_restore_49 : decode cX8_restore 49 = .ok (.ireturn, 1) := by decide +kernel
theorem dX8_isHouse_0 : decode cX8_isHouse 0 = .ok (.iload_n 1, 1) := by decide +kernel
theorem dX8_isHouse_1 : decode cX8_isHouse 1 = .ok (.iconst 0, 1) := by decide +kernel
theorem dX8_isHouse_2 : decode cX8_isHouse 2 = .ok (.aload_n 0, 1) := by decide +kernel
theorem dX8_isHouse_3 : decode cX8_isHouse 3 = .ok (.getfield 9, 3) := by decide +kernel
theorem dX8_isHouse_6 : decode cX8_isHouse 6 = .ok (.iconst 1, 1) := by decide +kernel
theorem dX8_isHouse_7 : decode cX8_isHouse 7 = .ok (.iaload, 1) := by decide +kernel
theorem dX8_isHouse_8 : decode cX8_isHouse 8 = .ok (.iconst 1, 1) := by decide +kernel
theorem dX8_isHouse_9 : decode cX8_isHouse 9 = .ok (.isub, 1) := by decide +kernel
theorem dX8_isHouse_10 : decode cX8_isHouse 10 = .ok (.invokestatic 66, 3) := by decide +kernel
theorem dX8_isHouse_13 : decode cX8_isHouse 13 = .ok (.ireturn, 1) := by decide +kernel
theorem dX8_of_0 : decode cX8_of 0 = .ok (.aload_n 0, 1) := by decide +kernel
theorem dX8_of_1 : decode cX8_of 1 = .ok (.getfield 9, 3) := by decide +kernel
theorem dX8_of_4 : decode cX8_of 4 = .ok (.bipush 14, 2) := by decide +kernel
theorem dX8_of_6 : decode cX8_of 6 = .ok (.bipush 9, 2) := by decide +kernel
theorem dX8_of_8 : decode cX8_of 8 = .ok (.iload_n 1, 1) := by decide +kernel
theorem dX8_of_9 : decode cX8_of 9 = .ok (.imul, 1) := by decide +kernel
theorem dX8_of_10 : decode cX8_of 10 = .ok (.iadd, 1) := by decide +kernel
theorem dX8_of_11 : decode cX8_of 11 = .ok (.iload_n 2, 1) := by decide +kernel
theorem dX8_of_12 : decode cX8_of 12 = .ok (.iadd, 1) := by decide +kernel
theorem dX8_of_13 : decode cX8_of 13 = .ok (.iaload, 1) := by decide +kernel
theorem dX8_of_14 : decode cX8_of 14 = .ok (.ireturn, 1) := by decide +kernel
theorem dX8_becomes_0 : decode cX8_becomes 0 = .ok (.aload_n 0, 1) := by decide +kernel
theorem dX8_becomes_1 : decode cX8_becomes 1 = .ok (.getfield 9, 3) := by decide +kernel
theorem dX8_becomes_4 : decode cX8_becomes 4 = .ok (.bipush 14, 2) := by decide +kernel
theorem dX8_becomes_6 : decode cX8_becomes 6 = .ok (.bipush 9, 2) := by decide +kernel
theorem dX8_becomes_8 : decode cX8_becomes 8 = .ok (.iload_n 1, 1) := by decide +kernel
theorem dX8_becomes_9 : decode cX8_becomes 9 = .ok (.imul, 1) := by decide +kernel
theorem dX8_becomes_10 : decode cX8_becomes 10 = .ok (.iadd, 1) := by decide +kernel
theorem dX8_becomes_11 : decode cX8_becomes 11 = .ok (.iload_n 2, 1) := by decide +kernel
theorem dX8_becomes_12 : decode cX8_becomes 12 = .ok (.iadd, 1) := by decide +kernel
theorem dX8_becomes_13 : decode cX8_becomes 13 = .ok (.iload_n 3, 1) := by decide +kernel
theorem dX8_becomes_14 : decode cX8_becomes 14 = .ok (.iastore, 1) := by decide +kernel
theorem dX8_becomes_15 : decode cX8_becomes 15 = .ok (.return_, 1) := by decide +kernel
theorem dX8_isCarrier_0 : decode cX8_isCarrier 0 = .ok (.iload_n 1, 1) := by decide +kernel
theorem dX8_isCarrier_1 : decode cX8_isCarrier 1 = .ok (.iconst 0, 1) := by decide +kernel
theorem dX8_isCarrier_2 : decode cX8_isCarrier 2 = .ok (.aload_n 0, 1) := by decide +kernel
theorem dX8_isCarrier_3 : decode cX8_isCarrier 3 = .ok (.getfield 9, 3) := by decide +kernel
theorem dX8_isCarrier_6 : decode cX8_isCarrier 6 = .ok (.iconst 2, 1) := by decide +kernel
theorem dX8_isCarrier_7 : decode cX8_isCarrier 7 = .ok (.iaload, 1) := by decide +kernel
theorem dX8_isCarrier_8 : decode cX8_isCarrier 8 = .ok (.iconst 1, 1) := by decide +kernel
theorem dX8_isCarrier_9 : decode cX8_isCarrier 9 = .ok (.isub, 1) := by decide +kernel
theorem dX8_isCarrier_10 : decode cX8_isCarrier 10 = .ok (.invokestatic 66, 3) := by decide +kernel
theorem dX8_isCarrier_13 : decode cX8_isCarrier 13 = .ok (.ireturn, 1) := by decide +kernel
theorem dX8_ofCarrier_0 : decode cX8_ofCarrier 0 = .ok (.aload_n 0, 1) := by decide +kernel
theorem dX8_ofCarrier_1 : decode cX8_ofCarrier 1 = .ok (.getfield 9, 3) := by decide +kernel
theorem dX8_ofCarrier_4 : decode cX8_ofCarrier 4 = .ok (.bipush 86, 2) := by decide +kernel
theorem dX8_ofCarrier_6 : decode cX8_ofCarrier 6 = .ok (.iconst 4, 1) := by decide +kernel
theorem dX8_ofCarrier_7 : decode cX8_ofCarrier 7 = .ok (.iload_n 1, 1) := by decide +kernel
theorem dX8_ofCarrier_8 : decode cX8_ofCarrier 8 = .ok (.imul, 1) := by decide +kernel
theorem dX8_ofCarrier_9 : decode cX8_ofCarrier 9 = .ok (.iadd, 1) := by decide +kernel
theorem dX8_ofCarrier_10 : decode cX8_ofCarrier 10 = .ok (.iload_n 2, 1) := by decide +kernel
theorem dX8_ofCarrier_11 : decode cX8_ofCarrier 11 = .ok (.iadd, 1) := by decide +kernel
theorem dX8_ofCarrier_12 : decode cX8_ofCarrier 12 = .ok (.iaload, 1) := by decide +kernel
theorem dX8_ofCarrier_13 : decode cX8_ofCarrier 13 = .ok (.ireturn, 1) := by decide +kernel
theorem dX8_carrierBecomes_0 : decode cX8_carrierBecomes 0 = .ok (.aload_n 0, 1) := by decide +kernel
theorem dX8_carrierBecomes_1 : decode cX8_carrierBecomes 1 = .ok (.getfield 9, 3) := by decide +kernel
theorem dX8_carrierBecomes_4 : decode cX8_carrierBecomes 4 = .ok (.bipush 86, 2) := by decide +kernel
theorem dX8_carrierBecomes_6 : decode cX8_carrierBecomes 6 = .ok (.iconst 4, 1) := by decide +kernel
theorem dX8_carrierBecomes_7 : decode cX8_carrierBecomes 7 = .ok (.iload_n 1, 1) := by decide +kernel
theorem dX8_carrierBecomes_8 : decode cX8_carrierBecomes 8 = .ok (.imul, 1) := by decide +kernel
theorem dX8_carrierBecomes_9 : decode cX8_carrierBecomes 9 = .ok (.iadd, 1) := by decide +kernel
theorem dX8_carrierBecomes_10 : decode cX8_carrierBecomes 10 = .ok (.iload_n 2, 1) := by decide +kernel
theorem dX8_carrierBecomes_11 : decode cX8_carrierBecomes 11 = .ok (.iadd, 1) := by decide +kernel
theorem dX8_carrierBecomes_12 : decode cX8_carrierBecomes 12 = .ok (.iload_n 3, 1) := by decide +kernel
theorem dX8_carrierBecomes_13 : decode cX8_carrierBecomes 13 = .ok (.iastore, 1) := by decide +kernel
theorem dX8_carrierBecomes_14 : decode cX8_carrierBecomes 14 = .ok (.return_, 1) := by decide +kernel
theorem dX8_lets_0 : decode cX8_lets 0 = .ok (.aload_n 0, 1) := by decide +kernel
theorem dX8_lets_1 : decode cX8_lets 1 = .ok (.iload_n 1, 1) := by decide +kernel
theorem dX8_lets_2 : decode cX8_lets 2 = .ok (.iconst 1, 1) := by decide +kernel
theorem dX8_lets_3 : decode cX8_lets 3 = .ok (.invokevirtual 74, 3) := by decide +kernel
theorem dX8_lets_6 : decode cX8_lets 6 = .ok (.ifCond .eq 14, 3) := by decide +kernel
theorem dX8_lets_9 : decode cX8_lets 9 = .ok (.aload_n 0, 1) := by decide +kernel
theorem dX8_lets_10 : decode cX8_lets 10 = .ok (.iload_n 1, 1) := by decide +kernel
theorem dX8_lets_11 : decode cX8_lets 11 = .ok (.bipush 7, 2) := by decide +kernel
theorem dX8_lets_13 : decode cX8_lets 13 = .ok (.invokevirtual 74, 3) := by decide +kernel
theorem dX8_lets_16 : decode cX8_lets 16 = .ok (.iconst 1, 1) := by decide +kernel
theorem dX8_lets_17 : decode cX8_lets 17 = .ok (.if_icmp .ne 8, 3) := by decide +kernel
theorem dX8_lets_20 : decode cX8_lets 20 = .ok (.bipush 99, 2) := by decide +kernel
theorem dX8_lets_22 : decode cX8_lets 22 = .ok (.goto 30, 3) := by decide +kernel
theorem dX8_lets_25 : decode cX8_lets 25 = .ok (.aload_n 0, 1) := by decide +kernel
theorem dX8_lets_26 : decode cX8_lets 26 = .ok (.iload_n 1, 1) := by decide +kernel
theorem dX8_lets_27 : decode cX8_lets 27 = .ok (.iconst 1, 1) := by decide +kernel
theorem dX8_lets_28 : decode cX8_lets 28 = .ok (.invokevirtual 74, 3) := by decide +kernel
theorem dX8_lets_31 : decode cX8_lets 31 = .ok (.iconst 1, 1) := by decide +kernel
theorem dX8_lets_32 : decode cX8_lets 32 = .ok (.if_icmp .ne 19, 3) := by decide +kernel
theorem dX8_lets_35 : decode cX8_lets 35 = .ok (.iconst 0, 1) := by decide +kernel
theorem dX8_lets_36 : decode cX8_lets 36 = .ok (.iconst 2, 1) := by decide +kernel
theorem dX8_lets_37 : decode cX8_lets 37 = .ok (.aload_n 0, 1) := by decide +kernel
theorem dX8_lets_38 : decode cX8_lets 38 = .ok (.iload_n 1, 1) := by decide +kernel
theorem dX8_lets_39 : decode cX8_lets 39 = .ok (.bipush 6, 2) := by decide +kernel
theorem dX8_lets_41 : decode cX8_lets 41 = .ok (.invokevirtual 74, 3) := by decide +kernel
theorem dX8_lets_44 : decode cX8_lets 44 = .ok (.isub, 1) := by decide +kernel
theorem dX8_lets_45 : decode cX8_lets 45 = .ok (.invokestatic 78, 3) := by decide +kernel
theorem dX8_lets_48 : decode cX8_lets 48 = .ok (.goto 4, 3) := by decide +kernel
theorem dX8_lets_51 : decode cX8_lets 51 = .ok (.iconst 0, 1) := by decide +kernel
theorem dX8_lets_52 : decode cX8_lets 52 = .ok (.ireturn, 1) := by decide +kernel
theorem dX8_tiredBy_0 : decode cX8_tiredBy 0 = .ok (.iconst 1, 1) := by decide +kernel
theorem dX8_tiredBy_1 : decode cX8_tiredBy 1 = .ok (.bipush 6, 2) := by decide +kernel
theorem dX8_tiredBy_3 : decode cX8_tiredBy 3 = .ok (.aload_n 0, 1) := by decide +kernel
theorem dX8_tiredBy_4 : decode cX8_tiredBy 4 = .ok (.iload_n 2, 1) := by decide +kernel
theorem dX8_tiredBy_5 : decode cX8_tiredBy 5 = .ok (.iconst 0, 1) := by decide +kernel
theorem dX8_tiredBy_6 : decode cX8_tiredBy 6 = .ok (.invokevirtual 74, 3) := by decide +kernel
theorem dX8_tiredBy_9 : decode cX8_tiredBy 9 = .ok (.imul, 1) := by decide +kernel
theorem dX8_tiredBy_10 : decode cX8_tiredBy 10 = .ok (.iconst 5, 1) := by decide +kernel
theorem dX8_tiredBy_11 : decode cX8_tiredBy 11 = .ok (.aload_n 0, 1) := by decide +kernel
theorem dX8_tiredBy_12 : decode cX8_tiredBy 12 = .ok (.iload_n 1, 1) := by decide +kernel
theorem dX8_tiredBy_13 : decode cX8_tiredBy 13 = .ok (.iconst 0, 1) := by decide +kernel
theorem dX8_tiredBy_14 : decode cX8_tiredBy 14 = .ok (.invokevirtual 83, 3) := by decide +kernel
theorem dX8_tiredBy_17 : decode cX8_tiredBy 17 = .ok (.iadd, 1) := by decide +kernel
theorem dX8_tiredBy_18 : decode cX8_tiredBy 18 = .ok (.idiv, 1) := by decide +kernel
theorem dX8_tiredBy_19 : decode cX8_tiredBy 19 = .ok (.iadd, 1) := by decide +kernel
theorem dX8_tiredBy_20 : decode cX8_tiredBy 20 = .ok (.ireturn, 1) := by decide +kernel
theorem dX8_canBy_0 : decode cX8_canBy 0 = .ok (.bipush 30, 2) := by decide +kernel
theorem dX8_canBy_2 : decode cX8_canBy 2 = .ok (.aload_n 0, 1) := by decide +kernel
theorem dX8_canBy_3 : decode cX8_canBy 3 = .ok (.iload_n 1, 1) := by decide +kernel
theorem dX8_canBy_4 : decode cX8_canBy 4 = .ok (.iconst 1, 1) := by decide +kernel
theorem dX8_canBy_5 : decode cX8_canBy 5 = .ok (.invokevirtual 83, 3) := by decide +kernel
theorem dX8_canBy_8 : decode cX8_canBy 8 = .ok (.isub, 1) := by decide +kernel
theorem dX8_canBy_9 : decode cX8_canBy 9 = .ok (.aload_n 0, 1) := by decide +kernel
theorem dX8_canBy_10 : decode cX8_canBy 10 = .ok (.iload_n 1, 1) := by decide +kernel
theorem dX8_canBy_11 : decode cX8_canBy 11 = .ok (.iload_n 2, 1) := by decide +kernel
theorem dX8_canBy_12 : decode cX8_canBy 12 = .ok (.invokevirtual 86, 3) := by decide +kernel
theorem dX8_canBy_15 : decode cX8_canBy 15 = .ok (.idiv, 1) := by decide +kernel
theorem dX8_canBy_16 : decode cX8_canBy 16 = .ok (.ireturn, 1) := by decide +kernel
theorem dX8_house_0 : decode cX8_house 0 = .ok (.aload_n 0, 1) := by decide +kernel
theorem dX8_house_1 : decode cX8_house 1 = .ok (.invokevirtual 89, 3) := by decide +kernel
theorem dX8_house_4 : decode cX8_house 4 = .ok (.aload_n 0, 1) := by decide +kernel
theorem dX8_house_5 : decode cX8_house 5 = .ok (.getfield 9, 3) := by decide +kernel
theorem dX8_house_8 : decode cX8_house 8 = .ok (.iconst 1, 1) := by decide +kernel
theorem dX8_house_9 : decode cX8_house 9 = .ok (.iaload, 1) := by decide +kernel
theorem dX8_house_10 : decode cX8_house 10 = .ok (.istore_n 3, 1) := by decide +kernel
theorem dX8_house_11 : decode cX8_house 11 = .ok (.aload_n 0, 1) := by decide +kernel
theorem dX8_house_12 : decode cX8_house 12 = .ok (.iload_n 1, 1) := by decide +kernel
theorem dX8_house_13 : decode cX8_house 13 = .ok (.iconst 0, 1) := by decide +kernel
theorem dX8_house_14 : decode cX8_house 14 = .ok (.bipush 9, 2) := by decide +kernel
theorem dX8_house_16 : decode cX8_house 16 = .ok (.invokestatic 66, 3) := by decide +kernel
theorem dX8_house_19 : decode cX8_house 19 = .ok (.ifCond .eq 12, 3) := by decide +kernel
theorem dX8_house_22 : decode cX8_house 22 = .ok (.iload_n 2, 1) := by decide +kernel
theorem dX8_house_23 : decode cX8_house 23 = .ok (.iconst 0, 1) := by decide +kernel
theorem dX8_house_24 : decode cX8_house 24 = .ok (.iconst 2, 1) := by decide +kernel
theorem dX8_house_25 : decode cX8_house 25 = .ok (.invokestatic 66, 3) := by decide +kernel
theorem dX8_house_28 : decode cX8_house 28 = .ok (.ifCond .ne 7, 3) := by decide +kernel
theorem dX8_house_31 : decode cX8_house 31 = .ok (.iconst 1, 1) := by decide +kernel
theorem dX8_house_32 : decode cX8_house 32 = .ok (.goto 4, 3) := by decide +kernel
theorem dX8_house_35 : decode cX8_house 35 = .ok (.iconst 0, 1) := by decide +kernel
theorem dX8_house_36 : decode cX8_house 36 = .ok (.iconst 1, 1) := by decide +kernel
theorem dX8_house_37 : decode cX8_house 37 = .ok (.iconst 0, 1) := by decide +kernel
theorem dX8_house_38 : decode cX8_house 38 = .ok (.invokevirtual 92, 3) := by decide +kernel
theorem dX8_house_41 : decode cX8_house 41 = .ok (.aload_n 0, 1) := by decide +kernel
theorem dX8_house_42 : decode cX8_house 42 = .ok (.iload_n 3, 1) := by decide +kernel
theorem dX8_house_43 : decode cX8_house 43 = .ok (.bipush 8, 2) := by decide +kernel
theorem dX8_house_45 : decode cX8_house 45 = .ok (.if_icmp .ne 7, 3) := by decide +kernel
theorem dX8_house_48 : decode cX8_house 48 = .ok (.iconst 1, 1) := by decide +kernel
theorem dX8_house_49 : decode cX8_house 49 = .ok (.goto 4, 3) := by decide +kernel
theorem dX8_house_52 : decode cX8_house 52 = .ok (.iconst 0, 1) := by decide +kernel
theorem dX8_house_53 : decode cX8_house 53 = .ok (.iconst 2, 1) := by decide +kernel
theorem dX8_house_54 : decode cX8_house 54 = .ok (.bipush 8, 2) := by decide +kernel
theorem dX8_house_56 : decode cX8_house 56 = .ok (.invokevirtual 92, 3) := by decide +kernel
theorem dX8_house_59 : decode cX8_house 59 = .ok (.aload_n 0, 1) := by decide +kernel
theorem dX8_house_60 : decode cX8_house 60 = .ok (.getfield 41, 3) := by decide +kernel
theorem dX8_house_63 : decode cX8_house 63 = .ok (.ifCond .ne 27, 3) := by decide +kernel
theorem dX8_house_66 : decode cX8_house 66 = .ok (.aload_n 0, 1) := by decide +kernel
theorem dX8_house_67 : decode cX8_house 67 = .ok (.iload_n 3, 1) := by decide +kernel
theorem dX8_house_68 : decode cX8_house 68 = .ok (.iconst 0, 1) := by decide +kernel
theorem dX8_house_69 : decode cX8_house 69 = .ok (.iload_n 1, 1) := by decide +kernel
theorem dX8_house_70 : decode cX8_house 70 = .ok (.invokevirtual 96, 3) := by decide +kernel
theorem dX8_house_73 : decode cX8_house 73 = .ok (.aload_n 0, 1) := by decide +kernel
theorem dX8_house_74 : decode cX8_house 74 = .ok (.iload_n 3, 1) := by decide +kernel
theorem dX8_house_75 : decode cX8_house 75 = .ok (.iconst 1, 1) := by decide +kernel
theorem dX8_house_76 : decode cX8_house 76 = .ok (.iload_n 2, 1) := by decide +kernel
theorem dX8_house_77 : decode cX8_house 77 = .ok (.invokevirtual 96, 3) := by decide +kernel
theorem dX8_house_80 : decode cX8_house 80 = .ok (.aload_n 0, 1) := by decide +kernel
theorem dX8_house_81 : decode cX8_house 81 = .ok (.getfield 9, 3) := by decide +kernel
theorem dX8_house_84 : decode cX8_house 84 = .ok (.iconst 1, 1) := by decide +kernel
theorem dX8_house_85 : decode cX8_house 85 = .ok (.dup2, 1) := by decide +kernel
theorem dX8_house_86 : decode cX8_house 86 = .ok (.iaload, 1) := by decide +kernel
theorem dX8_house_87 : decode cX8_house 87 = .ok (.iconst 1, 1) := by decide +kernel
theorem dX8_house_88 : decode cX8_house 88 = .ok (.iadd, 1) := by decide +kernel
theorem dX8_house_89 : decode cX8_house 89 = .ok (.iastore, 1) := by decide +kernel
theorem dX8_house_90 : decode cX8_house 90 = .ok (.aload_n 0, 1) := by decide +kernel
theorem dX8_house_91 : decode cX8_house 91 = .ok (.iload_n 3, 1) := by decide +kernel
theorem dX8_house_92 : decode cX8_house 92 = .ok (.iconst 0, 1) := by decide +kernel
theorem dX8_house_93 : decode cX8_house 93 = .ok (.iconst 1, 1) := by decide +kernel
theorem dX8_house_94 : decode cX8_house 94 = .ok (.invokevirtual 100, 3) := by decide +kernel
theorem dX8_house_97 : decode cX8_house 97 = .ok (.ireturn, 1) := by decide +kernel
theorem dX8_order_0 : decode cX8_order 0 = .ok (.aload_n 0, 1) := by decide +kernel
theorem dX8_order_1 : decode cX8_order 1 = .ok (.invokevirtual 89, 3) := by decide +kernel
theorem dX8_order_4 : decode cX8_order 4 = .ok (.iconst 0, 1) := by decide +kernel
theorem dX8_order_5 : decode cX8_order 5 = .ok (.istore_n 3, 1) := by decide +kernel
theorem dX8_order_6 : decode cX8_order 6 = .ok (.aload_n 0, 1) := by decide +kernel
theorem dX8_order_7 : decode cX8_order 7 = .ok (.aload_n 0, 1) := by decide +kernel
theorem dX8_order_8 : decode cX8_order 8 = .ok (.iload_n 1, 1) := by decide +kernel
theorem dX8_order_9 : decode cX8_order 9 = .ok (.invokevirtual 104, 3) := by decide +kernel
theorem dX8_order_12 : decode cX8_order 12 = .ok (.ifCond .ne 7, 3) := by decide +kernel
theorem dX8_order_15 : decode cX8_order 15 = .ok (.iconst 1, 1) := by decide +kernel
theorem dX8_order_16 : decode cX8_order 16 = .ok (.goto 4, 3) := by decide +kernel
theorem dX8_order_19 : decode cX8_order 19 = .ok (.iconst 0, 1) := by decide +kernel
theorem dX8_order_20 : decode cX8_order 20 = .ok (.iconst 3, 1) := by decide +kernel
theorem dX8_order_21 : decode cX8_order 21 = .ok (.iload_n 1, 1) := by decide +kernel
theorem dX8_order_22 : decode cX8_order 22 = .ok (.invokevirtual 92, 3) := by decide +kernel
theorem dX8_order_25 : decode cX8_order 25 = .ok (.aload_n 0, 1) := by decide +kernel
theorem dX8_order_26 : decode cX8_order 26 = .ok (.iload_n 2, 1) := by decide +kernel
theorem dX8_order_27 : decode cX8_order 27 = .ok (.iconst 0, 1) := by decide +kernel
theorem dX8_order_28 : decode cX8_order 28 = .ok (.iconst 4, 1) := by decide +kernel
theorem dX8_order_29 : decode cX8_order 29 = .ok (.invokestatic 66, 3) := by decide +kernel
theorem dX8_order_32 : decode cX8_order 32 = .ok (.ifCond .ne 7, 3) := by decide +kernel
theorem dX8_order_35 : decode cX8_order 35 = .ok (.iconst 1, 1) := by decide +kernel
theorem dX8_order_36 : decode cX8_order 36 = .ok (.goto 4, 3) := by decide +kernel
theorem dX8_order_39 : decode cX8_order 39 = .ok (.iconst 0, 1) := by decide +kernel
theorem dX8_order_40 : decode cX8_order 40 = .ok (.iconst 1, 1) := by decide +kernel
theorem dX8_order_41 : decode cX8_order 41 = .ok (.iconst 0, 1) := by decide +kernel
theorem dX8_order_42 : decode cX8_order 42 = .ok (.invokevirtual 92, 3) := by decide +kernel
theorem dX8_order_45 : decode cX8_order 45 = .ok (.aload_n 0, 1) := by decide +kernel
theorem dX8_order_46 : decode cX8_order 46 = .ok (.getfield 41, 3) := by decide +kernel
theorem dX8_order_49 : decode cX8_order 49 = .ok (.ifCond .ne 17, 3) := by decide +kernel
theorem dX8_order_52 : decode cX8_order 52 = .ok (.aload_n 0, 1) := by decide +kernel
theorem dX8_order_53 : decode cX8_order 53 = .ok (.iload_n 1, 1) := by decide +kernel
theorem dX8_order_54 : decode cX8_order 54 = .ok (.iconst 2, 1) := by decide +kernel
theorem dX8_order_55 : decode cX8_order 55 = .ok (.invokevirtual 74, 3) := by decide +kernel
theorem dX8_order_58 : decode cX8_order 58 = .ok (.istore_n 3, 1) := by decide +kernel
theorem dX8_order_59 : decode cX8_order 59 = .ok (.aload_n 0, 1) := by decide +kernel
theorem dX8_order_60 : decode cX8_order 60 = .ok (.iload_n 1, 1) := by decide +kernel
theorem dX8_order_61 : decode cX8_order 61 = .ok (.iconst 2, 1) := by decide +kernel
theorem dX8_order_62 : decode cX8_order 62 = .ok (.iload_n 2, 1) := by decide +kernel
theorem dX8_order_63 : decode cX8_order 63 = .ok (.invokevirtual 96, 3) := by decide +kernel
theorem dX8_order_66 : decode cX8_order 66 = .ok (.aload_n 0, 1) := by decide +kernel
theorem dX8_order_67 : decode cX8_order 67 = .ok (.iload_n 3, 1) := by decide +kernel
theorem dX8_order_68 : decode cX8_order 68 = .ok (.iconst 0, 1) := by decide +kernel
theorem dX8_order_69 : decode cX8_order 69 = .ok (.iconst 1, 1) := by decide +kernel
theorem dX8_order_70 : decode cX8_order 70 = .ok (.invokevirtual 100, 3) := by decide +kernel
theorem dX8_order_73 : decode cX8_order 73 = .ok (.ireturn, 1) := by decide +kernel
theorem dX8_carrier_0 : decode cX8_carrier 0 = .ok (.aload_n 0, 1) := by decide +kernel
theorem dX8_carrier_1 : decode cX8_carrier 1 = .ok (.invokevirtual 89, 3) := by decide +kernel
theorem dX8_carrier_4 : decode cX8_carrier 4 = .ok (.aload_n 0, 1) := by decide +kernel
theorem dX8_carrier_5 : decode cX8_carrier 5 = .ok (.getfield 9, 3) := by decide +kernel
theorem dX8_carrier_8 : decode cX8_carrier 8 = .ok (.iconst 2, 1) := by decide +kernel
theorem dX8_carrier_9 : decode cX8_carrier 9 = .ok (.iaload, 1) := by decide +kernel
theorem dX8_carrier_10 : decode cX8_carrier 10 = .ok (.istore_n 2, 1) := by decide +kernel
theorem dX8_carrier_11 : decode cX8_carrier 11 = .ok (.aload_n 0, 1) := by decide +kernel
theorem dX8_carrier_12 : decode cX8_carrier 12 = .ok (.iload_n 1, 1) := by decide +kernel
theorem dX8_carrier_13 : decode cX8_carrier 13 = .ok (.iconst 1, 1) := by decide +kernel
theorem dX8_carrier_14 : decode cX8_carrier 14 = .ok (.bipush 9, 2) := by decide +kernel
theorem dX8_carrier_16 : decode cX8_carrier 16 = .ok (.invokestatic 66, 3) := by decide +kernel
theorem dX8_carrier_19 : decode cX8_carrier 19 = .ok (.ifCond .ne 7, 3) := by decide +kernel
theorem dX8_carrier_22 : decode cX8_carrier 22 = .ok (.iconst 1, 1) := by decide +kernel
theorem dX8_carrier_23 : decode cX8_carrier 23 = .ok (.goto 4, 3) := by decide +kernel
theorem dX8_carrier_26 : decode cX8_carrier 26 = .ok (.iconst 0, 1) := by decide +kernel
theorem dX8_carrier_27 : decode cX8_carrier 27 = .ok (.iconst 1, 1) := by decide +kernel
theorem dX8_carrier_28 : decode cX8_carrier 28 = .ok (.iconst 0, 1) := by decide +kernel
theorem dX8_carrier_29 : decode cX8_carrier 29 = .ok (.invokevirtual 92, 3) := by decide +kernel
theorem dX8_carrier_32 : decode cX8_carrier 32 = .ok (.aload_n 0, 1) := by decide +kernel
theorem dX8_carrier_33 : decode cX8_carrier 33 = .ok (.iload_n 2, 1) := by decide +kernel
theorem dX8_carrier_34 : decode cX8_carrier 34 = .ok (.iconst 4, 1) := by decide +kernel
theorem dX8_carrier_35 : decode cX8_carrier 35 = .ok (.if_icmp .ne 7, 3) := by decide +kernel
theorem dX8_carrier_38 : decode cX8_carrier 38 = .ok (.iconst 1, 1) := by decide +kernel
theorem dX8_carrier_39 : decode cX8_carrier 39 = .ok (.goto 4, 3) := by decide +kernel
theorem dX8_carrier_42 : decode cX8_carrier 42 = .ok (.iconst 0, 1) := by decide +kernel
theorem dX8_carrier_43 : decode cX8_carrier 43 = .ok (.iconst 2, 1) := by decide +kernel
theorem dX8_carrier_44 : decode cX8_carrier 44 = .ok (.iconst 4, 1) := by decide +kernel
theorem dX8_carrier_45 : decode cX8_carrier 45 = .ok (.invokevirtual 92, 3) := by decide +kernel
theorem dX8_carrier_48 : decode cX8_carrier 48 = .ok (.aload_n 0, 1) := by decide +kernel
theorem dX8_carrier_49 : decode cX8_carrier 49 = .ok (.getfield 41, 3) := by decide +kernel
theorem dX8_carrier_52 : decode cX8_carrier 52 = .ok (.ifCond .ne 20, 3) := by decide +kernel
theorem dX8_carrier_55 : decode cX8_carrier 55 = .ok (.aload_n 0, 1) := by decide +kernel
theorem dX8_carrier_56 : decode cX8_carrier 56 = .ok (.iload_n 2, 1) := by decide +kernel
theorem dX8_carrier_57 : decode cX8_carrier 57 = .ok (.iconst 0, 1) := by decide +kernel
theorem dX8_carrier_58 : decode cX8_carrier 58 = .ok (.iload_n 1, 1) := by decide +kernel
theorem dX8_carrier_59 : decode cX8_carrier 59 = .ok (.invokevirtual 108, 3) := by decide +kernel
theorem dX8_carrier_62 : decode cX8_carrier 62 = .ok (.aload_n 0, 1) := by decide +kernel
theorem dX8_carrier_63 : decode cX8_carrier 63 = .ok (.getfield 9, 3) := by decide +kernel
theorem dX8_carrier_66 : decode cX8_carrier 66 = .ok (.iconst 2, 1) := by decide +kernel
theorem dX8_carrier_67 : decode cX8_carrier 67 = .ok (.dup2, 1) := by decide +kernel
theorem dX8_carrier_68 : decode cX8_carrier 68 = .ok (.iaload, 1) := by decide +kernel
theorem dX8_carrier_69 : decode cX8_carrier 69 = .ok (.iconst 1, 1) := by decide +kernel
theorem dX8_carrier_70 : decode cX8_carrier 70 = .ok (.iadd, 1) := by decide +kernel
theorem dX8_carrier_71 : decode cX8_carrier 71 = .ok (.iastore, 1) := by decide +kernel
theorem dX8_carrier_72 : decode cX8_carrier 72 = .ok (.aload_n 0, 1) := by decide +kernel
theorem dX8_carrier_73 : decode cX8_carrier 73 = .ok (.iload_n 2, 1) := by decide +kernel
theorem dX8_carrier_74 : decode cX8_carrier 74 = .ok (.iconst 0, 1) := by decide +kernel
theorem dX8_carrier_75 : decode cX8_carrier 75 = .ok (.iconst 1, 1) := by decide +kernel
theorem dX8_carrier_76 : decode cX8_carrier 76 = .ok (.invokevirtual 100, 3) := by decide +kernel
theorem dX8_carrier_79 : decode cX8_carrier 79 = .ok (.ireturn, 1) := by decide +kernel
theorem dX8_houseOf_0 : decode cX8_houseOf 0 = .ok (.aload_n 0, 1) := by decide +kernel
theorem dX8_houseOf_1 : decode cX8_houseOf 1 = .ok (.aload_n 0, 1) := by decide +kernel
theorem dX8_houseOf_2 : decode cX8_houseOf 2 = .ok (.iload_n 1, 1) := by decide +kernel
theorem dX8_houseOf_3 : decode cX8_houseOf 3 = .ok (.invokevirtual 104, 3) := by decide +kernel
theorem dX8_houseOf_6 : decode cX8_houseOf 6 = .ok (.ifCond .ne 7, 3) := by decide +kernel
theorem dX8_houseOf_9 : decode cX8_houseOf 9 = .ok (.iconst 1, 1) := by decide +kernel
theorem dX8_houseOf_10 : decode cX8_houseOf 10 = .ok (.goto 18, 3) := by decide +kernel
theorem dX8_houseOf_13 : decode cX8_houseOf 13 = .ok (.iload_n 2, 1) := by decide +kernel
theorem dX8_houseOf_14 : decode cX8_houseOf 14 = .ok (.iconst 0, 1) := by decide +kernel
theorem dX8_houseOf_15 : decode cX8_houseOf 15 = .ok (.bipush 7, 2) := by decide +kernel
theorem dX8_houseOf_17 : decode cX8_houseOf 17 = .ok (.invokestatic 66, 3) := by decide +kernel
theorem dX8_houseOf_20 : decode cX8_houseOf 20 = .ok (.ifCond .ne 7, 3) := by decide +kernel
theorem dX8_houseOf_23 : decode cX8_houseOf 23 = .ok (.iconst 2, 1) := by decide +kernel
theorem dX8_houseOf_24 : decode cX8_houseOf 24 = .ok (.goto 4, 3) := by decide +kernel
theorem dX8_houseOf_27 : decode cX8_houseOf 27 = .ok (.iconst 0, 1) := by decide +kernel
theorem dX8_houseOf_28 : decode cX8_houseOf 28 = .ok (.putfield 38, 3) := by decide +kernel
theorem dX8_houseOf_31 : decode cX8_houseOf 31 = .ok (.aload_n 0, 1) := by decide +kernel
theorem dX8_houseOf_32 : decode cX8_houseOf 32 = .ok (.getfield 38, 3) := by decide +kernel
theorem dX8_houseOf_35 : decode cX8_houseOf 35 = .ok (.ifCond .eq 5, 3) := by decide +kernel
theorem dX8_houseOf_38 : decode cX8_houseOf 38 = .ok (.iconst 0, 1) := by decide +kernel
theorem dX8_houseOf_39 : decode cX8_houseOf 39 = .ok (.ireturn, 1) := by decide +kernel
theorem dX8_houseOf_40 : decode cX8_houseOf 40 = .ok (.iload_n 2, 1) := by decide +kernel
theorem dX8_houseOf_41 : decode cX8_houseOf 41 = .ok (.bipush 6, 2) := by decide +kernel
theorem dX8_houseOf_43 : decode cX8_houseOf 43 = .ok (.if_icmp .ge 12, 3) := by decide +kernel
theorem dX8_houseOf_46 : decode cX8_houseOf 46 = .ok (.aload_n 0, 1) := by decide +kernel
theorem dX8_houseOf_47 : decode cX8_houseOf 47 = .ok (.iload_n 1, 1) := by decide +kernel
theorem dX8_houseOf_48 : decode cX8_houseOf 48 = .ok (.iload_n 2, 1) := by decide +kernel
theorem dX8_houseOf_49 : decode cX8_houseOf 49 = .ok (.invokevirtual 74, 3) := by decide +kernel
theorem dX8_houseOf_52 : decode cX8_houseOf 52 = .ok (.goto 24, 3) := by decide +kernel
theorem dX8_houseOf_55 : decode cX8_houseOf 55 = .ok (.iload_n 2, 1) := by decide +kernel
theorem dX8_houseOf_56 : decode cX8_houseOf 56 = .ok (.bipush 6, 2) := by decide +kernel
theorem dX8_houseOf_58 : decode cX8_houseOf 58 = .ok (.if_icmp .ne 11, 3) := by decide +kernel
theorem dX8_houseOf_61 : decode cX8_houseOf 61 = .ok (.aload_n 0, 1) := by decide +kernel
theorem dX8_houseOf_62 : decode cX8_houseOf 62 = .ok (.iload_n 1, 1) := by decide +kernel
theorem dX8_houseOf_63 : decode cX8_houseOf 63 = .ok (.invokevirtual 111, 3) := by decide +kernel
theorem dX8_houseOf_66 : decode cX8_houseOf 66 = .ok (.goto 10, 3) := by decide +kernel
theorem dX8_houseOf_69 : decode cX8_houseOf 69 = .ok (.aload_n 0, 1) := by decide +kernel
theorem dX8_houseOf_70 : decode cX8_houseOf 70 = .ok (.iload_n 1, 1) := by decide +kernel
theorem dX8_houseOf_71 : decode cX8_houseOf 71 = .ok (.bipush 8, 2) := by decide +kernel
theorem dX8_houseOf_73 : decode cX8_houseOf 73 = .ok (.invokevirtual 74, 3) := by decide +kernel
theorem dX8_houseOf_76 : decode cX8_houseOf 76 = .ok (.ireturn, 1) := by decide +kernel
theorem dX8_carrierOf_0 : decode cX8_carrierOf 0 = .ok (.aload_n 0, 1) := by decide +kernel
theorem dX8_carrierOf_1 : decode cX8_carrierOf 1 = .ok (.aload_n 0, 1) := by decide +kernel
theorem dX8_carrierOf_2 : decode cX8_carrierOf 2 = .ok (.iload_n 1, 1) := by decide +kernel
theorem dX8_carrierOf_3 : decode cX8_carrierOf 3 = .ok (.invokevirtual 115, 3) := by decide +kernel
theorem dX8_carrierOf_6 : decode cX8_carrierOf 6 = .ok (.ifCond .ne 7, 3) := by decide +kernel
theorem dX8_carrierOf_9 : decode cX8_carrierOf 9 = .ok (.iconst 1, 1) := by decide +kernel
theorem dX8_carrierOf_10 : decode cX8_carrierOf 10 = .ok (.goto 17, 3) := by decide +kernel
theorem dX8_carrierOf_13 : decode cX8_carrierOf 13 = .ok (.iload_n 2, 1) := by decide +kernel
theorem dX8_carrierOf_14 : decode cX8_carrierOf 14 = .ok (.iconst 0, 1) := by decide +kernel
theorem dX8_carrierOf_15 : decode cX8_carrierOf 15 = .ok (.iconst 3, 1) := by decide +kernel
theorem dX8_carrierOf_16 : decode cX8_carrierOf 16 = .ok (.invokestatic 66, 3) := by decide +kernel
theorem dX8_carrierOf_19 : decode cX8_carrierOf 19 = .ok (.ifCond .ne 7, 3) := by decide +kernel
theorem dX8_carrierOf_22 : decode cX8_carrierOf 22 = .ok (.iconst 2, 1) := by decide +kernel
theorem dX8_carrierOf_23 : decode cX8_carrierOf 23 = .ok (.goto 4, 3) := by decide +kernel
theorem dX8_carrierOf_26 : decode cX8_carrierOf 26 = .ok (.iconst 0, 1) := by decide +kernel
theorem dX8_carrierOf_27 : decode cX8_carrierOf 27 = .ok (.putfield 38, 3) := by decide +kernel
theorem dX8_carrierOf_30 : decode cX8_carrierOf 30 = .ok (.aload_n 0, 1) := by decide +kernel
theorem dX8_carrierOf_31 : decode cX8_carrierOf 31 = .ok (.getfield 38, 3) := by decide +kernel
theorem dX8_carrierOf_34 : decode cX8_carrierOf 34 = .ok (.ifCond .ne 12, 3) := by decide +kernel
theorem dX8_carrierOf_37 : decode cX8_carrierOf 37 = .ok (.aload_n 0, 1) := by decide +kernel
theorem dX8_carrierOf_38 : decode cX8_carrierOf 38 = .ok (.iload_n 1, 1) := by decide +kernel
theorem dX8_carrierOf_39 : decode cX8_carrierOf 39 = .ok (.iload_n 2, 1) := by decide +kernel
theorem dX8_carrierOf_40 : decode cX8_carrierOf 40 = .ok (.invokevirtual 83, 3) := by decide +kernel
theorem dX8_carrierOf_43 : decode cX8_carrierOf 43 = .ok (.goto 4, 3) := by decide +kernel
theorem dX8_carrierOf_46 : decode cX8_carrierOf 46 = .ok (.iconst 0, 1) := by decide +kernel
theorem dX8_carrierOf_47 : decode cX8_carrierOf 47 = .ok (.ireturn, 1) := by decide +kernel
theorem dX8_isShoe_0 : decode cX8_isShoe 0 = .ok (.iload_n 0, 1) := by decide +kernel
theorem dX8_isShoe_1 : decode cX8_isShoe 1 = .ok (.iconst 0, 1) := by decide +kernel
theorem dX8_isShoe_2 : decode cX8_isShoe 2 = .ok (.iconst 3, 1) := by decide +kernel
theorem dX8_isShoe_3 : decode cX8_isShoe 3 = .ok (.invokestatic 66, 3) := by decide +kernel
theorem dX8_isShoe_6 : decode cX8_isShoe 6 = .ok (.ireturn, 1) := by decide +kernel
theorem dX8_shoes_0 : decode cX8_shoes 0 = .ok (.iconst 0, 1) := by decide +kernel
theorem dX8_shoes_1 : decode cX8_shoes 1 = .ok (.istore_n 1, 1) := by decide +kernel
theorem dX8_shoes_2 : decode cX8_shoes 2 = .ok (.iconst 0, 1) := by decide +kernel
theorem dX8_shoes_3 : decode cX8_shoes 3 = .ok (.istore_n 2, 1) := by decide +kernel
theorem dX8_shoes_4 : decode cX8_shoes 4 = .ok (.iload_n 2, 1) := by decide +kernel
theorem dX8_shoes_5 : decode cX8_shoes 5 = .ok (.iconst 4, 1) := by decide +kernel
theorem dX8_shoes_6 : decode cX8_shoes 6 = .ok (.if_icmp .ge 31, 3) := by decide +kernel
theorem dX8_shoes_9 : decode cX8_shoes 9 = .ok (.iload_n 1, 1) := by decide +kernel
theorem dX8_shoes_10 : decode cX8_shoes 10 = .ok (.aload_n 0, 1) := by decide +kernel
theorem dX8_shoes_11 : decode cX8_shoes 11 = .ok (.getfield 9, 3) := by decide +kernel
theorem dX8_shoes_14 : decode cX8_shoes 14 = .ok (.bipush 10, 2) := by decide +kernel
theorem dX8_shoes_16 : decode cX8_shoes 16 = .ok (.iload_n 2, 1) := by decide +kernel
theorem dX8_shoes_17 : decode cX8_shoes 17 = .ok (.iadd, 1) := by decide +kernel
theorem dX8_shoes_18 : decode cX8_shoes 18 = .ok (.iaload, 1) := by decide +kernel
theorem dX8_shoes_19 : decode cX8_shoes 19 = .ok (.bipush 20, 2) := by decide +kernel
theorem dX8_shoes_21 : decode cX8_shoes 21 = .ok (.if_icmp .ge 7, 3) := by decide +kernel
theorem dX8_shoes_24 : decode cX8_shoes 24 = .ok (.iconst 1, 1) := by decide +kernel
theorem dX8_shoes_25 : decode cX8_shoes 25 = .ok (.goto 4, 3) := by decide +kernel
theorem dX8_shoes_28 : decode cX8_shoes 28 = .ok (.iconst 0, 1) := by decide +kernel
theorem dX8_shoes_29 : decode cX8_shoes 29 = .ok (.iadd, 1) := by decide +kernel
theorem dX8_shoes_30 : decode cX8_shoes 30 = .ok (.istore_n 1, 1) := by decide +kernel
theorem dX8_shoes_31 : decode cX8_shoes 31 = .ok (.iinc 2 1, 3) := by decide +kernel
theorem dX8_shoes_34 : decode cX8_shoes 34 = .ok (.goto (-30), 3) := by decide +kernel
theorem dX8_shoes_37 : decode cX8_shoes 37 = .ok (.iload_n 1, 1) := by decide +kernel
theorem dX8_shoes_38 : decode cX8_shoes 38 = .ok (.ireturn, 1) := by decide +kernel
theorem dX8_loads_0 : decode cX8_loads 0 = .ok (.aload_n 0, 1) := by decide +kernel
theorem dX8_loads_1 : decode cX8_loads 1 = .ok (.iload_n 1, 1) := by decide +kernel
theorem dX8_loads_2 : decode cX8_loads 2 = .ok (.iconst 1, 1) := by decide +kernel
theorem dX8_loads_3 : decode cX8_loads 3 = .ok (.bipush 30, 2) := by decide +kernel
theorem dX8_loads_5 : decode cX8_loads 5 = .ok (.invokestatic 66, 3) := by decide +kernel
theorem dX8_loads_8 : decode cX8_loads 8 = .ok (.ifCond .ne 7, 3) := by decide +kernel
theorem dX8_loads_11 : decode cX8_loads 11 = .ok (.iconst 1, 1) := by decide +kernel
theorem dX8_loads_12 : decode cX8_loads 12 = .ok (.goto 4, 3) := by decide +kernel
theorem dX8_loads_15 : decode cX8_loads 15 = .ok (.iconst 0, 1) := by decide +kernel
theorem dX8_loads_16 : decode cX8_loads 16 = .ok (.iconst 1, 1) := by decide +kernel
theorem dX8_loads_17 : decode cX8_loads 17 = .ok (.iconst 0, 1) := by decide +kernel
theorem dX8_loads_18 : decode cX8_loads 18 = .ok (.invokevirtual 92, 3) := by decide +kernel
theorem dX8_loads_21 : decode cX8_loads 21 = .ok (.aload_n 0, 1) := by decide +kernel
theorem dX8_loads_22 : decode cX8_loads 22 = .ok (.aload_n 0, 1) := by decide +kernel
theorem dX8_loads_23 : decode cX8_loads 23 = .ok (.getfield 9, 3) := by decide +kernel
theorem dX8_loads_26 : decode cX8_loads 26 = .ok (.iconst 3, 1) := by decide +kernel
theorem dX8_loads_27 : decode cX8_loads 27 = .ok (.iaload, 1) := by decide +kernel
theorem dX8_loads_28 : decode cX8_loads 28 = .ok (.ifCond .eq 7, 3) := by decide +kernel
theorem dX8_loads_31 : decode cX8_loads 31 = .ok (.iconst 1, 1) := by decide +kernel
theorem dX8_loads_32 : decode cX8_loads 32 = .ok (.goto 4, 3) := by decide +kernel
theorem dX8_loads_35 : decode cX8_loads 35 = .ok (.iconst 0, 1) := by decide +kernel
theorem dX8_loads_36 : decode cX8_loads 36 = .ok (.bipush 6, 2) := by decide +kernel
theorem dX8_loads_38 : decode cX8_loads 38 = .ok (.aload_n 0, 1) := by decide +kernel
theorem dX8_loads_39 : decode cX8_loads 39 = .ok (.getfield 9, 3) := by decide +kernel
theorem dX8_loads_42 : decode cX8_loads 42 = .ok (.iconst 3, 1) := by decide +kernel
theorem dX8_loads_43 : decode cX8_loads 43 = .ok (.iaload, 1) := by decide +kernel
theorem dX8_loads_44 : decode cX8_loads 44 = .ok (.invokevirtual 92, 3) := by decide +kernel
theorem dX8_loads_47 : decode cX8_loads 47 = .ok (.aload_n 0, 1) := by decide +kernel
theorem dX8_loads_48 : decode cX8_loads 48 = .ok (.aload_n 0, 1) := by decide +kernel
theorem dX8_loads_49 : decode cX8_loads 49 = .ok (.getfield 9, 3) := by decide +kernel
theorem dX8_loads_52 : decode cX8_loads 52 = .ok (.iconst 5, 1) := by decide +kernel
theorem dX8_loads_53 : decode cX8_loads 53 = .ok (.iaload, 1) := by decide +kernel
theorem dX8_loads_54 : decode cX8_loads 54 = .ok (.iload_n 1, 1) := by decide +kernel
theorem dX8_loads_55 : decode cX8_loads 55 = .ok (.if_icmp .ge 7, 3) := by decide +kernel
theorem dX8_loads_58 : decode cX8_loads 58 = .ok (.iconst 1, 1) := by decide +kernel
theorem dX8_loads_59 : decode cX8_loads 59 = .ok (.goto 4, 3) := by decide +kernel
theorem dX8_loads_62 : decode cX8_loads 62 = .ok (.iconst 0, 1) := by decide +kernel
theorem dX8_loads_63 : decode cX8_loads 63 = .ok (.bipush 8, 2) := by decide +kernel
theorem dX8_loads_65 : decode cX8_loads 65 = .ok (.aload_n 0, 1) := by decide +kernel
theorem dX8_loads_66 : decode cX8_loads 66 = .ok (.getfield 9, 3) := by decide +kernel
theorem dX8_loads_69 : decode cX8_loads 69 = .ok (.iconst 5, 1) := by decide +kernel
theorem dX8_loads_70 : decode cX8_loads 70 = .ok (.iaload, 1) := by decide +kernel
theorem dX8_loads_71 : decode cX8_loads 71 = .ok (.invokevirtual 92, 3) := by decide +kernel
theorem dX8_loads_74 : decode cX8_loads 74 = .ok (.aload_n 0, 1) := by decide +kernel
theorem dX8_loads_75 : decode cX8_loads 75 = .ok (.aload_n 0, 1) := by decide +kernel
theorem dX8_loads_76 : decode cX8_loads 76 = .ok (.getfield 9, 3) := by decide +kernel
theorem dX8_loads_79 : decode cX8_loads 79 = .ok (.iconst 4, 1) := by decide +kernel
theorem dX8_loads_80 : decode cX8_loads 80 = .ok (.iaload, 1) := by decide +kernel
theorem dX8_loads_81 : decode cX8_loads 81 = .ok (.iload_n 1, 1) := by decide +kernel
theorem dX8_loads_82 : decode cX8_loads 82 = .ok (.iadd, 1) := by decide +kernel
theorem dX8_loads_83 : decode cX8_loads 83 = .ok (.bipush 30, 2) := by decide +kernel
theorem dX8_loads_85 : decode cX8_loads 85 = .ok (.if_icmp .le 7, 3) := by decide +kernel
theorem dX8_loads_88 : decode cX8_loads 88 = .ok (.iconst 1, 1) := by decide +kernel
theorem dX8_loads_89 : decode cX8_loads 89 = .ok (.goto 4, 3) := by decide +kernel
theorem dX8_loads_92 : decode cX8_loads 92 = .ok (.iconst 0, 1) := by decide +kernel
theorem dX8_loads_93 : decode cX8_loads 93 = .ok (.iconst 2, 1) := by decide +kernel
theorem dX8_loads_94 : decode cX8_loads 94 = .ok (.bipush 30, 2) := by decide +kernel
theorem dX8_loads_96 : decode cX8_loads 96 = .ok (.invokevirtual 92, 3) := by decide +kernel
theorem dX8_loads_99 : decode cX8_loads 99 = .ok (.aload_n 0, 1) := by decide +kernel
theorem dX8_loads_100 : decode cX8_loads 100 = .ok (.getfield 41, 3) := by decide +kernel
theorem dX8_loads_103 : decode cX8_loads 103 = .ok (.ifCond .ne 23, 3) := by decide +kernel
theorem dX8_loads_106 : decode cX8_loads 106 = .ok (.aload_n 0, 1) := by decide +kernel
theorem dX8_loads_107 : decode cX8_loads 107 = .ok (.getfield 9, 3) := by decide +kernel
theorem dX8_loads_110 : decode cX8_loads 110 = .ok (.iconst 5, 1) := by decide +kernel
theorem dX8_loads_111 : decode cX8_loads 111 = .ok (.dup2, 1) := by decide +kernel
theorem dX8_loads_112 : decode cX8_loads 112 = .ok (.iaload, 1) := by decide +kernel
theorem dX8_loads_113 : decode cX8_loads 113 = .ok (.iload_n 1, 1) := by decide +kernel
theorem dX8_loads_114 : decode cX8_loads 114 = .ok (.isub, 1) := by decide +kernel
theorem dX8_loads_115 : decode cX8_loads 115 = .ok (.iastore, 1) := by decide +kernel
theorem dX8_loads_116 : decode cX8_loads 116 = .ok (.aload_n 0, 1) := by decide +kernel
theorem dX8_loads_117 : decode cX8_loads 117 = .ok (.getfield 9, 3) := by decide +kernel
theorem dX8_loads_120 : decode cX8_loads 120 = .ok (.iconst 4, 1) := by decide +kernel
theorem dX8_loads_121 : decode cX8_loads 121 = .ok (.dup2, 1) := by decide +kernel
theorem dX8_loads_122 : decode cX8_loads 122 = .ok (.iaload, 1) := by decide +kernel
theorem dX8_loads_123 : decode cX8_loads 123 = .ok (.iload_n 1, 1) := by decide +kernel
theorem dX8_loads_124 : decode cX8_loads 124 = .ok (.iadd, 1) := by decide +kernel
theorem dX8_loads_125 : decode cX8_loads 125 = .ok (.iastore, 1) := by decide +kernel
theorem dX8_loads_126 : decode cX8_loads 126 = .ok (.aload_n 0, 1) := by decide +kernel
theorem dX8_loads_127 : decode cX8_loads 127 = .ok (.getfield 9, 3) := by decide +kernel
theorem dX8_loads_130 : decode cX8_loads 130 = .ok (.iconst 4, 1) := by decide +kernel
theorem dX8_loads_131 : decode cX8_loads 131 = .ok (.iaload, 1) := by decide +kernel
theorem dX8_loads_132 : decode cX8_loads 132 = .ok (.ireturn, 1) := by decide +kernel
theorem dX8_load_0 : decode cX8_load 0 = .ok (.aload_n 0, 1) := by decide +kernel
theorem dX8_load_1 : decode cX8_load 1 = .ok (.invokevirtual 89, 3) := by decide +kernel
theorem dX8_load_4 : decode cX8_load 4 = .ok (.aload_n 0, 1) := by decide +kernel
theorem dX8_load_5 : decode cX8_load 5 = .ok (.aload_n 0, 1) := by decide +kernel
theorem dX8_load_6 : decode cX8_load 6 = .ok (.iload_n 1, 1) := by decide +kernel
theorem dX8_load_7 : decode cX8_load 7 = .ok (.invokevirtual 118, 3) := by decide +kernel
theorem dX8_load_10 : decode cX8_load 10 = .ok (.iconst 0, 1) := by decide +kernel
theorem dX8_load_11 : decode cX8_load 11 = .ok (.iconst 1, 1) := by decide +kernel
theorem dX8_load_12 : decode cX8_load 12 = .ok (.invokevirtual 100, 3) := by decide +kernel
theorem dX8_load_15 : decode cX8_load 15 = .ok (.ireturn, 1) := by decide +kernel
theorem dX8_drives_0 : decode cX8_drives 0 = .ok (.aload_n 0, 1) := by decide +kernel
theorem dX8_drives_1 : decode cX8_drives 1 = .ok (.iload_n 1, 1) := by decide +kernel
theorem dX8_drives_2 : decode cX8_drives 2 = .ok (.iconst 0, 1) := by decide +kernel
theorem dX8_drives_3 : decode cX8_drives 3 = .ok (.aload_n 0, 1) := by decide +kernel
theorem dX8_drives_4 : decode cX8_drives 4 = .ok (.getfield 9, 3) := by decide +kernel
theorem dX8_drives_7 : decode cX8_drives 7 = .ok (.iconst 1, 1) := by decide +kernel
theorem dX8_drives_8 : decode cX8_drives 8 = .ok (.iaload, 1) := by decide +kernel
theorem dX8_drives_9 : decode cX8_drives 9 = .ok (.invokestatic 66, 3) := by decide +kernel
theorem dX8_drives_12 : decode cX8_drives 12 = .ok (.ifCond .ne 7, 3) := by decide +kernel
theorem dX8_drives_15 : decode cX8_drives 15 = .ok (.iconst 1, 1) := by decide +kernel
theorem dX8_drives_16 : decode cX8_drives 16 = .ok (.goto 4, 3) := by decide +kernel
theorem dX8_drives_19 : decode cX8_drives 19 = .ok (.iconst 0, 1) := by decide +kernel
theorem dX8_drives_20 : decode cX8_drives 20 = .ok (.iconst 3, 1) := by decide +kernel
theorem dX8_drives_21 : decode cX8_drives 21 = .ok (.iload_n 1, 1) := by decide +kernel
theorem dX8_drives_22 : decode cX8_drives 22 = .ok (.invokevirtual 92, 3) := by decide +kernel
theorem dX8_drives_25 : decode cX8_drives 25 = .ok (.aload_n 0, 1) := by decide +kernel
theorem dX8_drives_26 : decode cX8_drives 26 = .ok (.iload_n 1, 1) := by decide +kernel
theorem dX8_drives_27 : decode cX8_drives 27 = .ok (.aload_n 0, 1) := by decide +kernel
theorem dX8_drives_28 : decode cX8_drives 28 = .ok (.getfield 9, 3) := by decide +kernel
theorem dX8_drives_31 : decode cX8_drives 31 = .ok (.iconst 3, 1) := by decide +kernel
theorem dX8_drives_32 : decode cX8_drives 32 = .ok (.iaload, 1) := by decide +kernel
theorem dX8_drives_33 : decode cX8_drives 33 = .ok (.if_icmp .ne 7, 3) := by decide +kernel
theorem dX8_drives_36 : decode cX8_drives 36 = .ok (.iconst 1, 1) := by decide +kernel
theorem dX8_drives_37 : decode cX8_drives 37 = .ok (.goto 4, 3) := by decide +kernel
theorem dX8_drives_40 : decode cX8_drives 40 = .ok (.iconst 0, 1) := by decide +kernel
theorem dX8_drives_41 : decode cX8_drives 41 = .ok (.iconst 4, 1) := by decide +kernel
theorem dX8_drives_42 : decode cX8_drives 42 = .ok (.iload_n 1, 1) := by decide +kernel
theorem dX8_drives_43 : decode cX8_drives 43 = .ok (.invokevirtual 92, 3) := by decide +kernel
theorem dX8_drives_46 : decode cX8_drives 46 = .ok (.aload_n 0, 1) := by decide +kernel
theorem dX8_drives_47 : decode cX8_drives 47 = .ok (.iload_n 1, 1) := by decide +kernel
theorem dX8_drives_48 : decode cX8_drives 48 = .ok (.aload_n 0, 1) := by decide +kernel
theorem dX8_drives_49 : decode cX8_drives 49 = .ok (.getfield 9, 3) := by decide +kernel
theorem dX8_drives_52 : decode cX8_drives 52 = .ok (.iconst 3, 1) := by decide +kernel
theorem dX8_drives_53 : decode cX8_drives 53 = .ok (.iaload, 1) := by decide +kernel
theorem dX8_drives_54 : decode cX8_drives 54 = .ok (.if_icmp .le 15, 3) := by decide +kernel
theorem dX8_drives_57 : decode cX8_drives 57 = .ok (.aload_n 0, 1) := by decide +kernel
theorem dX8_drives_58 : decode cX8_drives 58 = .ok (.invokevirtual 121, 3) := by decide +kernel
theorem dX8_drives_61 : decode cX8_drives 61 = .ok (.iconst 3, 1) := by decide +kernel
theorem dX8_drives_62 : decode cX8_drives 62 = .ok (.if_icmp .ge 7, 3) := by decide +kernel
theorem dX8_drives_65 : decode cX8_drives 65 = .ok (.iconst 1, 1) := by decide +kernel
theorem dX8_drives_66 : decode cX8_drives 66 = .ok (.goto 4, 3) := by decide +kernel
theorem dX8_drives_69 : decode cX8_drives 69 = .ok (.iconst 0, 1) := by decide +kernel
theorem dX8_drives_70 : decode cX8_drives 70 = .ok (.iconst 5, 1) := by decide +kernel
theorem dX8_drives_71 : decode cX8_drives 71 = .ok (.aload_n 0, 1) := by decide +kernel
theorem dX8_drives_72 : decode cX8_drives 72 = .ok (.invokevirtual 121, 3) := by decide +kernel
theorem dX8_drives_75 : decode cX8_drives 75 = .ok (.invokevirtual 92, 3) := by decide +kernel
theorem dX8_drives_78 : decode cX8_drives 78 = .ok (.aload_n 0, 1) := by decide +kernel
theorem dX8_drives_79 : decode cX8_drives 79 = .ok (.getfield 41, 3) := by decide +kernel
theorem dX8_drives_82 : decode cX8_drives 82 = .ok (.ifCond .ne 72, 3) := by decide +kernel
theorem dX8_drives_85 : decode cX8_drives 85 = .ok (.iconst 0, 1) := by decide +kernel
theorem dX8_drives_86 : decode cX8_drives 86 = .ok (.iload_n 1, 1) := by decide +kernel
theorem dX8_drives_87 : decode cX8_drives 87 = .ok (.aload_n 0, 1) := by decide +kernel
theorem dX8_drives_88 : decode cX8_drives 88 = .ok (.getfield 9, 3) := by decide +kernel
theorem dX8_drives_91 : decode cX8_drives 91 = .ok (.iconst 3, 1) := by decide +kernel
theorem dX8_drives_92 : decode cX8_drives 92 = .ok (.iaload, 1) := by decide +kernel
theorem dX8_drives_93 : decode cX8_drives 93 = .ok (.isub, 1) := by decide +kernel
theorem dX8_drives_94 : decode cX8_drives 94 = .ok (.invokestatic 78, 3) := by decide +kernel
theorem dX8_drives_97 : decode cX8_drives 97 = .ok (.istore_n 2, 1) := by decide +kernel
theorem dX8_drives_98 : decode cX8_drives 98 = .ok (.iconst 0, 1) := by decide +kernel
theorem dX8_drives_99 : decode cX8_drives 99 = .ok (.istore_n 3, 1) := by decide +kernel
theorem dX8_drives_100 : decode cX8_drives 100 = .ok (.iload_n 3, 1) := by decide +kernel
theorem dX8_drives_101 : decode cX8_drives 101 = .ok (.iconst 4, 1) := by decide +kernel
theorem dX8_drives_102 : decode cX8_drives 102 = .ok (.if_icmp .ge 34, 3) := by decide +kernel
theorem dX8_drives_105 : decode cX8_drives 105 = .ok (.aload_n 0, 1) := by decide +kernel
theorem dX8_drives_106 : decode cX8_drives 106 = .ok (.getfield 9, 3) := by decide +kernel
theorem dX8_drives_109 : decode cX8_drives 109 = .ok (.bipush 10, 2) := by decide +kernel
theorem dX8_drives_111 : decode cX8_drives 111 = .ok (.iload_n 3, 1) := by decide +kernel
theorem dX8_drives_112 : decode cX8_drives 112 = .ok (.iadd, 1) := by decide +kernel
theorem dX8_drives_113 : decode cX8_drives 113 = .ok (.bipush 20, 2) := by decide +kernel
theorem dX8_drives_115 : decode cX8_drives 115 = .ok (.aload_n 0, 1) := by decide +kernel
theorem dX8_drives_116 : decode cX8_drives 116 = .ok (.getfield 9, 3) := by decide +kernel
theorem dX8_drives_119 : decode cX8_drives 119 = .ok (.bipush 10, 2) := by decide +kernel
theorem dX8_drives_121 : decode cX8_drives 121 = .ok (.iload_n 3, 1) := by decide +kernel
theorem dX8_drives_122 : decode cX8_drives 122 = .ok (.iadd, 1) := by decide +kernel
theorem dX8_drives_123 : decode cX8_drives 123 = .ok (.iaload, 1) := by decide +kernel
theorem dX8_drives_124 : decode cX8_drives 124 = .ok (.iload_n 2, 1) := by decide +kernel
theorem dX8_drives_125 : decode cX8_drives 125 = .ok (.iadd, 1) := by decide +kernel
theorem dX8_drives_126 : decode cX8_drives 126 = .ok (.invokestatic 125, 3) := by decide +kernel
theorem dX8_drives_129 : decode cX8_drives 129 = .ok (.iastore, 1) := by decide +kernel
theorem dX8_drives_130 : decode cX8_drives 130 = .ok (.iinc 3 1, 3) := by decide +kernel
theorem dX8_drives_133 : decode cX8_drives 133 = .ok (.goto (-33), 3) := by decide +kernel
theorem dX8_drives_136 : decode cX8_drives 136 = .ok (.aload_n 0, 1) := by decide +kernel
theorem dX8_drives_137 : decode cX8_drives 137 = .ok (.getfield 9, 3) := by decide +kernel
theorem dX8_drives_140 : decode cX8_drives 140 = .ok (.bipush 9, 2) := by decide +kernel
theorem dX8_drives_142 : decode cX8_drives 142 = .ok (.dup2, 1) := by decide +kernel
theorem dX8_drives_143 : decode cX8_drives 143 = .ok (.iaload, 1) := by decide +kernel
theorem dX8_drives_144 : decode cX8_drives 144 = .ok (.iload_n 2, 1) := by decide +kernel
theorem dX8_drives_145 : decode cX8_drives 145 = .ok (.iadd, 1) := by decide +kernel
theorem dX8_drives_146 : decode cX8_drives 146 = .ok (.iastore, 1) := by decide +kernel
theorem dX8_drives_147 : decode cX8_drives 147 = .ok (.aload_n 0, 1) := by decide +kernel
theorem dX8_drives_148 : decode cX8_drives 148 = .ok (.getfield 9, 3) := by decide +kernel
theorem dX8_drives_151 : decode cX8_drives 151 = .ok (.iconst 3, 1) := by decide +kernel
theorem dX8_drives_152 : decode cX8_drives 152 = .ok (.iload_n 1, 1) := by decide +kernel
theorem dX8_drives_153 : decode cX8_drives 153 = .ok (.iastore, 1) := by decide +kernel
theorem dX8_drives_154 : decode cX8_drives 154 = .ok (.aload_n 0, 1) := by decide +kernel
theorem dX8_drives_155 : decode cX8_drives 155 = .ok (.invokevirtual 121, 3) := by decide +kernel
theorem dX8_drives_158 : decode cX8_drives 158 = .ok (.ireturn, 1) := by decide +kernel
theorem dX8_drive_0 : decode cX8_drive 0 = .ok (.aload_n 0, 1) := by decide +kernel
theorem dX8_drive_1 : decode cX8_drive 1 = .ok (.invokevirtual 89, 3) := by decide +kernel
theorem dX8_drive_4 : decode cX8_drive 4 = .ok (.aload_n 0, 1) := by decide +kernel
theorem dX8_drive_5 : decode cX8_drive 5 = .ok (.aload_n 0, 1) := by decide +kernel
theorem dX8_drive_6 : decode cX8_drive 6 = .ok (.iload_n 1, 1) := by decide +kernel
theorem dX8_drive_7 : decode cX8_drive 7 = .ok (.invokevirtual 128, 3) := by decide +kernel
theorem dX8_drive_10 : decode cX8_drive 10 = .ok (.iconst 0, 1) := by decide +kernel
theorem dX8_drive_11 : decode cX8_drive 11 = .ok (.iconst 1, 1) := by decide +kernel
theorem dX8_drive_12 : decode cX8_drive 12 = .ok (.invokevirtual 100, 3) := by decide +kernel
theorem dX8_drive_15 : decode cX8_drive 15 = .ok (.ireturn, 1) := by decide +kernel
theorem dX8_shods_0 : decode cX8_shods 0 = .ok (.iload_n 1, 1) := by decide +kernel
theorem dX8_shods_1 : decode cX8_shods 1 = .ok (.invokestatic 131, 3) := by decide +kernel
theorem dX8_shods_4 : decode cX8_shods 4 = .ok (.ifCond .eq 15, 3) := by decide +kernel
theorem dX8_shods_7 : decode cX8_shods 7 = .ok (.aload_n 0, 1) := by decide +kernel
theorem dX8_shods_8 : decode cX8_shods 8 = .ok (.getfield 9, 3) := by decide +kernel
theorem dX8_shods_11 : decode cX8_shods 11 = .ok (.bipush 10, 2) := by decide +kernel
theorem dX8_shods_13 : decode cX8_shods 13 = .ok (.iload_n 1, 1) := by decide +kernel
theorem dX8_shods_14 : decode cX8_shods 14 = .ok (.iadd, 1) := by decide +kernel
theorem dX8_shods_15 : decode cX8_shods 15 = .ok (.iaload, 1) := by decide +kernel
theorem dX8_shods_16 : decode cX8_shods 16 = .ok (.goto 4, 3) := by decide +kernel
theorem dX8_shods_19 : decode cX8_shods 19 = .ok (.iconst 0, 1) := by decide +kernel
theorem dX8_shods_20 : decode cX8_shods 20 = .ok (.istore_n 2, 1) := by decide +kernel
theorem dX8_shods_21 : decode cX8_shods 21 = .ok (.aload_n 0, 1) := by decide +kernel
theorem dX8_shods_22 : decode cX8_shods 22 = .ok (.iload_n 1, 1) := by decide +kernel
theorem dX8_shods_23 : decode cX8_shods 23 = .ok (.invokestatic 131, 3) := by decide +kernel
theorem dX8_shods_26 : decode cX8_shods 26 = .ok (.ifCond .ne 7, 3) := by decide +kernel
theorem dX8_shods_29 : decode cX8_shods 29 = .ok (.iconst 1, 1) := by decide +kernel
theorem dX8_shods_30 : decode cX8_shods 30 = .ok (.goto 4, 3) := by decide +kernel
theorem dX8_shods_33 : decode cX8_shods 33 = .ok (.iconst 0, 1) := by decide +kernel
theorem dX8_shods_34 : decode cX8_shods 34 = .ok (.iconst 3, 1) := by decide +kernel
theorem dX8_shods_35 : decode cX8_shods 35 = .ok (.iload_n 1, 1) := by decide +kernel
theorem dX8_shods_36 : decode cX8_shods 36 = .ok (.invokevirtual 92, 3) := by decide +kernel
theorem dX8_shods_39 : decode cX8_shods 39 = .ok (.aload_n 0, 1) := by decide +kernel
theorem dX8_shods_40 : decode cX8_shods 40 = .ok (.aload_n 0, 1) := by decide +kernel
theorem dX8_shods_41 : decode cX8_shods 41 = .ok (.getfield 9, 3) := by decide +kernel
theorem dX8_shods_44 : decode cX8_shods 44 = .ok (.iconst 3, 1) := by decide +kernel
theorem dX8_shods_45 : decode cX8_shods 45 = .ok (.iaload, 1) := by decide +kernel
theorem dX8_shods_46 : decode cX8_shods 46 = .ok (.ifCond .eq 7, 3) := by decide +kernel
theorem dX8_shods_49 : decode cX8_shods 49 = .ok (.iconst 1, 1) := by decide +kernel
theorem dX8_shods_50 : decode cX8_shods 50 = .ok (.goto 4, 3) := by decide +kernel
theorem dX8_shods_53 : decode cX8_shods 53 = .ok (.iconst 0, 1) := by decide +kernel
theorem dX8_shods_54 : decode cX8_shods 54 = .ok (.bipush 6, 2) := by decide +kernel
theorem dX8_shods_56 : decode cX8_shods 56 = .ok (.aload_n 0, 1) := by decide +kernel
theorem dX8_shods_57 : decode cX8_shods 57 = .ok (.getfield 9, 3) := by decide +kernel
theorem dX8_shods_60 : decode cX8_shods 60 = .ok (.iconst 3, 1) := by decide +kernel
theorem dX8_shods_61 : decode cX8_shods 61 = .ok (.iaload, 1) := by decide +kernel
theorem dX8_shods_62 : decode cX8_shods 62 = .ok (.invokevirtual 92, 3) := by decide +kernel
theorem dX8_shods_65 : decode cX8_shods 65 = .ok (.aload_n 0, 1) := by decide +kernel
theorem dX8_shods_66 : decode cX8_shods 66 = .ok (.iload_n 2, 1) := by decide +kernel
theorem dX8_shods_67 : decode cX8_shods 67 = .ok (.ifCond .ne 7, 3) := by decide +kernel
theorem dX8_shods_70 : decode cX8_shods 70 = .ok (.iconst 1, 1) := by decide +kernel
theorem dX8_shods_71 : decode cX8_shods 71 = .ok (.goto 4, 3) := by decide +kernel
theorem dX8_shods_74 : decode cX8_shods 74 = .ok (.iconst 0, 1) := by decide +kernel
theorem dX8_shods_75 : decode cX8_shods 75 = .ok (.bipush 19, 2) := by decide +kernel
theorem dX8_shods_77 : decode cX8_shods 77 = .ok (.iload_n 1, 1) := by decide +kernel
theorem dX8_shods_78 : decode cX8_shods 78 = .ok (.invokevirtual 92, 3) := by decide +kernel
theorem dX8_shods_81 : decode cX8_shods 81 = .ok (.aload_n 0, 1) := by decide +kernel
theorem dX8_shods_82 : decode cX8_shods 82 = .ok (.aload_n 0, 1) := by decide +kernel
theorem dX8_shods_83 : decode cX8_shods 83 = .ok (.getfield 9, 3) := by decide +kernel
theorem dX8_shods_86 : decode cX8_shods 86 = .ok (.bipush 6, 2) := by decide +kernel
theorem dX8_shods_88 : decode cX8_shods 88 = .ok (.iaload, 1) := by decide +kernel
theorem dX8_shods_89 : decode cX8_shods 89 = .ok (.iconst 4, 1) := by decide +kernel
theorem dX8_shods_90 : decode cX8_shods 90 = .ok (.if_icmp .ge 7, 3) := by decide +kernel
theorem dX8_shods_93 : decode cX8_shods 93 = .ok (.iconst 1, 1) := by decide +kernel
theorem dX8_shods_94 : decode cX8_shods 94 = .ok (.goto 4, 3) := by decide +kernel
theorem dX8_shods_97 : decode cX8_shods 97 = .ok (.iconst 0, 1) := by decide +kernel
theorem dX8_shods_98 : decode cX8_shods 98 = .ok (.bipush 16, 2) := by decide +kernel
theorem dX8_shods_100 : decode cX8_shods 100 = .ok (.iconst 4, 1) := by decide +kernel
theorem dX8_shods_101 : decode cX8_shods 101 = .ok (.aload_n 0, 1) := by decide +kernel
theorem dX8_shods_102 : decode cX8_shods 102 = .ok (.getfield 9, 3) := by decide +kernel
theorem dX8_shods_105 : decode cX8_shods 105 = .ok (.bipush 6, 2) := by decide +kernel
theorem dX8_shods_107 : decode cX8_shods 107 = .ok (.iaload, 1) := by decide +kernel
theorem dX8_shods_108 : decode cX8_shods 108 = .ok (.isub, 1) := by decide +kernel
theorem dX8_shods_109 : decode cX8_shods 109 = .ok (.invokevirtual 92, 3) := by decide +kernel
theorem dX8_shods_112 : decode cX8_shods 112 = .ok (.aload_n 0, 1) := by decide +kernel
theorem dX8_shods_113 : decode cX8_shods 113 = .ok (.getfield 41, 3) := by decide +kernel
theorem dX8_shods_116 : decode cX8_shods 116 = .ok (.ifCond .ne 24, 3) := by decide +kernel
theorem dX8_shods_119 : decode cX8_shods 119 = .ok (.aload_n 0, 1) := by decide +kernel
theorem dX8_shods_120 : decode cX8_shods 120 = .ok (.getfield 9, 3) := by decide +kernel
theorem dX8_shods_123 : decode cX8_shods 123 = .ok (.bipush 10, 2) := by decide +kernel
theorem dX8_shods_125 : decode cX8_shods 125 = .ok (.iload_n 1, 1) := by decide +kernel
theorem dX8_shods_126 : decode cX8_shods 126 = .ok (.iadd, 1) := by decide +kernel
theorem dX8_shods_127 : decode cX8_shods 127 = .ok (.iconst 0, 1) := by decide +kernel
theorem dX8_shods_128 : decode cX8_shods 128 = .ok (.iastore, 1) := by decide +kernel
theorem dX8_shods_129 : decode cX8_shods 129 = .ok (.aload_n 0, 1) := by decide +kernel
theorem dX8_shods_130 : decode cX8_shods 130 = .ok (.getfield 9, 3) := by decide +kernel
theorem dX8_shods_133 : decode cX8_shods 133 = .ok (.bipush 6, 2) := by decide +kernel
theorem dX8_shods_135 : decode cX8_shods 135 = .ok (.dup2, 1) := by decide +kernel
theorem dX8_shods_136 : decode cX8_shods 136 = .ok (.iaload, 1) := by decide +kernel
theorem dX8_shods_137 : decode cX8_shods 137 = .ok (.iconst 4, 1) := by decide +kernel
theorem dX8_shods_138 : decode cX8_shods 138 = .ok (.isub, 1) := by decide +kernel
theorem dX8_shods_139 : decode cX8_shods 139 = .ok (.iastore, 1) := by decide +kernel
theorem dX8_shods_140 : decode cX8_shods 140 = .ok (.iload_n 2, 1) := by decide +kernel
theorem dX8_shods_141 : decode cX8_shods 141 = .ok (.ireturn, 1) := by decide +kernel
theorem dX8_shoe_0 : decode cX8_shoe 0 = .ok (.aload_n 0, 1) := by decide +kernel
theorem dX8_shoe_1 : decode cX8_shoe 1 = .ok (.invokevirtual 89, 3) := by decide +kernel
theorem dX8_shoe_4 : decode cX8_shoe 4 = .ok (.aload_n 0, 1) := by decide +kernel
theorem dX8_shoe_5 : decode cX8_shoe 5 = .ok (.aload_n 0, 1) := by decide +kernel
theorem dX8_shoe_6 : decode cX8_shoe 6 = .ok (.iload_n 1, 1) := by decide +kernel
theorem dX8_shoe_7 : decode cX8_shoe 7 = .ok (.invokevirtual 134, 3) := by decide +kernel
theorem dX8_shoe_10 : decode cX8_shoe 10 = .ok (.iconst 0, 1) := by decide +kernel
theorem dX8_shoe_11 : decode cX8_shoe 11 = .ok (.iconst 1, 1) := by decide +kernel
theorem dX8_shoe_12 : decode cX8_shoe 12 = .ok (.invokevirtual 100, 3) := by decide +kernel
theorem dX8_shoe_15 : decode cX8_shoe 15 = .ok (.ireturn, 1) := by decide +kernel
theorem dX8_shoeOf_0 : decode cX8_shoeOf 0 = .ok (.aload_n 0, 1) := by decide +kernel
theorem dX8_shoeOf_1 : decode cX8_shoeOf 1 = .ok (.iload_n 1, 1) := by decide +kernel
theorem dX8_shoeOf_2 : decode cX8_shoeOf 2 = .ok (.invokestatic 131, 3) := by decide +kernel
theorem dX8_shoeOf_5 : decode cX8_shoeOf 5 = .ok (.ifCond .eq 7, 3) := by decide +kernel
theorem dX8_shoeOf_8 : decode cX8_shoeOf 8 = .ok (.iconst 0, 1) := by decide +kernel
theorem dX8_shoeOf_9 : decode cX8_shoeOf 9 = .ok (.goto 4, 3) := by decide +kernel
theorem dX8_shoeOf_12 : decode cX8_shoeOf 12 = .ok (.iconst 1, 1) := by decide +kernel
theorem dX8_shoeOf_13 : decode cX8_shoeOf 13 = .ok (.putfield 38, 3) := by decide +kernel
theorem dX8_shoeOf_16 : decode cX8_shoeOf 16 = .ok (.aload_n 0, 1) := by decide +kernel
theorem dX8_shoeOf_17 : decode cX8_shoeOf 17 = .ok (.getfield 38, 3) := by decide +kernel
theorem dX8_shoeOf_20 : decode cX8_shoeOf 20 = .ok (.ifCond .ne 15, 3) := by decide +kernel
theorem dX8_shoeOf_23 : decode cX8_shoeOf 23 = .ok (.aload_n 0, 1) := by decide +kernel
theorem dX8_shoeOf_24 : decode cX8_shoeOf 24 = .ok (.getfield 9, 3) := by decide +kernel
theorem dX8_shoeOf_27 : decode cX8_shoeOf 27 = .ok (.bipush 10, 2) := by decide +kernel
theorem dX8_shoeOf_29 : decode cX8_shoeOf 29 = .ok (.iload_n 1, 1) := by decide +kernel
theorem dX8_shoeOf_30 : decode cX8_shoeOf 30 = .ok (.iadd, 1) := by decide +kernel
theorem dX8_shoeOf_31 : decode cX8_shoeOf 31 = .ok (.iaload, 1) := by decide +kernel
theorem dX8_shoeOf_32 : decode cX8_shoeOf 32 = .ok (.goto 4, 3) := by decide +kernel
theorem dX8_shoeOf_35 : decode cX8_shoeOf 35 = .ok (.iconst 0, 1) := by decide +kernel
theorem dX8_shoeOf_36 : decode cX8_shoeOf 36 = .ok (.ireturn, 1) := by decide +kernel
theorem dX8_reach_0 : decode cX8_reach 0 = .ok (.aload_n 0, 1) := by decide +kernel
theorem dX8_reach_1 : decode cX8_reach 1 = .ok (.iconst 0, 1) := by decide +kernel
theorem dX8_reach_2 : decode cX8_reach 2 = .ok (.putfield 38, 3) := by decide +kernel
theorem dX8_reach_5 : decode cX8_reach 5 = .ok (.aload_n 0, 1) := by decide +kernel
theorem dX8_reach_6 : decode cX8_reach 6 = .ok (.invokevirtual 121, 3) := by decide +kernel
theorem dX8_reach_9 : decode cX8_reach 9 = .ok (.iconst 3, 1) := by decide +kernel
theorem dX8_reach_10 : decode cX8_reach 10 = .ok (.if_icmp .lt 21, 3) := by decide +kernel
theorem dX8_reach_13 : decode cX8_reach 13 = .ok (.aload_n 0, 1) := by decide +kernel
theorem dX8_reach_14 : decode cX8_reach 14 = .ok (.getfield 9, 3) := by decide +kernel
theorem dX8_reach_17 : decode cX8_reach 17 = .ok (.iconst 1, 1) := by decide +kernel
theorem dX8_reach_18 : decode cX8_reach 18 = .ok (.iaload, 1) := by decide +kernel
theorem dX8_reach_19 : decode cX8_reach 19 = .ok (.aload_n 0, 1) := by decide +kernel
theorem dX8_reach_20 : decode cX8_reach 20 = .ok (.getfield 9, 3) := by decide +kernel
theorem dX8_reach_23 : decode cX8_reach 23 = .ok (.iconst 3, 1) := by decide +kernel
theorem dX8_reach_24 : decode cX8_reach 24 = .ok (.iaload, 1) := by decide +kernel
theorem dX8_reach_25 : decode cX8_reach 25 = .ok (.invokestatic 78, 3) := by decide +kernel
theorem dX8_reach_28 : decode cX8_reach 28 = .ok (.goto 9, 3) := by decide +kernel
theorem dX8_reach_31 : decode cX8_reach 31 = .ok (.aload_n 0, 1) := by decide +kernel
theorem dX8_reach_32 : decode cX8_reach 32 = .ok (.getfield 9, 3) := by decide +kernel
theorem dX8_reach_35 : decode cX8_reach 35 = .ok (.iconst 3, 1) := by decide +kernel
theorem dX8_reach_36 : decode cX8_reach 36 = .ok (.iaload, 1) := by decide +kernel
theorem dX8_reach_37 : decode cX8_reach 37 = .ok (.ireturn, 1) := by decide +kernel
theorem dX8_here_0 : decode cX8_here 0 = .ok (.aload_n 0, 1) := by decide +kernel
theorem dX8_here_1 : decode cX8_here 1 = .ok (.getfield 9, 3) := by decide +kernel
theorem dX8_here_4 : decode cX8_here 4 = .ok (.iconst 3, 1) := by decide +kernel
theorem dX8_here_5 : decode cX8_here 5 = .ok (.iaload, 1) := by decide +kernel
theorem dX8_here_6 : decode cX8_here 6 = .ok (.iconst 1, 1) := by decide +kernel
theorem dX8_here_7 : decode cX8_here 7 = .ok (.isub, 1) := by decide +kernel
theorem dX8_here_8 : decode cX8_here 8 = .ok (.ireturn, 1) := by decide +kernel
theorem dX8_sackGoesUp_0 : decode cX8_sackGoesUp 0 = .ok (.bipush 9, 2) := by decide +kernel
theorem dX8_sackGoesUp_2 : decode cX8_sackGoesUp 2 = .ok (.aload_n 0, 1) := by decide +kernel
theorem dX8_sackGoesUp_3 : decode cX8_sackGoesUp 3 = .ok (.iload_n 1, 1) := by decide +kernel
theorem dX8_sackGoesUp_4 : decode cX8_sackGoesUp 4 = .ok (.iconst 2, 1) := by decide +kernel
theorem dX8_sackGoesUp_5 : decode cX8_sackGoesUp 5 = .ok (.invokevirtual 83, 3) := by decide +kernel
theorem dX8_sackGoesUp_8 : decode cX8_sackGoesUp 8 = .ok (.iconst 1, 1) := by decide +kernel
theorem dX8_sackGoesUp_9 : decode cX8_sackGoesUp 9 = .ok (.iadd, 1) := by decide +kernel
theorem dX8_sackGoesUp_10 : decode cX8_sackGoesUp 10 = .ok (.invokestatic 125, 3) := by decide +kernel
theorem dX8_sackGoesUp_13 : decode cX8_sackGoesUp 13 = .ok (.istore_n 3, 1) := by decide +kernel
theorem dX8_sackGoesUp_14 : decode cX8_sackGoesUp 14 = .ok (.aload_n 0, 1) := by decide +kernel
theorem dX8_sackGoesUp_15 : decode cX8_sackGoesUp 15 = .ok (.iload_n 1, 1) := by decide +kernel
theorem dX8_sackGoesUp_16 : decode cX8_sackGoesUp 16 = .ok (.iconst 1, 1) := by decide +kernel
theorem dX8_sackGoesUp_17 : decode cX8_sackGoesUp 17 = .ok (.aload_n 0, 1) := by decide +kernel
theorem dX8_sackGoesUp_18 : decode cX8_sackGoesUp 18 = .ok (.iload_n 1, 1) := by decide +kernel
theorem dX8_sackGoesUp_19 : decode cX8_sackGoesUp 19 = .ok (.iconst 1, 1) := by decide +kernel
theorem dX8_sackGoesUp_20 : decode cX8_sackGoesUp 20 = .ok (.invokevirtual 83, 3) := by decide +kernel
theorem dX8_sackGoesUp_23 : decode cX8_sackGoesUp 23 = .ok (.aload_n 0, 1) := by decide +kernel
theorem dX8_sackGoesUp_24 : decode cX8_sackGoesUp 24 = .ok (.iload_n 1, 1) := by decide +kernel
theorem dX8_sackGoesUp_25 : decode cX8_sackGoesUp 25 = .ok (.iload_n 2, 1) := by decide +kernel
theorem dX8_sackGoesUp_26 : decode cX8_sackGoesUp 26 = .ok (.invokevirtual 86, 3) := by decide +kernel
theorem dX8_sackGoesUp_29 : decode cX8_sackGoesUp 29 = .ok (.iadd, 1) := by decide +kernel
theorem dX8_sackGoesUp_30 : decode cX8_sackGoesUp 30 = .ok (.invokevirtual 108, 3) := by decide +kernel
theorem dX8_sackGoesUp_33 : decode cX8_sackGoesUp 33 = .ok (.aload_n 0, 1) := by decide +kernel
theorem dX8_sackGoesUp_34 : decode cX8_sackGoesUp 34 = .ok (.iload_n 1, 1) := by decide +kernel
theorem dX8_sackGoesUp_35 : decode cX8_sackGoesUp 35 = .ok (.iconst 2, 1) := by decide +kernel
theorem dX8_sackGoesUp_36 : decode cX8_sackGoesUp 36 = .ok (.iload_n 3, 1) := by decide +kernel
theorem dX8_sackGoesUp_37 : decode cX8_sackGoesUp 37 = .ok (.invokevirtual 108, 3) := by decide +kernel
theorem dX8_sackGoesUp_40 : decode cX8_sackGoesUp 40 = .ok (.aload_n 0, 1) := by decide +kernel
theorem dX8_sackGoesUp_41 : decode cX8_sackGoesUp 41 = .ok (.iload_n 1, 1) := by decide +kernel
theorem dX8_sackGoesUp_42 : decode cX8_sackGoesUp 42 = .ok (.iconst 3, 1) := by decide +kernel
theorem dX8_sackGoesUp_43 : decode cX8_sackGoesUp 43 = .ok (.aload_n 0, 1) := by decide +kernel
theorem dX8_sackGoesUp_44 : decode cX8_sackGoesUp 44 = .ok (.iload_n 1, 1) := by decide +kernel
theorem dX8_sackGoesUp_45 : decode cX8_sackGoesUp 45 = .ok (.iconst 3, 1) := by decide +kernel
theorem dX8_sackGoesUp_46 : decode cX8_sackGoesUp 46 = .ok (.invokevirtual 83, 3) := by decide +kernel
theorem dX8_sackGoesUp_49 : decode cX8_sackGoesUp 49 = .ok (.iconst 1, 1) := by decide +kernel
theorem dX8_sackGoesUp_50 : decode cX8_sackGoesUp 50 = .ok (.iadd, 1) := by decide +kernel
theorem dX8_sackGoesUp_51 : decode cX8_sackGoesUp 51 = .ok (.invokevirtual 108, 3) := by decide +kernel
theorem dX8_sackGoesUp_54 : decode cX8_sackGoesUp 54 = .ok (.aload_n 0, 1) := by decide +kernel
theorem dX8_sackGoesUp_55 : decode cX8_sackGoesUp 55 = .ok (.iload_n 2, 1) := by decide +kernel
theorem dX8_sackGoesUp_56 : decode cX8_sackGoesUp 56 = .ok (.iconst 5, 1) := by decide +kernel
theorem dX8_sackGoesUp_57 : decode cX8_sackGoesUp 57 = .ok (.aload_n 0, 1) := by decide +kernel
theorem dX8_sackGoesUp_58 : decode cX8_sackGoesUp 58 = .ok (.iload_n 2, 1) := by decide +kernel
theorem dX8_sackGoesUp_59 : decode cX8_sackGoesUp 59 = .ok (.iconst 5, 1) := by decide +kernel
theorem dX8_sackGoesUp_60 : decode cX8_sackGoesUp 60 = .ok (.invokevirtual 74, 3) := by decide +kernel
theorem dX8_sackGoesUp_63 : decode cX8_sackGoesUp 63 = .ok (.iload_n 3, 1) := by decide +kernel
theorem dX8_sackGoesUp_64 : decode cX8_sackGoesUp 64 = .ok (.iconst 3, 1) := by decide +kernel
theorem dX8_sackGoesUp_65 : decode cX8_sackGoesUp 65 = .ok (.idiv, 1) := by decide +kernel
theorem dX8_sackGoesUp_66 : decode cX8_sackGoesUp 66 = .ok (.iadd, 1) := by decide +kernel
theorem dX8_sackGoesUp_67 : decode cX8_sackGoesUp 67 = .ok (.invokevirtual 96, 3) := by decide +kernel
theorem dX8_sackGoesUp_70 : decode cX8_sackGoesUp 70 = .ok (.aload_n 0, 1) := by decide +kernel
theorem dX8_sackGoesUp_71 : decode cX8_sackGoesUp 71 = .ok (.iload_n 2, 1) := by decide +kernel
theorem dX8_sackGoesUp_72 : decode cX8_sackGoesUp 72 = .ok (.iconst 3, 1) := by decide +kernel
theorem dX8_sackGoesUp_73 : decode cX8_sackGoesUp 73 = .ok (.aload_n 0, 1) := by decide +kernel
theorem dX8_sackGoesUp_74 : decode cX8_sackGoesUp 74 = .ok (.iload_n 2, 1) := by decide +kernel
theorem dX8_sackGoesUp_75 : decode cX8_sackGoesUp 75 = .ok (.iconst 3, 1) := by decide +kernel
theorem dX8_sackGoesUp_76 : decode cX8_sackGoesUp 76 = .ok (.invokevirtual 74, 3) := by decide +kernel
theorem dX8_sackGoesUp_79 : decode cX8_sackGoesUp 79 = .ok (.iconst 1, 1) := by decide +kernel
theorem dX8_sackGoesUp_80 : decode cX8_sackGoesUp 80 = .ok (.isub, 1) := by decide +kernel
theorem dX8_sackGoesUp_81 : decode cX8_sackGoesUp 81 = .ok (.invokevirtual 96, 3) := by decide +kernel
theorem dX8_sackGoesUp_84 : decode cX8_sackGoesUp 84 = .ok (.aload_n 0, 1) := by decide +kernel
theorem dX8_sackGoesUp_85 : decode cX8_sackGoesUp 85 = .ok (.iload_n 2, 1) := by decide +kernel
theorem dX8_sackGoesUp_86 : decode cX8_sackGoesUp 86 = .ok (.iconst 4, 1) := by decide +kernel
theorem dX8_sackGoesUp_87 : decode cX8_sackGoesUp 87 = .ok (.aload_n 0, 1) := by decide +kernel
theorem dX8_sackGoesUp_88 : decode cX8_sackGoesUp 88 = .ok (.iload_n 2, 1) := by decide +kernel
theorem dX8_sackGoesUp_89 : decode cX8_sackGoesUp 89 = .ok (.iconst 4, 1) := by decide +kernel
theorem dX8_sackGoesUp_90 : decode cX8_sackGoesUp 90 = .ok (.invokevirtual 74, 3) := by decide +kernel
theorem dX8_sackGoesUp_93 : decode cX8_sackGoesUp 93 = .ok (.iconst 3, 1) := by decide +kernel
theorem dX8_sackGoesUp_94 : decode cX8_sackGoesUp 94 = .ok (.iadd, 1) := by decide +kernel
theorem dX8_sackGoesUp_95 : decode cX8_sackGoesUp 95 = .ok (.invokevirtual 96, 3) := by decide +kernel
theorem dX8_sackGoesUp_98 : decode cX8_sackGoesUp 98 = .ok (.aload_n 0, 1) := by decide +kernel
theorem dX8_sackGoesUp_99 : decode cX8_sackGoesUp 99 = .ok (.iload_n 2, 1) := by decide +kernel
theorem dX8_sackGoesUp_100 : decode cX8_sackGoesUp 100 = .ok (.bipush 6, 2) := by decide +kernel
theorem dX8_sackGoesUp_102 : decode cX8_sackGoesUp 102 = .ok (.aload_n 0, 1) := by decide +kernel
theorem dX8_sackGoesUp_103 : decode cX8_sackGoesUp 103 = .ok (.iload_n 2, 1) := by decide +kernel
theorem dX8_sackGoesUp_104 : decode cX8_sackGoesUp 104 = .ok (.bipush 6, 2) := by decide +kernel
theorem dX8_sackGoesUp_106 : decode cX8_sackGoesUp 106 = .ok (.invokevirtual 74, 3) := by decide +kernel
theorem dX8_sackGoesUp_109 : decode cX8_sackGoesUp 109 = .ok (.iconst 1, 1) := by decide +kernel
theorem dX8_sackGoesUp_110 : decode cX8_sackGoesUp 110 = .ok (.iadd, 1) := by decide +kernel
theorem dX8_sackGoesUp_111 : decode cX8_sackGoesUp 111 = .ok (.invokevirtual 96, 3) := by decide +kernel
theorem dX8_sackGoesUp_114 : decode cX8_sackGoesUp 114 = .ok (.aload_n 0, 1) := by decide +kernel
theorem dX8_sackGoesUp_115 : decode cX8_sackGoesUp 115 = .ok (.iload_n 2, 1) := by decide +kernel
theorem dX8_sackGoesUp_116 : decode cX8_sackGoesUp 116 = .ok (.bipush 8, 2) := by decide +kernel
theorem dX8_sackGoesUp_118 : decode cX8_sackGoesUp 118 = .ok (.aload_n 0, 1) := by decide +kernel
theorem dX8_sackGoesUp_119 : decode cX8_sackGoesUp 119 = .ok (.iload_n 2, 1) := by decide +kernel
theorem dX8_sackGoesUp_120 : decode cX8_sackGoesUp 120 = .ok (.bipush 8, 2) := by decide +kernel
theorem dX8_sackGoesUp_122 : decode cX8_sackGoesUp 122 = .ok (.invokevirtual 74, 3) := by decide +kernel
theorem dX8_sackGoesUp_125 : decode cX8_sackGoesUp 125 = .ok (.iconst 1, 1) := by decide +kernel
theorem dX8_sackGoesUp_126 : decode cX8_sackGoesUp 126 = .ok (.iadd, 1) := by decide +kernel
theorem dX8_sackGoesUp_127 : decode cX8_sackGoesUp 127 = .ok (.invokevirtual 96, 3) := by decide +kernel
theorem dX8_sackGoesUp_130 : decode cX8_sackGoesUp 130 = .ok (.aload_n 0, 1) := by decide +kernel
theorem dX8_sackGoesUp_131 : decode cX8_sackGoesUp 131 = .ok (.getfield 9, 3) := by decide +kernel
theorem dX8_sackGoesUp_134 : decode cX8_sackGoesUp 134 = .ok (.iconst 4, 1) := by decide +kernel
theorem dX8_sackGoesUp_135 : decode cX8_sackGoesUp 135 = .ok (.dup2, 1) := by decide +kernel
theorem dX8_sackGoesUp_136 : decode cX8_sackGoesUp 136 = .ok (.iaload, 1) := by decide +kernel
theorem dX8_sackGoesUp_137 : decode cX8_sackGoesUp 137 = .ok (.iconst 1, 1) := by decide +kernel
theorem dX8_sackGoesUp_138 : decode cX8_sackGoesUp 138 = .ok (.isub, 1) := by decide +kernel
theorem dX8_sackGoesUp_139 : decode cX8_sackGoesUp 139 = .ok (.iastore, 1) := by decide +kernel
theorem dX8_sackGoesUp_140 : decode cX8_sackGoesUp 140 = .ok (.return_, 1) := by decide +kernel
theorem dX8_carries_0 : decode cX8_carries 0 = .ok (.aload_n 0, 1) := by decide +kernel
theorem dX8_carries_1 : decode cX8_carries 1 = .ok (.invokevirtual 137, 3) := by decide +kernel
theorem dX8_carries_4 : decode cX8_carries 4 = .ok (.istore_n 3, 1) := by decide +kernel
theorem dX8_carries_5 : decode cX8_carries 5 = .ok (.aload_n 0, 1) := by decide +kernel
theorem dX8_carries_6 : decode cX8_carries 6 = .ok (.aload_n 0, 1) := by decide +kernel
theorem dX8_carries_7 : decode cX8_carries 7 = .ok (.iload_n 1, 1) := by decide +kernel
theorem dX8_carries_8 : decode cX8_carries 8 = .ok (.invokevirtual 115, 3) := by decide +kernel
theorem dX8_carries_11 : decode cX8_carries 11 = .ok (.ifCond .ne 7, 3) := by decide +kernel
theorem dX8_carries_14 : decode cX8_carries 14 = .ok (.iconst 1, 1) := by decide +kernel
theorem dX8_carries_15 : decode cX8_carries 15 = .ok (.goto 4, 3) := by decide +kernel
theorem dX8_carries_18 : decode cX8_carries 18 = .ok (.iconst 0, 1) := by decide +kernel
theorem dX8_carries_19 : decode cX8_carries 19 = .ok (.iconst 3, 1) := by decide +kernel
theorem dX8_carries_20 : decode cX8_carries 20 = .ok (.iload_n 1, 1) := by decide +kernel
theorem dX8_carries_21 : decode cX8_carries 21 = .ok (.invokevirtual 92, 3) := by decide +kernel
theorem dX8_carries_24 : decode cX8_carries 24 = .ok (.aload_n 0, 1) := by decide +kernel
theorem dX8_carries_25 : decode cX8_carries 25 = .ok (.iload_n 2, 1) := by decide +kernel
theorem dX8_carries_26 : decode cX8_carries 26 = .ok (.iconst 1, 1) := by decide +kernel
theorem dX8_carries_27 : decode cX8_carries 27 = .ok (.bipush 9, 2) := by decide +kernel
theorem dX8_carries_29 : decode cX8_carries 29 = .ok (.invokestatic 66, 3) := by decide +kernel
theorem dX8_carries_32 : decode cX8_carries 32 = .ok (.ifCond .ne 7, 3) := by decide +kernel
theorem dX8_carries_35 : decode cX8_carries 35 = .ok (.iconst 1, 1) := by decide +kernel
theorem dX8_carries_36 : decode cX8_carries 36 = .ok (.goto 4, 3) := by decide +kernel
theorem dX8_carries_39 : decode cX8_carries 39 = .ok (.iconst 0, 1) := by decide +kernel
theorem dX8_carries_40 : decode cX8_carries 40 = .ok (.iconst 1, 1) := by decide +kernel
theorem dX8_carries_41 : decode cX8_carries 41 = .ok (.iconst 0, 1) := by decide +kernel
theorem dX8_carries_42 : decode cX8_carries 42 = .ok (.invokevirtual 92, 3) := by decide +kernel
theorem dX8_carries_45 : decode cX8_carries 45 = .ok (.aload_n 0, 1) := by decide +kernel
theorem dX8_carries_46 : decode cX8_carries 46 = .ok (.iload_n 3, 1) := by decide +kernel
theorem dX8_carries_47 : decode cX8_carries 47 = .ok (.ifCond .ge 7, 3) := by decide +kernel
theorem dX8_carries_50 : decode cX8_carries 50 = .ok (.iconst 1, 1) := by decide +kernel
theorem dX8_carries_51 : decode cX8_carries 51 = .ok (.goto 4, 3) := by decide +kernel
theorem dX8_carries_54 : decode cX8_carries 54 = .ok (.iconst 0, 1) := by decide +kernel
theorem dX8_carries_55 : decode cX8_carries 55 = .ok (.bipush 7, 2) := by decide +kernel
theorem dX8_carries_57 : decode cX8_carries 57 = .ok (.iconst 0, 1) := by decide +kernel
theorem dX8_carries_58 : decode cX8_carries 58 = .ok (.invokevirtual 92, 3) := by decide +kernel
theorem dX8_carries_61 : decode cX8_carries 61 = .ok (.aload_n 0, 1) := by decide +kernel
theorem dX8_carries_62 : decode cX8_carries 62 = .ok (.getfield 41, 3) := by decide +kernel
theorem dX8_carries_65 : decode cX8_carries 65 = .ok (.ifCond .eq 5, 3) := by decide +kernel
theorem dX8_carries_68 : decode cX8_carries 68 = .ok (.iconst 0, 1) := by decide +kernel
theorem dX8_carries_69 : decode cX8_carries 69 = .ok (.ireturn, 1) := by decide +kernel
theorem dX8_carries_70 : decode cX8_carries 70 = .ok (.aload_n 0, 1) := by decide +kernel
theorem dX8_carries_71 : decode cX8_carries 71 = .ok (.iload_n 1, 1) := by decide +kernel
theorem dX8_carries_72 : decode cX8_carries 72 = .ok (.iconst 1, 1) := by decide +kernel
theorem dX8_carries_73 : decode cX8_carries 73 = .ok (.invokevirtual 83, 3) := by decide +kernel
theorem dX8_carries_76 : decode cX8_carries 76 = .ok (.iload_n 2, 1) := by decide +kernel
theorem dX8_carries_77 : decode cX8_carries 77 = .ok (.aload_n 0, 1) := by decide +kernel
theorem dX8_carries_78 : decode cX8_carries 78 = .ok (.iload_n 1, 1) := by decide +kernel
theorem dX8_carries_79 : decode cX8_carries 79 = .ok (.iload_n 3, 1) := by decide +kernel
theorem dX8_carries_80 : decode cX8_carries 80 = .ok (.invokevirtual 86, 3) := by decide +kernel
theorem dX8_carries_83 : decode cX8_carries 83 = .ok (.imul, 1) := by decide +kernel
theorem dX8_carries_84 : decode cX8_carries 84 = .ok (.iadd, 1) := by decide +kernel
theorem dX8_carries_85 : decode cX8_carries 85 = .ok (.istore 4, 2) := by decide +kernel
theorem dX8_carries_87 : decode cX8_carries 87 = .ok (.aload_n 0, 1) := by decide +kernel
theorem dX8_carries_88 : decode cX8_carries 88 = .ok (.aload_n 0, 1) := by decide +kernel
theorem dX8_carries_89 : decode cX8_carries 89 = .ok (.getfield 9, 3) := by decide +kernel
theorem dX8_carries_92 : decode cX8_carries 92 = .ok (.iconst 4, 1) := by decide +kernel
theorem dX8_carries_93 : decode cX8_carries 93 = .ok (.iaload, 1) := by decide +kernel
theorem dX8_carries_94 : decode cX8_carries 94 = .ok (.iload_n 2, 1) := by decide +kernel
theorem dX8_carries_95 : decode cX8_carries 95 = .ok (.if_icmp .ge 7, 3) := by decide +kernel
theorem dX8_carries_98 : decode cX8_carries 98 = .ok (.iconst 1, 1) := by decide +kernel
theorem dX8_carries_99 : decode cX8_carries 99 = .ok (.goto 4, 3) := by decide +kernel
theorem dX8_carries_102 : decode cX8_carries 102 = .ok (.iconst 0, 1) := by decide +kernel
theorem dX8_carries_103 : decode cX8_carries 103 = .ok (.bipush 8, 2) := by decide +kernel
theorem dX8_carries_105 : decode cX8_carries 105 = .ok (.aload_n 0, 1) := by decide +kernel
theorem dX8_carries_106 : decode cX8_carries 106 = .ok (.getfield 9, 3) := by decide +kernel
theorem dX8_carries_109 : decode cX8_carries 109 = .ok (.iconst 4, 1) := by decide +kernel
theorem dX8_carries_110 : decode cX8_carries 110 = .ok (.iaload, 1) := by decide +kernel
theorem dX8_carries_111 : decode cX8_carries 111 = .ok (.invokevirtual 92, 3) := by decide +kernel
theorem dX8_carries_114 : decode cX8_carries 114 = .ok (.aload_n 0, 1) := by decide +kernel
theorem dX8_carries_115 : decode cX8_carries 115 = .ok (.aload_n 0, 1) := by decide +kernel
theorem dX8_carries_116 : decode cX8_carries 116 = .ok (.iload_n 3, 1) := by decide +kernel
theorem dX8_carries_117 : decode cX8_carries 117 = .ok (.iconst 3, 1) := by decide +kernel
theorem dX8_carries_118 : decode cX8_carries 118 = .ok (.invokevirtual 74, 3) := by decide +kernel
theorem dX8_carries_121 : decode cX8_carries 121 = .ok (.iload_n 2, 1) := by decide +kernel
theorem dX8_carries_122 : decode cX8_carries 122 = .ok (.if_icmp .ge 7, 3) := by decide +kernel
theorem dX8_carries_125 : decode cX8_carries 125 = .ok (.iconst 1, 1) := by decide +kernel
theorem dX8_carries_126 : decode cX8_carries 126 = .ok (.goto 4, 3) := by decide +kernel
theorem dX8_carries_129 : decode cX8_carries 129 = .ok (.iconst 0, 1) := by decide +kernel
theorem dX8_carries_130 : decode cX8_carries 130 = .ok (.bipush 9, 2) := by decide +kernel
theorem dX8_carries_132 : decode cX8_carries 132 = .ok (.aload_n 0, 1) := by decide +kernel
theorem dX8_carries_133 : decode cX8_carries 133 = .ok (.iload_n 3, 1) := by decide +kernel
theorem dX8_carries_134 : decode cX8_carries 134 = .ok (.iconst 3, 1) := by decide +kernel
theorem dX8_carries_135 : decode cX8_carries 135 = .ok (.invokevirtual 74, 3) := by decide +kernel
theorem dX8_carries_138 : decode cX8_carries 138 = .ok (.invokevirtual 92, 3) := by decide +kernel
theorem dX8_carries_141 : decode cX8_carries 141 = .ok (.aload_n 0, 1) := by decide +kernel
theorem dX8_carries_142 : decode cX8_carries 142 = .ok (.aload_n 0, 1) := by decide +kernel
theorem dX8_carries_143 : decode cX8_carries 143 = .ok (.iload_n 3, 1) := by decide +kernel
theorem dX8_carries_144 : decode cX8_carries 144 = .ok (.iconst 4, 1) := by decide +kernel
theorem dX8_carries_145 : decode cX8_carries 145 = .ok (.invokevirtual 74, 3) := by decide +kernel
theorem dX8_carries_148 : decode cX8_carries 148 = .ok (.bipush 12, 2) := by decide +kernel
theorem dX8_carries_150 : decode cX8_carries 150 = .ok (.if_icmp .le 7, 3) := by decide +kernel
theorem dX8_carries_153 : decode cX8_carries 153 = .ok (.iconst 1, 1) := by decide +kernel
theorem dX8_carries_154 : decode cX8_carries 154 = .ok (.goto 4, 3) := by decide +kernel
theorem dX8_carries_157 : decode cX8_carries 157 = .ok (.iconst 0, 1) := by decide +kernel
theorem dX8_carries_158 : decode cX8_carries 158 = .ok (.bipush 10, 2) := by decide +kernel
theorem dX8_carries_160 : decode cX8_carries 160 = .ok (.aload_n 0, 1) := by decide +kernel
theorem dX8_carries_161 : decode cX8_carries 161 = .ok (.iload_n 3, 1) := by decide +kernel
theorem dX8_carries_162 : decode cX8_carries 162 = .ok (.iconst 4, 1) := by decide +kernel
theorem dX8_carries_163 : decode cX8_carries 163 = .ok (.invokevirtual 74, 3) := by decide +kernel
theorem dX8_carries_166 : decode cX8_carries 166 = .ok (.invokevirtual 92, 3) := by decide +kernel
theorem dX8_carries_169 : decode cX8_carries 169 = .ok (.aload_n 0, 1) := by decide +kernel
theorem dX8_carries_170 : decode cX8_carries 170 = .ok (.aload_n 0, 1) := by decide +kernel
theorem dX8_carries_171 : decode cX8_carries 171 = .ok (.iload_n 3, 1) := by decide +kernel
theorem dX8_carries_172 : decode cX8_carries 172 = .ok (.iconst 5, 1) := by decide +kernel
theorem dX8_carries_173 : decode cX8_carries 173 = .ok (.invokevirtual 74, 3) := by decide +kernel
theorem dX8_carries_176 : decode cX8_carries 176 = .ok (.bipush 8, 2) := by decide +kernel
theorem dX8_carries_178 : decode cX8_carries 178 = .ok (.if_icmp .le 7, 3) := by decide +kernel
theorem dX8_carries_181 : decode cX8_carries 181 = .ok (.iconst 1, 1) := by decide +kernel
theorem dX8_carries_182 : decode cX8_carries 182 = .ok (.goto 4, 3) := by decide +kernel
theorem dX8_carries_185 : decode cX8_carries 185 = .ok (.iconst 0, 1) := by decide +kernel
theorem dX8_carries_186 : decode cX8_carries 186 = .ok (.bipush 11, 2) := by decide +kernel
theorem dX8_carries_188 : decode cX8_carries 188 = .ok (.aload_n 0, 1) := by decide +kernel
theorem dX8_carries_189 : decode cX8_carries 189 = .ok (.iload_n 3, 1) := by decide +kernel
theorem dX8_carries_190 : decode cX8_carries 190 = .ok (.iconst 5, 1) := by decide +kernel
theorem dX8_carries_191 : decode cX8_carries 191 = .ok (.invokevirtual 74, 3) := by decide +kernel
theorem dX8_carries_194 : decode cX8_carries 194 = .ok (.invokevirtual 92, 3) := by decide +kernel
theorem dX8_carries_197 : decode cX8_carries 197 = .ok (.aload_n 0, 1) := by decide +kernel
theorem dX8_carries_198 : decode cX8_carries 198 = .ok (.aload_n 0, 1) := by decide +kernel
theorem dX8_carries_199 : decode cX8_carries 199 = .ok (.iload_n 3, 1) := by decide +kernel
theorem dX8_carries_200 : decode cX8_carries 200 = .ok (.invokevirtual 111, 3) := by decide +kernel
theorem dX8_carries_203 : decode cX8_carries 203 = .ok (.iload_n 2, 1) := by decide +kernel
theorem dX8_carries_204 : decode cX8_carries 204 = .ok (.if_icmp .ge 7, 3) := by decide +kernel
theorem dX8_carries_207 : decode cX8_carries 207 = .ok (.iconst 1, 1) := by decide +kernel
theorem dX8_carries_208 : decode cX8_carries 208 = .ok (.goto 4, 3) := by decide +kernel
theorem dX8_carries_211 : decode cX8_carries 211 = .ok (.iconst 0, 1) := by decide +kernel
theorem dX8_carries_212 : decode cX8_carries 212 = .ok (.bipush 12, 2) := by decide +kernel
theorem dX8_carries_214 : decode cX8_carries 214 = .ok (.aload_n 0, 1) := by decide +kernel
theorem dX8_carries_215 : decode cX8_carries 215 = .ok (.iload_n 3, 1) := by decide +kernel
theorem dX8_carries_216 : decode cX8_carries 216 = .ok (.invokevirtual 111, 3) := by decide +kernel
theorem dX8_carries_219 : decode cX8_carries 219 = .ok (.invokevirtual 92, 3) := by decide +kernel
theorem dX8_carries_222 : decode cX8_carries 222 = .ok (.aload_n 0, 1) := by decide +kernel
theorem dX8_carries_223 : decode cX8_carries 223 = .ok (.iload 4, 2) := by decide +kernel
theorem dX8_carries_225 : decode cX8_carries 225 = .ok (.bipush 30, 2) := by decide +kernel
theorem dX8_carries_227 : decode cX8_carries 227 = .ok (.if_icmp .le 7, 3) := by decide +kernel
theorem dX8_carries_230 : decode cX8_carries 230 = .ok (.iconst 1, 1) := by decide +kernel
theorem dX8_carries_231 : decode cX8_carries 231 = .ok (.goto 4, 3) := by decide +kernel
theorem dX8_carries_234 : decode cX8_carries 234 = .ok (.iconst 0, 1) := by decide +kernel
theorem dX8_carries_235 : decode cX8_carries 235 = .ok (.bipush 13, 2) := by decide +kernel
theorem dX8_carries_237 : decode cX8_carries 237 = .ok (.iload 4, 2) := by decide +kernel
theorem dX8_carries_239 : decode cX8_carries 239 = .ok (.invokevirtual 92, 3) := by decide +kernel
theorem dX8_carries_242 : decode cX8_carries 242 = .ok (.iconst 0, 1) := by decide +kernel
theorem dX8_carries_243 : decode cX8_carries 243 = .ok (.istore 5, 2) := by decide +kernel
theorem dX8_carries_245 : decode cX8_carries 245 = .ok (.iload 5, 2) := by decide +kernel
theorem dX8_carries_247 : decode cX8_carries 247 = .ok (.iload_n 2, 1) := by decide +kernel
theorem dX8_carries_248 : decode cX8_carries 248 = .ok (.if_icmp .ge 22, 3) := by decide +kernel
theorem dX8_carries_251 : decode cX8_carries 251 = .ok (.aload_n 0, 1) := by decide +kernel
theorem dX8_carries_252 : decode cX8_carries 252 = .ok (.getfield 41, 3) := by decide +kernel
theorem dX8_carries_255 : decode cX8_carries 255 = .ok (.ifCond .ne 15, 3) := by decide +kernel
theorem dX8_carries_258 : decode cX8_carries 258 = .ok (.aload_n 0, 1) := by decide +kernel
theorem dX8_carries_259 : decode cX8_carries 259 = .ok (.iload_n 1, 1) := by decide +kernel
theorem dX8_carries_260 : decode cX8_carries 260 = .ok (.iload_n 3, 1) := by decide +kernel
theorem dX8_carries_261 : decode cX8_carries 261 = .ok (.invokevirtual 140, 3) := by decide +kernel
theorem dX8_carries_264 : decode cX8_carries 264 = .ok (.iinc 5 1, 3) := by decide +kernel
theorem dX8_carries_267 : decode cX8_carries 267 = .ok (.goto (-22), 3) := by decide +kernel
theorem dX8_carries_270 : decode cX8_carries 270 = .ok (.iload 4, 2) := by decide +kernel
theorem dX8_carries_272 : decode cX8_carries 272 = .ok (.ireturn, 1) := by decide +kernel
theorem dX8_carry_0 : decode cX8_carry 0 = .ok (.aload_n 0, 1) := by decide +kernel
theorem dX8_carry_1 : decode cX8_carry 1 = .ok (.invokevirtual 89, 3) := by decide +kernel
theorem dX8_carry_4 : decode cX8_carry 4 = .ok (.aload_n 0, 1) := by decide +kernel
theorem dX8_carry_5 : decode cX8_carry 5 = .ok (.aload_n 0, 1) := by decide +kernel
theorem dX8_carry_6 : decode cX8_carry 6 = .ok (.iload_n 1, 1) := by decide +kernel
theorem dX8_carry_7 : decode cX8_carry 7 = .ok (.iload_n 2, 1) := by decide +kernel
theorem dX8_carry_8 : decode cX8_carry 8 = .ok (.invokevirtual 144, 3) := by decide +kernel
theorem dX8_carry_11 : decode cX8_carry 11 = .ok (.iconst 0, 1) := by decide +kernel
theorem dX8_carry_12 : decode cX8_carry 12 = .ok (.iconst 1, 1) := by decide +kernel
theorem dX8_carry_13 : decode cX8_carry 13 = .ok (.invokevirtual 100, 3) := by decide +kernel
theorem dX8_carry_16 : decode cX8_carry 16 = .ok (.ireturn, 1) := by decide +kernel
theorem dX8_givesBone_0 : decode cX8_givesBone 0 = .ok (.aload_n 0, 1) := by decide +kernel
theorem dX8_givesBone_1 : decode cX8_givesBone 1 = .ok (.invokevirtual 137, 3) := by decide +kernel
theorem dX8_givesBone_4 : decode cX8_givesBone 4 = .ok (.istore_n 1, 1) := by decide +kernel
theorem dX8_givesBone_5 : decode cX8_givesBone 5 = .ok (.aload_n 0, 1) := by decide +kernel
theorem dX8_givesBone_6 : decode cX8_givesBone 6 = .ok (.iload_n 1, 1) := by decide +kernel
theorem dX8_givesBone_7 : decode cX8_givesBone 7 = .ok (.ifCond .ge 7, 3) := by decide +kernel
theorem dX8_givesBone_10 : decode cX8_givesBone 10 = .ok (.iconst 1, 1) := by decide +kernel
theorem dX8_givesBone_11 : decode cX8_givesBone 11 = .ok (.goto 4, 3) := by decide +kernel
theorem dX8_givesBone_14 : decode cX8_givesBone 14 = .ok (.iconst 0, 1) := by decide +kernel
theorem dX8_givesBone_15 : decode cX8_givesBone 15 = .ok (.bipush 7, 2) := by decide +kernel
theorem dX8_givesBone_17 : decode cX8_givesBone 17 = .ok (.iconst 0, 1) := by decide +kernel
theorem dX8_givesBone_18 : decode cX8_givesBone 18 = .ok (.invokevirtual 92, 3) := by decide +kernel
theorem dX8_givesBone_21 : decode cX8_givesBone 21 = .ok (.aload_n 0, 1) := by decide +kernel
theorem dX8_givesBone_22 : decode cX8_givesBone 22 = .ok (.getfield 41, 3) := by decide +kernel
theorem dX8_givesBone_25 : decode cX8_givesBone 25 = .ok (.ifCond .ne 76, 3) := by decide +kernel
theorem dX8_givesBone_28 : decode cX8_givesBone 28 = .ok (.aload_n 0, 1) := by decide +kernel
theorem dX8_givesBone_29 : decode cX8_givesBone 29 = .ok (.aload_n 0, 1) := by decide +kernel
theorem dX8_givesBone_30 : decode cX8_givesBone 30 = .ok (.iload_n 1, 1) := by decide +kernel
theorem dX8_givesBone_31 : decode cX8_givesBone 31 = .ok (.iconst 1, 1) := by decide +kernel
theorem dX8_givesBone_32 : decode cX8_givesBone 32 = .ok (.invokevirtual 74, 3) := by decide +kernel
theorem dX8_givesBone_35 : decode cX8_givesBone 35 = .ok (.ifCond .eq 14, 3) := by decide +kernel
theorem dX8_givesBone_38 : decode cX8_givesBone 38 = .ok (.aload_n 0, 1) := by decide +kernel
theorem dX8_givesBone_39 : decode cX8_givesBone 39 = .ok (.iload_n 1, 1) := by decide +kernel
theorem dX8_givesBone_40 : decode cX8_givesBone 40 = .ok (.bipush 7, 2) := by decide +kernel
theorem dX8_givesBone_42 : decode cX8_givesBone 42 = .ok (.invokevirtual 74, 3) := by decide +kernel
theorem dX8_givesBone_45 : decode cX8_givesBone 45 = .ok (.iconst 1, 1) := by decide +kernel
theorem dX8_givesBone_46 : decode cX8_givesBone 46 = .ok (.if_icmp .ne 7, 3) := by decide +kernel
theorem dX8_givesBone_49 : decode cX8_givesBone 49 = .ok (.iconst 1, 1) := by decide +kernel
theorem dX8_givesBone_50 : decode cX8_givesBone 50 = .ok (.goto 4, 3) := by decide +kernel
theorem dX8_givesBone_53 : decode cX8_givesBone 53 = .ok (.iconst 0, 1) := by decide +kernel
theorem dX8_givesBone_54 : decode cX8_givesBone 54 = .ok (.bipush 14, 2) := by decide +kernel
theorem dX8_givesBone_56 : decode cX8_givesBone 56 = .ok (.iload_n 1, 1) := by decide +kernel
theorem dX8_givesBone_57 : decode cX8_givesBone 57 = .ok (.invokevirtual 92, 3) := by decide +kernel
theorem dX8_givesBone_60 : decode cX8_givesBone 60 = .ok (.aload_n 0, 1) := by decide +kernel
theorem dX8_givesBone_61 : decode cX8_givesBone 61 = .ok (.aload_n 0, 1) := by decide +kernel
theorem dX8_givesBone_62 : decode cX8_givesBone 62 = .ok (.getfield 9, 3) := by decide +kernel
theorem dX8_givesBone_65 : decode cX8_givesBone 65 = .ok (.bipush 8, 2) := by decide +kernel
theorem dX8_givesBone_67 : decode cX8_givesBone 67 = .ok (.iaload, 1) := by decide +kernel
theorem dX8_givesBone_68 : decode cX8_givesBone 68 = .ok (.ifCond .ne 7, 3) := by decide +kernel
theorem dX8_givesBone_71 : decode cX8_givesBone 71 = .ok (.iconst 1, 1) := by decide +kernel
theorem dX8_givesBone_72 : decode cX8_givesBone 72 = .ok (.goto 4, 3) := by decide +kernel
theorem dX8_givesBone_75 : decode cX8_givesBone 75 = .ok (.iconst 0, 1) := by decide +kernel
theorem dX8_givesBone_76 : decode cX8_givesBone 76 = .ok (.bipush 15, 2) := by decide +kernel
theorem dX8_givesBone_78 : decode cX8_givesBone 78 = .ok (.iconst 0, 1) := by decide +kernel
theorem dX8_givesBone_79 : decode cX8_givesBone 79 = .ok (.invokevirtual 92, 3) := by decide +kernel
theorem dX8_givesBone_82 : decode cX8_givesBone 82 = .ok (.aload_n 0, 1) := by decide +kernel
theorem dX8_givesBone_83 : decode cX8_givesBone 83 = .ok (.iload_n 1, 1) := by decide +kernel
theorem dX8_givesBone_84 : decode cX8_givesBone 84 = .ok (.bipush 7, 2) := by decide +kernel
theorem dX8_givesBone_86 : decode cX8_givesBone 86 = .ok (.iconst 1, 1) := by decide +kernel
theorem dX8_givesBone_87 : decode cX8_givesBone 87 = .ok (.invokevirtual 96, 3) := by decide +kernel
theorem dX8_givesBone_90 : decode cX8_givesBone 90 = .ok (.aload_n 0, 1) := by decide +kernel
theorem dX8_givesBone_91 : decode cX8_givesBone 91 = .ok (.getfield 9, 3) := by decide +kernel
theorem dX8_givesBone_94 : decode cX8_givesBone 94 = .ok (.bipush 8, 2) := by decide +kernel
theorem dX8_givesBone_96 : decode cX8_givesBone 96 = .ok (.dup2, 1) := by decide +kernel
theorem dX8_givesBone_97 : decode cX8_givesBone 97 = .ok (.iaload, 1) := by decide +kernel
theorem dX8_givesBone_98 : decode cX8_givesBone 98 = .ok (.iconst 1, 1) := by decide +kernel
theorem dX8_givesBone_99 : decode cX8_givesBone 99 = .ok (.isub, 1) := by decide +kernel
theorem dX8_givesBone_100 : decode cX8_givesBone 100 = .ok (.iastore, 1) := by decide +kernel
theorem dX8_givesBone_101 : decode cX8_givesBone 101 = .ok (.aload_n 0, 1) := by decide +kernel
theorem dX8_givesBone_102 : decode cX8_givesBone 102 = .ok (.getfield 9, 3) := by decide +kernel
theorem dX8_givesBone_105 : decode cX8_givesBone 105 = .ok (.bipush 8, 2) := by decide +kernel
theorem dX8_givesBone_107 : decode cX8_givesBone 107 = .ok (.iaload, 1) := by decide +kernel
theorem dX8_givesBone_108 : decode cX8_givesBone 108 = .ok (.ireturn, 1) := by decide +kernel
theorem dX8_bone_0 : decode cX8_bone 0 = .ok (.aload_n 0, 1) := by decide +kernel
theorem dX8_bone_1 : decode cX8_bone 1 = .ok (.invokevirtual 89, 3) := by decide +kernel
theorem dX8_bone_4 : decode cX8_bone 4 = .ok (.aload_n 0, 1) := by decide +kernel
theorem dX8_bone_5 : decode cX8_bone 5 = .ok (.aload_n 0, 1) := by decide +kernel
theorem dX8_bone_6 : decode cX8_bone 6 = .ok (.invokevirtual 147, 3) := by decide +kernel
theorem dX8_bone_9 : decode cX8_bone 9 = .ok (.iconst 0, 1) := by decide +kernel
theorem dX8_bone_10 : decode cX8_bone 10 = .ok (.iconst 1, 1) := by decide +kernel
theorem dX8_bone_11 : decode cX8_bone 11 = .ok (.invokevirtual 100, 3) := by decide +kernel
theorem dX8_bone_14 : decode cX8_bone 14 = .ok (.ireturn, 1) := by decide +kernel
theorem dX8_bones_0 : decode cX8_bones 0 = .ok (.aload_n 0, 1) := by decide +kernel
theorem dX8_bones_1 : decode cX8_bones 1 = .ok (.invokevirtual 89, 3) := by decide +kernel
theorem dX8_bones_4 : decode cX8_bones 4 = .ok (.aload_n 0, 1) := by decide +kernel
theorem dX8_bones_5 : decode cX8_bones 5 = .ok (.iload_n 1, 1) := by decide +kernel
theorem dX8_bones_6 : decode cX8_bones 6 = .ok (.iconst 1, 1) := by decide +kernel
theorem dX8_bones_7 : decode cX8_bones 7 = .ok (.bipush 9, 2) := by decide +kernel
theorem dX8_bones_9 : decode cX8_bones 9 = .ok (.invokestatic 66, 3) := by decide +kernel
theorem dX8_bones_12 : decode cX8_bones 12 = .ok (.ifCond .ne 7, 3) := by decide +kernel
theorem dX8_bones_15 : decode cX8_bones 15 = .ok (.iconst 1, 1) := by decide +kernel
theorem dX8_bones_16 : decode cX8_bones 16 = .ok (.goto 4, 3) := by decide +kernel
theorem dX8_bones_19 : decode cX8_bones 19 = .ok (.iconst 0, 1) := by decide +kernel
theorem dX8_bones_20 : decode cX8_bones 20 = .ok (.iconst 1, 1) := by decide +kernel
theorem dX8_bones_21 : decode cX8_bones 21 = .ok (.iconst 0, 1) := by decide +kernel
theorem dX8_bones_22 : decode cX8_bones 22 = .ok (.invokevirtual 92, 3) := by decide +kernel
theorem dX8_bones_25 : decode cX8_bones 25 = .ok (.aload_n 0, 1) := by decide +kernel
theorem dX8_bones_26 : decode cX8_bones 26 = .ok (.aload_n 0, 1) := by decide +kernel
theorem dX8_bones_27 : decode cX8_bones 27 = .ok (.getfield 9, 3) := by decide +kernel
theorem dX8_bones_30 : decode cX8_bones 30 = .ok (.bipush 6, 2) := by decide +kernel
theorem dX8_bones_32 : decode cX8_bones 32 = .ok (.iaload, 1) := by decide +kernel
theorem dX8_bones_33 : decode cX8_bones 33 = .ok (.iload_n 1, 1) := by decide +kernel
theorem dX8_bones_34 : decode cX8_bones 34 = .ok (.if_icmp .ge 7, 3) := by decide +kernel
theorem dX8_bones_37 : decode cX8_bones 37 = .ok (.iconst 1, 1) := by decide +kernel
theorem dX8_bones_38 : decode cX8_bones 38 = .ok (.goto 4, 3) := by decide +kernel
theorem dX8_bones_41 : decode cX8_bones 41 = .ok (.iconst 0, 1) := by decide +kernel
theorem dX8_bones_42 : decode cX8_bones 42 = .ok (.bipush 16, 2) := by decide +kernel
theorem dX8_bones_44 : decode cX8_bones 44 = .ok (.iload_n 1, 1) := by decide +kernel
theorem dX8_bones_45 : decode cX8_bones 45 = .ok (.aload_n 0, 1) := by decide +kernel
theorem dX8_bones_46 : decode cX8_bones 46 = .ok (.getfield 9, 3) := by decide +kernel
theorem dX8_bones_49 : decode cX8_bones 49 = .ok (.bipush 6, 2) := by decide +kernel
theorem dX8_bones_51 : decode cX8_bones 51 = .ok (.iaload, 1) := by decide +kernel
theorem dX8_bones_52 : decode cX8_bones 52 = .ok (.isub, 1) := by decide +kernel
theorem dX8_bones_53 : decode cX8_bones 53 = .ok (.invokevirtual 92, 3) := by decide +kernel
theorem dX8_bones_56 : decode cX8_bones 56 = .ok (.aload_n 0, 1) := by decide +kernel
theorem dX8_bones_57 : decode cX8_bones 57 = .ok (.getfield 9, 3) := by decide +kernel
theorem dX8_bones_60 : decode cX8_bones 60 = .ok (.bipush 6, 2) := by decide +kernel
theorem dX8_bones_62 : decode cX8_bones 62 = .ok (.dup2, 1) := by decide +kernel
theorem dX8_bones_63 : decode cX8_bones 63 = .ok (.iaload, 1) := by decide +kernel
theorem dX8_bones_64 : decode cX8_bones 64 = .ok (.iload_n 1, 1) := by decide +kernel
theorem dX8_bones_65 : decode cX8_bones 65 = .ok (.isub, 1) := by decide +kernel
theorem dX8_bones_66 : decode cX8_bones 66 = .ok (.iastore, 1) := by decide +kernel
theorem dX8_bones_67 : decode cX8_bones 67 = .ok (.aload_n 0, 1) := by decide +kernel
theorem dX8_bones_68 : decode cX8_bones 68 = .ok (.getfield 9, 3) := by decide +kernel
theorem dX8_bones_71 : decode cX8_bones 71 = .ok (.bipush 8, 2) := by decide +kernel
theorem dX8_bones_73 : decode cX8_bones 73 = .ok (.dup2, 1) := by decide +kernel
theorem dX8_bones_74 : decode cX8_bones 74 = .ok (.iaload, 1) := by decide +kernel
theorem dX8_bones_75 : decode cX8_bones 75 = .ok (.iload_n 1, 1) := by decide +kernel
theorem dX8_bones_76 : decode cX8_bones 76 = .ok (.iadd, 1) := by decide +kernel
theorem dX8_bones_77 : decode cX8_bones 77 = .ok (.iastore, 1) := by decide +kernel
theorem dX8_bones_78 : decode cX8_bones 78 = .ok (.aload_n 0, 1) := by decide +kernel
theorem dX8_bones_79 : decode cX8_bones 79 = .ok (.aload_n 0, 1) := by decide +kernel
theorem dX8_bones_80 : decode cX8_bones 80 = .ok (.getfield 9, 3) := by decide +kernel
theorem dX8_bones_83 : decode cX8_bones 83 = .ok (.bipush 8, 2) := by decide +kernel
theorem dX8_bones_85 : decode cX8_bones 85 = .ok (.iaload, 1) := by decide +kernel
theorem dX8_bones_86 : decode cX8_bones 86 = .ok (.iconst 0, 1) := by decide +kernel
theorem dX8_bones_87 : decode cX8_bones 87 = .ok (.iconst 1, 1) := by decide +kernel
theorem dX8_bones_88 : decode cX8_bones 88 = .ok (.invokevirtual 100, 3) := by decide +kernel
theorem dX8_bones_91 : decode cX8_bones 91 = .ok (.ireturn, 1) := by decide +kernel
theorem dX8_mops_0 : decode cX8_mops 0 = .ok (.aload_n 0, 1) := by decide +kernel
theorem dX8_mops_1 : decode cX8_mops 1 = .ok (.invokevirtual 137, 3) := by decide +kernel
theorem dX8_mops_4 : decode cX8_mops 4 = .ok (.istore_n 2, 1) := by decide +kernel
theorem dX8_mops_5 : decode cX8_mops 5 = .ok (.aload_n 0, 1) := by decide +kernel
theorem dX8_mops_6 : decode cX8_mops 6 = .ok (.aload_n 0, 1) := by decide +kernel
theorem dX8_mops_7 : decode cX8_mops 7 = .ok (.iload_n 1, 1) := by decide +kernel
theorem dX8_mops_8 : decode cX8_mops 8 = .ok (.invokevirtual 115, 3) := by decide +kernel
theorem dX8_mops_11 : decode cX8_mops 11 = .ok (.ifCond .ne 7, 3) := by decide +kernel
theorem dX8_mops_14 : decode cX8_mops 14 = .ok (.iconst 1, 1) := by decide +kernel
theorem dX8_mops_15 : decode cX8_mops 15 = .ok (.goto 4, 3) := by decide +kernel
theorem dX8_mops_18 : decode cX8_mops 18 = .ok (.iconst 0, 1) := by decide +kernel
theorem dX8_mops_19 : decode cX8_mops 19 = .ok (.iconst 3, 1) := by decide +kernel
theorem dX8_mops_20 : decode cX8_mops 20 = .ok (.iload_n 1, 1) := by decide +kernel
theorem dX8_mops_21 : decode cX8_mops 21 = .ok (.invokevirtual 92, 3) := by decide +kernel
theorem dX8_mops_24 : decode cX8_mops 24 = .ok (.aload_n 0, 1) := by decide +kernel
theorem dX8_mops_25 : decode cX8_mops 25 = .ok (.iload_n 2, 1) := by decide +kernel
theorem dX8_mops_26 : decode cX8_mops 26 = .ok (.ifCond .ge 7, 3) := by decide +kernel
theorem dX8_mops_29 : decode cX8_mops 29 = .ok (.iconst 1, 1) := by decide +kernel
theorem dX8_mops_30 : decode cX8_mops 30 = .ok (.goto 4, 3) := by decide +kernel
theorem dX8_mops_33 : decode cX8_mops 33 = .ok (.iconst 0, 1) := by decide +kernel
theorem dX8_mops_34 : decode cX8_mops 34 = .ok (.bipush 7, 2) := by decide +kernel
theorem dX8_mops_36 : decode cX8_mops 36 = .ok (.iconst 0, 1) := by decide +kernel
theorem dX8_mops_37 : decode cX8_mops 37 = .ok (.invokevirtual 92, 3) := by decide +kernel
theorem dX8_mops_40 : decode cX8_mops 40 = .ok (.aload_n 0, 1) := by decide +kernel
theorem dX8_mops_41 : decode cX8_mops 41 = .ok (.getfield 41, 3) := by decide +kernel
theorem dX8_mops_44 : decode cX8_mops 44 = .ok (.ifCond .eq 5, 3) := by decide +kernel
theorem dX8_mops_47 : decode cX8_mops 47 = .ok (.iconst 0, 1) := by decide +kernel
theorem dX8_mops_48 : decode cX8_mops 48 = .ok (.ireturn, 1) := by decide +kernel
theorem dX8_mops_49 : decode cX8_mops 49 = .ok (.aload_n 0, 1) := by decide +kernel
theorem dX8_mops_50 : decode cX8_mops 50 = .ok (.iload_n 2, 1) := by decide +kernel
theorem dX8_mops_51 : decode cX8_mops 51 = .ok (.iconst 5, 1) := by decide +kernel
theorem dX8_mops_52 : decode cX8_mops 52 = .ok (.invokevirtual 74, 3) := by decide +kernel
theorem dX8_mops_55 : decode cX8_mops 55 = .ok (.istore_n 3, 1) := by decide +kernel
theorem dX8_mops_56 : decode cX8_mops 56 = .ok (.aload_n 0, 1) := by decide +kernel
theorem dX8_mops_57 : decode cX8_mops 57 = .ok (.iload_n 1, 1) := by decide +kernel
theorem dX8_mops_58 : decode cX8_mops 58 = .ok (.iconst 1, 1) := by decide +kernel
theorem dX8_mops_59 : decode cX8_mops 59 = .ok (.invokevirtual 83, 3) := by decide +kernel
theorem dX8_mops_62 : decode cX8_mops 62 = .ok (.iload_n 3, 1) := by decide +kernel
theorem dX8_mops_63 : decode cX8_mops 63 = .ok (.iconst 1, 1) := by decide +kernel
theorem dX8_mops_64 : decode cX8_mops 64 = .ok (.iadd, 1) := by decide +kernel
theorem dX8_mops_65 : decode cX8_mops 65 = .ok (.iconst 2, 1) := by decide +kernel
theorem dX8_mops_66 : decode cX8_mops 66 = .ok (.idiv, 1) := by decide +kernel
theorem dX8_mops_67 : decode cX8_mops 67 = .ok (.iadd, 1) := by decide +kernel
theorem dX8_mops_68 : decode cX8_mops 68 = .ok (.istore 4, 2) := by decide +kernel
theorem dX8_mops_70 : decode cX8_mops 70 = .ok (.aload_n 0, 1) := by decide +kernel
theorem dX8_mops_71 : decode cX8_mops 71 = .ok (.iload_n 3, 1) := by decide +kernel
theorem dX8_mops_72 : decode cX8_mops 72 = .ok (.ifCond .ne 7, 3) := by decide +kernel
theorem dX8_mops_75 : decode cX8_mops 75 = .ok (.iconst 1, 1) := by decide +kernel
theorem dX8_mops_76 : decode cX8_mops 76 = .ok (.goto 4, 3) := by decide +kernel
theorem dX8_mops_79 : decode cX8_mops 79 = .ok (.iconst 0, 1) := by decide +kernel
theorem dX8_mops_80 : decode cX8_mops 80 = .ok (.bipush 18, 2) := by decide +kernel
theorem dX8_mops_82 : decode cX8_mops 82 = .ok (.iload_n 2, 1) := by decide +kernel
theorem dX8_mops_83 : decode cX8_mops 83 = .ok (.invokevirtual 92, 3) := by decide +kernel
theorem dX8_mops_86 : decode cX8_mops 86 = .ok (.aload_n 0, 1) := by decide +kernel
theorem dX8_mops_87 : decode cX8_mops 87 = .ok (.iload 4, 2) := by decide +kernel
theorem dX8_mops_89 : decode cX8_mops 89 = .ok (.bipush 30, 2) := by decide +kernel
theorem dX8_mops_91 : decode cX8_mops 91 = .ok (.if_icmp .le 7, 3) := by decide +kernel
theorem dX8_mops_94 : decode cX8_mops 94 = .ok (.iconst 1, 1) := by decide +kernel
theorem dX8_mops_95 : decode cX8_mops 95 = .ok (.goto 4, 3) := by decide +kernel
theorem dX8_mops_98 : decode cX8_mops 98 = .ok (.iconst 0, 1) := by decide +kernel
theorem dX8_mops_99 : decode cX8_mops 99 = .ok (.bipush 13, 2) := by decide +kernel
theorem dX8_mops_101 : decode cX8_mops 101 = .ok (.iload 4, 2) := by decide +kernel
theorem dX8_mops_103 : decode cX8_mops 103 = .ok (.invokevirtual 92, 3) := by decide +kernel
theorem dX8_mops_106 : decode cX8_mops 106 = .ok (.aload_n 0, 1) := by decide +kernel
theorem dX8_mops_107 : decode cX8_mops 107 = .ok (.iload_n 2, 1) := by decide +kernel
theorem dX8_mops_108 : decode cX8_mops 108 = .ok (.iconst 5, 1) := by decide +kernel
theorem dX8_mops_109 : decode cX8_mops 109 = .ok (.iconst 0, 1) := by decide +kernel
theorem dX8_mops_110 : decode cX8_mops 110 = .ok (.invokevirtual 96, 3) := by decide +kernel
theorem dX8_mops_113 : decode cX8_mops 113 = .ok (.aload_n 0, 1) := by decide +kernel
theorem dX8_mops_114 : decode cX8_mops 114 = .ok (.iload_n 1, 1) := by decide +kernel
theorem dX8_mops_115 : decode cX8_mops 115 = .ok (.iconst 1, 1) := by decide +kernel
theorem dX8_mops_116 : decode cX8_mops 116 = .ok (.iload 4, 2) := by decide +kernel
theorem dX8_mops_118 : decode cX8_mops 118 = .ok (.invokevirtual 108, 3) := by decide +kernel
theorem dX8_mops_121 : decode cX8_mops 121 = .ok (.iload_n 3, 1) := by decide +kernel
theorem dX8_mops_122 : decode cX8_mops 122 = .ok (.ireturn, 1) := by decide +kernel
theorem dX8_mop_0 : decode cX8_mop 0 = .ok (.aload_n 0, 1) := by decide +kernel
theorem dX8_mop_1 : decode cX8_mop 1 = .ok (.invokevirtual 89, 3) := by decide +kernel
theorem dX8_mop_4 : decode cX8_mop 4 = .ok (.aload_n 0, 1) := by decide +kernel
theorem dX8_mop_5 : decode cX8_mop 5 = .ok (.aload_n 0, 1) := by decide +kernel
theorem dX8_mop_6 : decode cX8_mop 6 = .ok (.iload_n 1, 1) := by decide +kernel
theorem dX8_mop_7 : decode cX8_mop 7 = .ok (.invokevirtual 150, 3) := by decide +kernel
theorem dX8_mop_10 : decode cX8_mop 10 = .ok (.iconst 0, 1) := by decide +kernel
theorem dX8_mop_11 : decode cX8_mop 11 = .ok (.iconst 1, 1) := by decide +kernel
theorem dX8_mop_12 : decode cX8_mop 12 = .ok (.invokevirtual 100, 3) := by decide +kernel
theorem dX8_mop_15 : decode cX8_mop 15 = .ok (.ireturn, 1) := by decide +kernel
theorem dX8_pays_0 : decode cX8_pays 0 = .ok (.aload_n 0, 1) := by decide +kernel
theorem dX8_pays_1 : decode cX8_pays 1 = .ok (.aload_n 0, 1) := by decide +kernel
theorem dX8_pays_2 : decode cX8_pays 2 = .ok (.iload_n 1, 1) := by decide +kernel
theorem dX8_pays_3 : decode cX8_pays 3 = .ok (.invokevirtual 104, 3) := by decide +kernel
theorem dX8_pays_6 : decode cX8_pays 6 = .ok (.ifCond .ne 7, 3) := by decide +kernel
theorem dX8_pays_9 : decode cX8_pays 9 = .ok (.iconst 1, 1) := by decide +kernel
theorem dX8_pays_10 : decode cX8_pays 10 = .ok (.goto 4, 3) := by decide +kernel
theorem dX8_pays_13 : decode cX8_pays 13 = .ok (.iconst 0, 1) := by decide +kernel
theorem dX8_pays_14 : decode cX8_pays 14 = .ok (.iconst 3, 1) := by decide +kernel
theorem dX8_pays_15 : decode cX8_pays 15 = .ok (.iload_n 1, 1) := by decide +kernel
theorem dX8_pays_16 : decode cX8_pays 16 = .ok (.invokevirtual 92, 3) := by decide +kernel
theorem dX8_pays_19 : decode cX8_pays 19 = .ok (.aload_n 0, 1) := by decide +kernel
theorem dX8_pays_20 : decode cX8_pays 20 = .ok (.iload_n 2, 1) := by decide +kernel
theorem dX8_pays_21 : decode cX8_pays 21 = .ok (.iconst 1, 1) := by decide +kernel
theorem dX8_pays_22 : decode cX8_pays 22 = .ok (.bipush 99, 2) := by decide +kernel
theorem dX8_pays_24 : decode cX8_pays 24 = .ok (.invokestatic 66, 3) := by decide +kernel
theorem dX8_pays_27 : decode cX8_pays 27 = .ok (.ifCond .ne 7, 3) := by decide +kernel
theorem dX8_pays_30 : decode cX8_pays 30 = .ok (.iconst 1, 1) := by decide +kernel
theorem dX8_pays_31 : decode cX8_pays 31 = .ok (.goto 4, 3) := by decide +kernel
theorem dX8_pays_34 : decode cX8_pays 34 = .ok (.iconst 0, 1) := by decide +kernel
theorem dX8_pays_35 : decode cX8_pays 35 = .ok (.iconst 1, 1) := by decide +kernel
theorem dX8_pays_36 : decode cX8_pays 36 = .ok (.iconst 0, 1) := by decide +kernel
theorem dX8_pays_37 : decode cX8_pays 37 = .ok (.invokevirtual 92, 3) := by decide +kernel
theorem dX8_pays_40 : decode cX8_pays 40 = .ok (.aload_n 0, 1) := by decide +kernel
theorem dX8_pays_41 : decode cX8_pays 41 = .ok (.getfield 41, 3) := by decide +kernel
theorem dX8_pays_44 : decode cX8_pays 44 = .ok (.ifCond .eq 5, 3) := by decide +kernel
theorem dX8_pays_47 : decode cX8_pays 47 = .ok (.iconst 0, 1) := by decide +kernel
theorem dX8_pays_48 : decode cX8_pays 48 = .ok (.ireturn, 1) := by decide +kernel
theorem dX8_pays_49 : decode cX8_pays 49 = .ok (.aload_n 0, 1) := by decide +kernel
theorem dX8_pays_50 : decode cX8_pays 50 = .ok (.aload_n 0, 1) := by decide +kernel
theorem dX8_pays_51 : decode cX8_pays 51 = .ok (.iload_n 1, 1) := by decide +kernel
theorem dX8_pays_52 : decode cX8_pays 52 = .ok (.iconst 4, 1) := by decide +kernel
theorem dX8_pays_53 : decode cX8_pays 53 = .ok (.invokevirtual 74, 3) := by decide +kernel
theorem dX8_pays_56 : decode cX8_pays 56 = .ok (.iload_n 2, 1) := by decide +kernel
theorem dX8_pays_57 : decode cX8_pays 57 = .ok (.if_icmp .ge 7, 3) := by decide +kernel
theorem dX8_pays_60 : decode cX8_pays 60 = .ok (.iconst 1, 1) := by decide +kernel
theorem dX8_pays_61 : decode cX8_pays 61 = .ok (.goto 4, 3) := by decide +kernel
theorem dX8_pays_64 : decode cX8_pays 64 = .ok (.iconst 0, 1) := by decide +kernel
theorem dX8_pays_65 : decode cX8_pays 65 = .ok (.bipush 17, 2) := by decide +kernel
theorem dX8_pays_67 : decode cX8_pays 67 = .ok (.aload_n 0, 1) := by decide +kernel
theorem dX8_pays_68 : decode cX8_pays 68 = .ok (.iload_n 1, 1) := by decide +kernel
theorem dX8_pays_69 : decode cX8_pays 69 = .ok (.iconst 4, 1) := by decide +kernel
theorem dX8_pays_70 : decode cX8_pays 70 = .ok (.invokevirtual 74, 3) := by decide +kernel
theorem dX8_pays_73 : decode cX8_pays 73 = .ok (.invokevirtual 92, 3) := by decide +kernel
theorem dX8_pays_76 : decode cX8_pays 76 = .ok (.aload_n 0, 1) := by decide +kernel
theorem dX8_pays_77 : decode cX8_pays 77 = .ok (.iload_n 1, 1) := by decide +kernel
theorem dX8_pays_78 : decode cX8_pays 78 = .ok (.iconst 4, 1) := by decide +kernel
theorem dX8_pays_79 : decode cX8_pays 79 = .ok (.aload_n 0, 1) := by decide +kernel
theorem dX8_pays_80 : decode cX8_pays 80 = .ok (.iload_n 1, 1) := by decide +kernel
theorem dX8_pays_81 : decode cX8_pays 81 = .ok (.iconst 4, 1) := by decide +kernel
theorem dX8_pays_82 : decode cX8_pays 82 = .ok (.invokevirtual 74, 3) := by decide +kernel
theorem dX8_pays_85 : decode cX8_pays 85 = .ok (.iload_n 2, 1) := by decide +kernel
theorem dX8_pays_86 : decode cX8_pays 86 = .ok (.isub, 1) := by decide +kernel
theorem dX8_pays_87 : decode cX8_pays 87 = .ok (.invokevirtual 96, 3) := by decide +kernel
theorem dX8_pays_90 : decode cX8_pays 90 = .ok (.aload_n 0, 1) := by decide +kernel
theorem dX8_pays_91 : decode cX8_pays 91 = .ok (.getfield 9, 3) := by decide +kernel
theorem dX8_pays_94 : decode cX8_pays 94 = .ok (.bipush 6, 2) := by decide +kernel
theorem dX8_pays_96 : decode cX8_pays 96 = .ok (.dup2, 1) := by decide +kernel
theorem dX8_pays_97 : decode cX8_pays 97 = .ok (.iaload, 1) := by decide +kernel
theorem dX8_pays_98 : decode cX8_pays 98 = .ok (.iload_n 2, 1) := by decide +kernel
theorem dX8_pays_99 : decode cX8_pays 99 = .ok (.iadd, 1) := by decide +kernel
theorem dX8_pays_100 : decode cX8_pays 100 = .ok (.iastore, 1) := by decide +kernel
theorem dX8_pays_101 : decode cX8_pays 101 = .ok (.aload_n 0, 1) := by decide +kernel
theorem dX8_pays_102 : decode cX8_pays 102 = .ok (.getfield 9, 3) := by decide +kernel
theorem dX8_pays_105 : decode cX8_pays 105 = .ok (.bipush 7, 2) := by decide +kernel
theorem dX8_pays_107 : decode cX8_pays 107 = .ok (.dup2, 1) := by decide +kernel
theorem dX8_pays_108 : decode cX8_pays 108 = .ok (.iaload, 1) := by decide +kernel
theorem dX8_pays_109 : decode cX8_pays 109 = .ok (.iload_n 2, 1) := by decide +kernel
theorem dX8_pays_110 : decode cX8_pays 110 = .ok (.iadd, 1) := by decide +kernel
theorem dX8_pays_111 : decode cX8_pays 111 = .ok (.iastore, 1) := by decide +kernel
theorem dX8_pays_112 : decode cX8_pays 112 = .ok (.aload_n 0, 1) := by decide +kernel
theorem dX8_pays_113 : decode cX8_pays 113 = .ok (.iload_n 1, 1) := by decide +kernel
theorem dX8_pays_114 : decode cX8_pays 114 = .ok (.iconst 4, 1) := by decide +kernel
theorem dX8_pays_115 : decode cX8_pays 115 = .ok (.invokevirtual 74, 3) := by decide +kernel
theorem dX8_pays_118 : decode cX8_pays 118 = .ok (.ireturn, 1) := by decide +kernel
theorem dX8_pay_0 : decode cX8_pay 0 = .ok (.aload_n 0, 1) := by decide +kernel
theorem dX8_pay_1 : decode cX8_pay 1 = .ok (.invokevirtual 89, 3) := by decide +kernel
theorem dX8_pay_4 : decode cX8_pay 4 = .ok (.aload_n 0, 1) := by decide +kernel
theorem dX8_pay_5 : decode cX8_pay 5 = .ok (.aload_n 0, 1) := by decide +kernel
theorem dX8_pay_6 : decode cX8_pay 6 = .ok (.iload_n 1, 1) := by decide +kernel
theorem dX8_pay_7 : decode cX8_pay 7 = .ok (.iload_n 2, 1) := by decide +kernel
theorem dX8_pay_8 : decode cX8_pay 8 = .ok (.invokevirtual 153, 3) := by decide +kernel
theorem dX8_pay_11 : decode cX8_pay 11 = .ok (.iconst 0, 1) := by decide +kernel
theorem dX8_pay_12 : decode cX8_pay 12 = .ok (.iconst 1, 1) := by decide +kernel
theorem dX8_pay_13 : decode cX8_pay 13 = .ok (.invokevirtual 100, 3) := by decide +kernel
theorem dX8_pay_16 : decode cX8_pay 16 = .ok (.ireturn, 1) := by decide +kernel
theorem dX8_dayGoes_0 : decode cX8_dayGoes 0 = .ok (.aload_n 0, 1) := by decide +kernel
theorem dX8_dayGoes_1 : decode cX8_dayGoes 1 = .ok (.getfield 9, 3) := by decide +kernel
theorem dX8_dayGoes_4 : decode cX8_dayGoes 4 = .ok (.iconst 0, 1) := by decide +kernel
theorem dX8_dayGoes_5 : decode cX8_dayGoes 5 = .ok (.dup2, 1) := by decide +kernel
theorem dX8_dayGoes_6 : decode cX8_dayGoes 6 = .ok (.iaload, 1) := by decide +kernel
theorem dX8_dayGoes_7 : decode cX8_dayGoes 7 = .ok (.iconst 1, 1) := by decide +kernel
theorem dX8_dayGoes_8 : decode cX8_dayGoes 8 = .ok (.iadd, 1) := by decide +kernel
theorem dX8_dayGoes_9 : decode cX8_dayGoes 9 = .ok (.iastore, 1) := by decide +kernel
theorem dX8_dayGoes_10 : decode cX8_dayGoes 10 = .ok (.iconst 0, 1) := by decide +kernel
theorem dX8_dayGoes_11 : decode cX8_dayGoes 11 = .ok (.istore_n 1, 1) := by decide +kernel
theorem dX8_dayGoes_12 : decode cX8_dayGoes 12 = .ok (.iload_n 1, 1) := by decide +kernel
theorem dX8_dayGoes_13 : decode cX8_dayGoes 13 = .ok (.aload_n 0, 1) := by decide +kernel
theorem dX8_dayGoes_14 : decode cX8_dayGoes 14 = .ok (.getfield 9, 3) := by decide +kernel
theorem dX8_dayGoes_17 : decode cX8_dayGoes 17 = .ok (.iconst 2, 1) := by decide +kernel
theorem dX8_dayGoes_18 : decode cX8_dayGoes 18 = .ok (.iaload, 1) := by decide +kernel
theorem dX8_dayGoes_19 : decode cX8_dayGoes 19 = .ok (.if_icmp .ge 35, 3) := by decide +kernel
theorem dX8_dayGoes_22 : decode cX8_dayGoes 22 = .ok (.aload_n 0, 1) := by decide +kernel
theorem dX8_dayGoes_23 : decode cX8_dayGoes 23 = .ok (.iload_n 1, 1) := by decide +kernel
theorem dX8_dayGoes_24 : decode cX8_dayGoes 24 = .ok (.iconst 1, 1) := by decide +kernel
theorem dX8_dayGoes_25 : decode cX8_dayGoes 25 = .ok (.iconst 0, 1) := by decide +kernel
theorem dX8_dayGoes_26 : decode cX8_dayGoes 26 = .ok (.aload_n 0, 1) := by decide +kernel
theorem dX8_dayGoes_27 : decode cX8_dayGoes 27 = .ok (.iload_n 1, 1) := by decide +kernel
theorem dX8_dayGoes_28 : decode cX8_dayGoes 28 = .ok (.iconst 1, 1) := by decide +kernel
theorem dX8_dayGoes_29 : decode cX8_dayGoes 29 = .ok (.invokevirtual 83, 3) := by decide +kernel
theorem dX8_dayGoes_32 : decode cX8_dayGoes 32 = .ok (.bipush 8, 2) := by decide +kernel
theorem dX8_dayGoes_34 : decode cX8_dayGoes 34 = .ok (.isub, 1) := by decide +kernel
theorem dX8_dayGoes_35 : decode cX8_dayGoes 35 = .ok (.invokestatic 78, 3) := by decide +kernel
theorem dX8_dayGoes_38 : decode cX8_dayGoes 38 = .ok (.invokevirtual 108, 3) := by decide +kernel
theorem dX8_dayGoes_41 : decode cX8_dayGoes 41 = .ok (.aload_n 0, 1) := by decide +kernel
theorem dX8_dayGoes_42 : decode cX8_dayGoes 42 = .ok (.iload_n 1, 1) := by decide +kernel
theorem dX8_dayGoes_43 : decode cX8_dayGoes 43 = .ok (.iconst 2, 1) := by decide +kernel
theorem dX8_dayGoes_44 : decode cX8_dayGoes 44 = .ok (.iconst 0, 1) := by decide +kernel
theorem dX8_dayGoes_45 : decode cX8_dayGoes 45 = .ok (.invokevirtual 108, 3) := by decide +kernel
theorem dX8_dayGoes_48 : decode cX8_dayGoes 48 = .ok (.iinc 1 1, 3) := by decide +kernel
theorem dX8_dayGoes_51 : decode cX8_dayGoes 51 = .ok (.goto (-39), 3) := by decide +kernel
theorem dX8_dayGoes_54 : decode cX8_dayGoes 54 = .ok (.iconst 0, 1) := by decide +kernel
theorem dX8_dayGoes_55 : decode cX8_dayGoes 55 = .ok (.istore_n 1, 1) := by decide +kernel
theorem dX8_dayGoes_56 : decode cX8_dayGoes 56 = .ok (.iload_n 1, 1) := by decide +kernel
theorem dX8_dayGoes_57 : decode cX8_dayGoes 57 = .ok (.aload_n 0, 1) := by decide +kernel
theorem dX8_dayGoes_58 : decode cX8_dayGoes 58 = .ok (.getfield 9, 3) := by decide +kernel
theorem dX8_dayGoes_61 : decode cX8_dayGoes 61 = .ok (.iconst 1, 1) := by decide +kernel
theorem dX8_dayGoes_62 : decode cX8_dayGoes 62 = .ok (.iaload, 1) := by decide +kernel
theorem dX8_dayGoes_63 : decode cX8_dayGoes 63 = .ok (.if_icmp .ge 70, 3) := by decide +kernel
theorem dX8_dayGoes_66 : decode cX8_dayGoes 66 = .ok (.aload_n 0, 1) := by decide +kernel
theorem dX8_dayGoes_67 : decode cX8_dayGoes 67 = .ok (.iload_n 1, 1) := by decide +kernel
theorem dX8_dayGoes_68 : decode cX8_dayGoes 68 = .ok (.bipush 6, 2) := by decide +kernel
theorem dX8_dayGoes_70 : decode cX8_dayGoes 70 = .ok (.iconst 0, 1) := by decide +kernel
theorem dX8_dayGoes_71 : decode cX8_dayGoes 71 = .ok (.invokevirtual 96, 3) := by decide +kernel
theorem dX8_dayGoes_74 : decode cX8_dayGoes 74 = .ok (.aload_n 0, 1) := by decide +kernel
theorem dX8_dayGoes_75 : decode cX8_dayGoes 75 = .ok (.iload_n 1, 1) := by decide +kernel
theorem dX8_dayGoes_76 : decode cX8_dayGoes 76 = .ok (.bipush 7, 2) := by decide +kernel
theorem dX8_dayGoes_78 : decode cX8_dayGoes 78 = .ok (.iconst 0, 1) := by decide +kernel
theorem dX8_dayGoes_79 : decode cX8_dayGoes 79 = .ok (.invokevirtual 96, 3) := by decide +kernel
theorem dX8_dayGoes_82 : decode cX8_dayGoes 82 = .ok (.aload_n 0, 1) := by decide +kernel
theorem dX8_dayGoes_83 : decode cX8_dayGoes 83 = .ok (.iload_n 1, 1) := by decide +kernel
theorem dX8_dayGoes_84 : decode cX8_dayGoes 84 = .ok (.iconst 3, 1) := by decide +kernel
theorem dX8_dayGoes_85 : decode cX8_dayGoes 85 = .ok (.aload_n 0, 1) := by decide +kernel
theorem dX8_dayGoes_86 : decode cX8_dayGoes 86 = .ok (.getfield 9, 3) := by decide +kernel
theorem dX8_dayGoes_89 : decode cX8_dayGoes 89 = .ok (.iconst 0, 1) := by decide +kernel
theorem dX8_dayGoes_90 : decode cX8_dayGoes 90 = .ok (.iaload, 1) := by decide +kernel
theorem dX8_dayGoes_91 : decode cX8_dayGoes 91 = .ok (.bipush 7, 2) := by decide +kernel
theorem dX8_dayGoes_93 : decode cX8_dayGoes 93 = .ok (.irem, 1) := by decide +kernel
theorem dX8_dayGoes_94 : decode cX8_dayGoes 94 = .ok (.ifCond .ne 24, 3) := by decide +kernel
theorem dX8_dayGoes_97 : decode cX8_dayGoes 97 = .ok (.bipush 20, 2) := by decide +kernel
theorem dX8_dayGoes_99 : decode cX8_dayGoes 99 = .ok (.aload_n 0, 1) := by decide +kernel
theorem dX8_dayGoes_100 : decode cX8_dayGoes 100 = .ok (.iload_n 1, 1) := by decide +kernel
theorem dX8_dayGoes_101 : decode cX8_dayGoes 101 = .ok (.iconst 3, 1) := by decide +kernel
theorem dX8_dayGoes_102 : decode cX8_dayGoes 102 = .ok (.invokevirtual 74, 3) := by decide +kernel
theorem dX8_dayGoes_105 : decode cX8_dayGoes 105 = .ok (.aload_n 0, 1) := by decide +kernel
theorem dX8_dayGoes_106 : decode cX8_dayGoes 106 = .ok (.iload_n 1, 1) := by decide +kernel
theorem dX8_dayGoes_107 : decode cX8_dayGoes 107 = .ok (.iconst 2, 1) := by decide +kernel
theorem dX8_dayGoes_108 : decode cX8_dayGoes 108 = .ok (.invokevirtual 74, 3) := by decide +kernel
theorem dX8_dayGoes_111 : decode cX8_dayGoes 111 = .ok (.iadd, 1) := by decide +kernel
theorem dX8_dayGoes_112 : decode cX8_dayGoes 112 = .ok (.invokestatic 125, 3) := by decide +kernel
theorem dX8_dayGoes_115 : decode cX8_dayGoes 115 = .ok (.goto 9, 3) := by decide +kernel
theorem dX8_dayGoes_118 : decode cX8_dayGoes 118 = .ok (.aload_n 0, 1) := by decide +kernel
theorem dX8_dayGoes_119 : decode cX8_dayGoes 119 = .ok (.iload_n 1, 1) := by decide +kernel
theorem dX8_dayGoes_120 : decode cX8_dayGoes 120 = .ok (.iconst 3, 1) := by decide +kernel
theorem dX8_dayGoes_121 : decode cX8_dayGoes 121 = .ok (.invokevirtual 74, 3) := by decide +kernel
theorem dX8_dayGoes_124 : decode cX8_dayGoes 124 = .ok (.invokevirtual 96, 3) := by decide +kernel
theorem dX8_dayGoes_127 : decode cX8_dayGoes 127 = .ok (.iinc 1 1, 3) := by decide +kernel
theorem dX8_dayGoes_130 : decode cX8_dayGoes 130 = .ok (.goto (-74), 3) := by decide +kernel
theorem dX8_dayGoes_133 : decode cX8_dayGoes 133 = .ok (.return_, 1) := by decide +kernel
theorem dX8_sum_0 : decode cX8_sum 0 = .ok (.iconst 0, 1) := by decide +kernel
theorem dX8_sum_1 : decode cX8_sum 1 = .ok (.istore_n 2, 1) := by decide +kernel
theorem dX8_sum_2 : decode cX8_sum 2 = .ok (.iconst 0, 1) := by decide +kernel
theorem dX8_sum_3 : decode cX8_sum 3 = .ok (.istore_n 3, 1) := by decide +kernel
theorem dX8_sum_4 : decode cX8_sum 4 = .ok (.iload_n 3, 1) := by decide +kernel
theorem dX8_sum_5 : decode cX8_sum 5 = .ok (.aload_n 0, 1) := by decide +kernel
theorem dX8_sum_6 : decode cX8_sum 6 = .ok (.getfield 9, 3) := by decide +kernel
theorem dX8_sum_9 : decode cX8_sum 9 = .ok (.iconst 1, 1) := by decide +kernel
theorem dX8_sum_10 : decode cX8_sum 10 = .ok (.iaload, 1) := by decide +kernel
theorem dX8_sum_11 : decode cX8_sum 11 = .ok (.if_icmp .ge 18, 3) := by decide +kernel
theorem dX8_sum_14 : decode cX8_sum 14 = .ok (.iload_n 2, 1) := by decide +kernel
theorem dX8_sum_15 : decode cX8_sum 15 = .ok (.aload_n 0, 1) := by decide +kernel
theorem dX8_sum_16 : decode cX8_sum 16 = .ok (.iload_n 3, 1) := by decide +kernel
theorem dX8_sum_17 : decode cX8_sum 17 = .ok (.iload_n 1, 1) := by decide +kernel
theorem dX8_sum_18 : decode cX8_sum 18 = .ok (.invokevirtual 74, 3) := by decide +kernel
theorem dX8_sum_21 : decode cX8_sum 21 = .ok (.iadd, 1) := by decide +kernel
theorem dX8_sum_22 : decode cX8_sum 22 = .ok (.istore_n 2, 1) := by decide +kernel
theorem dX8_sum_23 : decode cX8_sum 23 = .ok (.iinc 3 1, 3) := by decide +kernel
theorem dX8_sum_26 : decode cX8_sum 26 = .ok (.goto (-22), 3) := by decide +kernel
theorem dX8_sum_29 : decode cX8_sum 29 = .ok (.iload_n 2, 1) := by decide +kernel
theorem dX8_sum_30 : decode cX8_sum 30 = .ok (.ireturn, 1) := by decide +kernel
theorem dX8_goes_0 : decode cX8_goes 0 = .ok (.aload_n 0, 1) := by decide +kernel
theorem dX8_goes_1 : decode cX8_goes 1 = .ok (.iload_n 1, 1) := by decide +kernel
theorem dX8_goes_2 : decode cX8_goes 2 = .ok (.iconst 1, 1) := by decide +kernel
theorem dX8_goes_3 : decode cX8_goes 3 = .ok (.bipush 30, 2) := by decide +kernel
theorem dX8_goes_5 : decode cX8_goes 5 = .ok (.invokestatic 66, 3) := by decide +kernel
theorem dX8_goes_8 : decode cX8_goes 8 = .ok (.ifCond .ne 7, 3) := by decide +kernel
theorem dX8_goes_11 : decode cX8_goes 11 = .ok (.iconst 1, 1) := by decide +kernel
theorem dX8_goes_12 : decode cX8_goes 12 = .ok (.goto 4, 3) := by decide +kernel
theorem dX8_goes_15 : decode cX8_goes 15 = .ok (.iconst 0, 1) := by decide +kernel
theorem dX8_goes_16 : decode cX8_goes 16 = .ok (.iconst 1, 1) := by decide +kernel
theorem dX8_goes_17 : decode cX8_goes 17 = .ok (.iconst 0, 1) := by decide +kernel
theorem dX8_goes_18 : decode cX8_goes 18 = .ok (.invokevirtual 92, 3) := by decide +kernel
theorem dX8_goes_21 : decode cX8_goes 21 = .ok (.iconst 0, 1) := by decide +kernel
theorem dX8_goes_22 : decode cX8_goes 22 = .ok (.istore_n 2, 1) := by decide +kernel
theorem dX8_goes_23 : decode cX8_goes 23 = .ok (.iload_n 2, 1) := by decide +kernel
theorem dX8_goes_24 : decode cX8_goes 24 = .ok (.iload_n 1, 1) := by decide +kernel
theorem dX8_goes_25 : decode cX8_goes 25 = .ok (.if_icmp .ge 20, 3) := by decide +kernel
theorem dX8_goes_28 : decode cX8_goes 28 = .ok (.aload_n 0, 1) := by decide +kernel
theorem dX8_goes_29 : decode cX8_goes 29 = .ok (.getfield 41, 3) := by decide +kernel
theorem dX8_goes_32 : decode cX8_goes 32 = .ok (.ifCond .ne 13, 3) := by decide +kernel
theorem dX8_goes_35 : decode cX8_goes 35 = .ok (.aload_n 0, 1) := by decide +kernel
theorem dX8_goes_36 : decode cX8_goes 36 = .ok (.invokevirtual 156, 3) := by decide +kernel
theorem dX8_goes_39 : decode cX8_goes 39 = .ok (.iinc 2 1, 3) := by decide +kernel
theorem dX8_goes_42 : decode cX8_goes 42 = .ok (.goto (-19), 3) := by decide +kernel
theorem dX8_goes_45 : decode cX8_goes 45 = .ok (.aload_n 0, 1) := by decide +kernel
theorem dX8_goes_46 : decode cX8_goes 46 = .ok (.iconst 3, 1) := by decide +kernel
theorem dX8_goes_47 : decode cX8_goes 47 = .ok (.invokevirtual 159, 3) := by decide +kernel
theorem dX8_goes_50 : decode cX8_goes 50 = .ok (.ireturn, 1) := by decide +kernel
theorem dX8_days_0 : decode cX8_days 0 = .ok (.aload_n 0, 1) := by decide +kernel
theorem dX8_days_1 : decode cX8_days 1 = .ok (.invokevirtual 89, 3) := by decide +kernel
theorem dX8_days_4 : decode cX8_days 4 = .ok (.aload_n 0, 1) := by decide +kernel
theorem dX8_days_5 : decode cX8_days 5 = .ok (.aload_n 0, 1) := by decide +kernel
theorem dX8_days_6 : decode cX8_days 6 = .ok (.iload_n 1, 1) := by decide +kernel
theorem dX8_days_7 : decode cX8_days 7 = .ok (.invokevirtual 162, 3) := by decide +kernel
theorem dX8_days_10 : decode cX8_days 10 = .ok (.iconst 0, 1) := by decide +kernel
theorem dX8_days_11 : decode cX8_days 11 = .ok (.iconst 1, 1) := by decide +kernel
theorem dX8_days_12 : decode cX8_days 12 = .ok (.invokevirtual 100, 3) := by decide +kernel
theorem dX8_days_15 : decode cX8_days 15 = .ok (.ireturn, 1) := by decide +kernel
theorem dX8_tires_0 : decode cX8_tires 0 = .ok (.aload_n 0, 1) := by decide +kernel
theorem dX8_tires_1 : decode cX8_tires 1 = .ok (.aload_n 0, 1) := by decide +kernel
theorem dX8_tires_2 : decode cX8_tires 2 = .ok (.iload_n 1, 1) := by decide +kernel
theorem dX8_tires_3 : decode cX8_tires 3 = .ok (.invokevirtual 115, 3) := by decide +kernel
theorem dX8_tires_6 : decode cX8_tires 6 = .ok (.ifCond .eq 15, 3) := by decide +kernel
theorem dX8_tires_9 : decode cX8_tires 9 = .ok (.aload_n 0, 1) := by decide +kernel
theorem dX8_tires_10 : decode cX8_tires 10 = .ok (.iload_n 2, 1) := by decide +kernel
theorem dX8_tires_11 : decode cX8_tires 11 = .ok (.invokevirtual 104, 3) := by decide +kernel
theorem dX8_tires_14 : decode cX8_tires 14 = .ok (.ifCond .eq 7, 3) := by decide +kernel
theorem dX8_tires_17 : decode cX8_tires 17 = .ok (.iconst 0, 1) := by decide +kernel
theorem dX8_tires_18 : decode cX8_tires 18 = .ok (.goto 4, 3) := by decide +kernel
theorem dX8_tires_21 : decode cX8_tires 21 = .ok (.iconst 1, 1) := by decide +kernel
theorem dX8_tires_22 : decode cX8_tires 22 = .ok (.putfield 38, 3) := by decide +kernel
theorem dX8_tires_25 : decode cX8_tires 25 = .ok (.aload_n 0, 1) := by decide +kernel
theorem dX8_tires_26 : decode cX8_tires 26 = .ok (.getfield 38, 3) := by decide +kernel
theorem dX8_tires_29 : decode cX8_tires 29 = .ok (.ifCond .ne 12, 3) := by decide +kernel
theorem dX8_tires_32 : decode cX8_tires 32 = .ok (.aload_n 0, 1) := by decide +kernel
theorem dX8_tires_33 : decode cX8_tires 33 = .ok (.iload_n 1, 1) := by decide +kernel
theorem dX8_tires_34 : decode cX8_tires 34 = .ok (.iload_n 2, 1) := by decide +kernel
theorem dX8_tires_35 : decode cX8_tires 35 = .ok (.invokevirtual 86, 3) := by decide +kernel
theorem dX8_tires_38 : decode cX8_tires 38 = .ok (.goto 4, 3) := by decide +kernel
theorem dX8_tires_41 : decode cX8_tires 41 = .ok (.iconst 0, 1) := by decide +kernel
theorem dX8_tires_42 : decode cX8_tires 42 = .ok (.ireturn, 1) := by decide +kernel
theorem dX8_canCarry_0 : decode cX8_canCarry 0 = .ok (.aload_n 0, 1) := by decide +kernel
theorem dX8_canCarry_1 : decode cX8_canCarry 1 = .ok (.aload_n 0, 1) := by decide +kernel
theorem dX8_canCarry_2 : decode cX8_canCarry 2 = .ok (.iload_n 1, 1) := by decide +kernel
theorem dX8_canCarry_3 : decode cX8_canCarry 3 = .ok (.invokevirtual 115, 3) := by decide +kernel
theorem dX8_canCarry_6 : decode cX8_canCarry 6 = .ok (.ifCond .eq 15, 3) := by decide +kernel
theorem dX8_canCarry_9 : decode cX8_canCarry 9 = .ok (.aload_n 0, 1) := by decide +kernel
theorem dX8_canCarry_10 : decode cX8_canCarry 10 = .ok (.iload_n 2, 1) := by decide +kernel
theorem dX8_canCarry_11 : decode cX8_canCarry 11 = .ok (.invokevirtual 104, 3) := by decide +kernel
theorem dX8_canCarry_14 : decode cX8_canCarry 14 = .ok (.ifCond .eq 7, 3) := by decide +kernel
theorem dX8_canCarry_17 : decode cX8_canCarry 17 = .ok (.iconst 0, 1) := by decide +kernel
theorem dX8_canCarry_18 : decode cX8_canCarry 18 = .ok (.goto 4, 3) := by decide +kernel
theorem dX8_canCarry_21 : decode cX8_canCarry 21 = .ok (.iconst 1, 1) := by decide +kernel
theorem dX8_canCarry_22 : decode cX8_canCarry 22 = .ok (.putfield 38, 3) := by decide +kernel
theorem dX8_canCarry_25 : decode cX8_canCarry 25 = .ok (.aload_n 0, 1) := by decide +kernel
theorem dX8_canCarry_26 : decode cX8_canCarry 26 = .ok (.getfield 38, 3) := by decide +kernel
theorem dX8_canCarry_29 : decode cX8_canCarry 29 = .ok (.ifCond .ne 12, 3) := by decide +kernel
theorem dX8_canCarry_32 : decode cX8_canCarry 32 = .ok (.aload_n 0, 1) := by decide +kernel
theorem dX8_canCarry_33 : decode cX8_canCarry 33 = .ok (.iload_n 1, 1) := by decide +kernel
theorem dX8_canCarry_34 : decode cX8_canCarry 34 = .ok (.iload_n 2, 1) := by decide +kernel
theorem dX8_canCarry_35 : decode cX8_canCarry 35 = .ok (.invokevirtual 165, 3) := by decide +kernel
theorem dX8_canCarry_38 : decode cX8_canCarry 38 = .ok (.goto 4, 3) := by decide +kernel
theorem dX8_canCarry_41 : decode cX8_canCarry 41 = .ok (.iconst 0, 1) := by decide +kernel
theorem dX8_canCarry_42 : decode cX8_canCarry 42 = .ok (.ireturn, 1) := by decide +kernel
theorem dX8_mayCarry_0 : decode cX8_mayCarry 0 = .ok (.aload_n 0, 1) := by decide +kernel
theorem dX8_mayCarry_1 : decode cX8_mayCarry 1 = .ok (.aload_n 0, 1) := by decide +kernel
theorem dX8_mayCarry_2 : decode cX8_mayCarry 2 = .ok (.iload_n 1, 1) := by decide +kernel
theorem dX8_mayCarry_3 : decode cX8_mayCarry 3 = .ok (.invokevirtual 115, 3) := by decide +kernel
theorem dX8_mayCarry_6 : decode cX8_mayCarry 6 = .ok (.ifCond .eq 7, 3) := by decide +kernel
theorem dX8_mayCarry_9 : decode cX8_mayCarry 9 = .ok (.iconst 0, 1) := by decide +kernel
theorem dX8_mayCarry_10 : decode cX8_mayCarry 10 = .ok (.goto 4, 3) := by decide +kernel
theorem dX8_mayCarry_13 : decode cX8_mayCarry 13 = .ok (.iconst 1, 1) := by decide +kernel
theorem dX8_mayCarry_14 : decode cX8_mayCarry 14 = .ok (.putfield 38, 3) := by decide +kernel
theorem dX8_mayCarry_17 : decode cX8_mayCarry 17 = .ok (.aload_n 0, 1) := by decide +kernel
theorem dX8_mayCarry_18 : decode cX8_mayCarry 18 = .ok (.invokevirtual 137, 3) := by decide +kernel
theorem dX8_mayCarry_21 : decode cX8_mayCarry 21 = .ok (.istore_n 2, 1) := by decide +kernel
theorem dX8_mayCarry_22 : decode cX8_mayCarry 22 = .ok (.aload_n 0, 1) := by decide +kernel
theorem dX8_mayCarry_23 : decode cX8_mayCarry 23 = .ok (.getfield 38, 3) := by decide +kernel
theorem dX8_mayCarry_26 : decode cX8_mayCarry 26 = .ok (.ifCond .ne 29, 3) := by decide +kernel
theorem dX8_mayCarry_29 : decode cX8_mayCarry 29 = .ok (.iload_n 2, 1) := by decide +kernel
theorem dX8_mayCarry_30 : decode cX8_mayCarry 30 = .ok (.ifCond .lt 25, 3) := by decide +kernel
theorem dX8_mayCarry_33 : decode cX8_mayCarry 33 = .ok (.aload_n 0, 1) := by decide +kernel
theorem dX8_mayCarry_34 : decode cX8_mayCarry 34 = .ok (.iload_n 2, 1) := by decide +kernel
theorem dX8_mayCarry_35 : decode cX8_mayCarry 35 = .ok (.iconst 4, 1) := by decide +kernel
theorem dX8_mayCarry_36 : decode cX8_mayCarry 36 = .ok (.invokevirtual 74, 3) := by decide +kernel
theorem dX8_mayCarry_39 : decode cX8_mayCarry 39 = .ok (.bipush 12, 2) := by decide +kernel
theorem dX8_mayCarry_41 : decode cX8_mayCarry 41 = .ok (.if_icmp .gt 14, 3) := by decide +kernel
theorem dX8_mayCarry_44 : decode cX8_mayCarry 44 = .ok (.aload_n 0, 1) := by decide +kernel
theorem dX8_mayCarry_45 : decode cX8_mayCarry 45 = .ok (.iload_n 2, 1) := by decide +kernel
theorem dX8_mayCarry_46 : decode cX8_mayCarry 46 = .ok (.iconst 5, 1) := by decide +kernel
theorem dX8_mayCarry_47 : decode cX8_mayCarry 47 = .ok (.invokevirtual 74, 3) := by decide +kernel
theorem dX8_mayCarry_50 : decode cX8_mayCarry 50 = .ok (.bipush 8, 2) := by decide +kernel
theorem dX8_mayCarry_52 : decode cX8_mayCarry 52 = .ok (.if_icmp .le 5, 3) := by decide +kernel
theorem dX8_mayCarry_55 : decode cX8_mayCarry 55 = .ok (.iconst 0, 1) := by decide +kernel
theorem dX8_mayCarry_56 : decode cX8_mayCarry 56 = .ok (.ireturn, 1) := by decide +kernel
theorem dX8_mayCarry_57 : decode cX8_mayCarry 57 = .ok (.bipush 9, 2) := by decide +kernel
theorem dX8_mayCarry_59 : decode cX8_mayCarry 59 = .ok (.aload_n 0, 1) := by decide +kernel
theorem dX8_mayCarry_60 : decode cX8_mayCarry 60 = .ok (.getfield 9, 3) := by decide +kernel
theorem dX8_mayCarry_63 : decode cX8_mayCarry 63 = .ok (.iconst 4, 1) := by decide +kernel
theorem dX8_mayCarry_64 : decode cX8_mayCarry 64 = .ok (.iaload, 1) := by decide +kernel
theorem dX8_mayCarry_65 : decode cX8_mayCarry 65 = .ok (.invokestatic 125, 3) := by decide +kernel
theorem dX8_mayCarry_68 : decode cX8_mayCarry 68 = .ok (.aload_n 0, 1) := by decide +kernel
theorem dX8_mayCarry_69 : decode cX8_mayCarry 69 = .ok (.iload_n 2, 1) := by decide +kernel
theorem dX8_mayCarry_70 : decode cX8_mayCarry 70 = .ok (.iconst 3, 1) := by decide +kernel
theorem dX8_mayCarry_71 : decode cX8_mayCarry 71 = .ok (.invokevirtual 74, 3) := by decide +kernel
theorem dX8_mayCarry_74 : decode cX8_mayCarry 74 = .ok (.invokestatic 125, 3) := by decide +kernel
theorem dX8_mayCarry_77 : decode cX8_mayCarry 77 = .ok (.istore_n 3, 1) := by decide +kernel
theorem dX8_mayCarry_78 : decode cX8_mayCarry 78 = .ok (.iload_n 3, 1) := by decide +kernel
theorem dX8_mayCarry_79 : decode cX8_mayCarry 79 = .ok (.aload_n 0, 1) := by decide +kernel
theorem dX8_mayCarry_80 : decode cX8_mayCarry 80 = .ok (.iload_n 2, 1) := by decide +kernel
theorem dX8_mayCarry_81 : decode cX8_mayCarry 81 = .ok (.invokevirtual 111, 3) := by decide +kernel
theorem dX8_mayCarry_84 : decode cX8_mayCarry 84 = .ok (.aload_n 0, 1) := by decide +kernel
theorem dX8_mayCarry_85 : decode cX8_mayCarry 85 = .ok (.iload_n 1, 1) := by decide +kernel
theorem dX8_mayCarry_86 : decode cX8_mayCarry 86 = .ok (.iload_n 2, 1) := by decide +kernel
theorem dX8_mayCarry_87 : decode cX8_mayCarry 87 = .ok (.invokevirtual 165, 3) := by decide +kernel
theorem dX8_mayCarry_90 : decode cX8_mayCarry 90 = .ok (.invokestatic 125, 3) := by decide +kernel
theorem dX8_mayCarry_93 : decode cX8_mayCarry 93 = .ok (.invokestatic 125, 3) := by decide +kernel
theorem dX8_mayCarry_96 : decode cX8_mayCarry 96 = .ok (.ireturn, 1) := by decide +kernel
theorem dX8_bestCarrier_0 : decode cX8_bestCarrier 0 = .ok (.aload_n 0, 1) := by decide +kernel
theorem dX8_bestCarrier_1 : decode cX8_bestCarrier 1 = .ok (.aload_n 0, 1) := by decide +kernel
theorem dX8_bestCarrier_2 : decode cX8_bestCarrier 2 = .ok (.iload_n 1, 1) := by decide +kernel
theorem dX8_bestCarrier_3 : decode cX8_bestCarrier 3 = .ok (.invokevirtual 104, 3) := by decide +kernel
theorem dX8_bestCarrier_6 : decode cX8_bestCarrier 6 = .ok (.ifCond .eq 7, 3) := by decide +kernel
theorem dX8_bestCarrier_9 : decode cX8_bestCarrier 9 = .ok (.iconst 0, 1) := by decide +kernel
theorem dX8_bestCarrier_10 : decode cX8_bestCarrier 10 = .ok (.goto 4, 3) := by decide +kernel
theorem dX8_bestCarrier_13 : decode cX8_bestCarrier 13 = .ok (.iconst 1, 1) := by decide +kernel
theorem dX8_bestCarrier_14 : decode cX8_bestCarrier 14 = .ok (.putfield 38, 3) := by decide +kernel
theorem dX8_bestCarrier_17 : decode cX8_bestCarrier 17 = .ok (.iconst (-1), 1) := by decide +kernel
theorem dX8_bestCarrier_18 : decode cX8_bestCarrier 18 = .ok (.istore_n 2, 1) := by decide +kernel
theorem dX8_bestCarrier_19 : decode cX8_bestCarrier 19 = .ok (.iconst 0, 1) := by decide +kernel
theorem dX8_bestCarrier_20 : decode cX8_bestCarrier 20 = .ok (.istore_n 3, 1) := by decide +kernel
theorem dX8_bestCarrier_21 : decode cX8_bestCarrier 21 = .ok (.iload_n 3, 1) := by decide +kernel
theorem dX8_bestCarrier_22 : decode cX8_bestCarrier 22 = .ok (.aload_n 0, 1) := by decide +kernel
theorem dX8_bestCarrier_23 : decode cX8_bestCarrier 23 = .ok (.getfield 9, 3) := by decide +kernel
theorem dX8_bestCarrier_26 : decode cX8_bestCarrier 26 = .ok (.iconst 2, 1) := by decide +kernel
theorem dX8_bestCarrier_27 : decode cX8_bestCarrier 27 = .ok (.iaload, 1) := by decide +kernel
theorem dX8_bestCarrier_28 : decode cX8_bestCarrier 28 = .ok (.if_icmp .ge 92, 3) := by decide +kernel
theorem dX8_bestCarrier_31 : decode cX8_bestCarrier 31 = .ok (.aload_n 0, 1) := by decide +kernel
theorem dX8_bestCarrier_32 : decode cX8_bestCarrier 32 = .ok (.getfield 38, 3) := by decide +kernel
theorem dX8_bestCarrier_35 : decode cX8_bestCarrier 35 = .ok (.ifCond .ne 85, 3) := by decide +kernel
theorem dX8_bestCarrier_38 : decode cX8_bestCarrier 38 = .ok (.aload_n 0, 1) := by decide +kernel
theorem dX8_bestCarrier_39 : decode cX8_bestCarrier 39 = .ok (.iload_n 3, 1) := by decide +kernel
theorem dX8_bestCarrier_40 : decode cX8_bestCarrier 40 = .ok (.iload_n 1, 1) := by decide +kernel
theorem dX8_bestCarrier_41 : decode cX8_bestCarrier 41 = .ok (.invokevirtual 165, 3) := by decide +kernel
theorem dX8_bestCarrier_44 : decode cX8_bestCarrier 44 = .ok (.istore 4, 2) := by decide +kernel
theorem dX8_bestCarrier_46 : decode cX8_bestCarrier 46 = .ok (.iload_n 2, 1) := by decide +kernel
theorem dX8_bestCarrier_47 : decode cX8_bestCarrier 47 = .ok (.iconst (-1), 1) := by decide +kernel
theorem dX8_bestCarrier_48 : decode cX8_bestCarrier 48 = .ok (.if_icmp .ne 7, 3) := by decide +kernel
theorem dX8_bestCarrier_51 : decode cX8_bestCarrier 51 = .ok (.iconst 1, 1) := by decide +kernel
theorem dX8_bestCarrier_52 : decode cX8_bestCarrier 52 = .ok (.goto 12, 3) := by decide +kernel
theorem dX8_bestCarrier_55 : decode cX8_bestCarrier 55 = .ok (.iload 4, 2) := by decide +kernel
theorem dX8_bestCarrier_57 : decode cX8_bestCarrier 57 = .ok (.aload_n 0, 1) := by decide +kernel
theorem dX8_bestCarrier_58 : decode cX8_bestCarrier 58 = .ok (.iload_n 2, 1) := by decide +kernel
theorem dX8_bestCarrier_59 : decode cX8_bestCarrier 59 = .ok (.iload_n 1, 1) := by decide +kernel
theorem dX8_bestCarrier_60 : decode cX8_bestCarrier 60 = .ok (.invokevirtual 165, 3) := by decide +kernel
theorem dX8_bestCarrier_63 : decode cX8_bestCarrier 63 = .ok (.isub, 1) := by decide +kernel
theorem dX8_bestCarrier_64 : decode cX8_bestCarrier 64 = .ok (.istore 5, 2) := by decide +kernel
theorem dX8_bestCarrier_66 : decode cX8_bestCarrier 66 = .ok (.iload 5, 2) := by decide +kernel
theorem dX8_bestCarrier_68 : decode cX8_bestCarrier 68 = .ok (.ifCond .gt 23, 3) := by decide +kernel
theorem dX8_bestCarrier_71 : decode cX8_bestCarrier 71 = .ok (.iload 5, 2) := by decide +kernel
theorem dX8_bestCarrier_73 : decode cX8_bestCarrier 73 = .ok (.ifCond .ne 22, 3) := by decide +kernel
theorem dX8_bestCarrier_76 : decode cX8_bestCarrier 76 = .ok (.aload_n 0, 1) := by decide +kernel
theorem dX8_bestCarrier_77 : decode cX8_bestCarrier 77 = .ok (.iload_n 3, 1) := by decide +kernel
theorem dX8_bestCarrier_78 : decode cX8_bestCarrier 78 = .ok (.iconst 2, 1) := by decide +kernel
theorem dX8_bestCarrier_79 : decode cX8_bestCarrier 79 = .ok (.invokevirtual 83, 3) := by decide +kernel
theorem dX8_bestCarrier_82 : decode cX8_bestCarrier 82 = .ok (.aload_n 0, 1) := by decide +kernel
theorem dX8_bestCarrier_83 : decode cX8_bestCarrier 83 = .ok (.iload_n 2, 1) := by decide +kernel
theorem dX8_bestCarrier_84 : decode cX8_bestCarrier 84 = .ok (.iconst 2, 1) := by decide +kernel
theorem dX8_bestCarrier_85 : decode cX8_bestCarrier 85 = .ok (.invokevirtual 83, 3) := by decide +kernel
theorem dX8_bestCarrier_88 : decode cX8_bestCarrier 88 = .ok (.if_icmp .ge 7, 3) := by decide +kernel
theorem dX8_bestCarrier_91 : decode cX8_bestCarrier 91 = .ok (.iconst 1, 1) := by decide +kernel
theorem dX8_bestCarrier_92 : decode cX8_bestCarrier 92 = .ok (.goto 4, 3) := by decide +kernel
theorem dX8_bestCarrier_95 : decode cX8_bestCarrier 95 = .ok (.iconst 0, 1) := by decide +kernel
theorem dX8_bestCarrier_96 : decode cX8_bestCarrier 96 = .ok (.istore 6, 2) := by decide +kernel
theorem dX8_bestCarrier_98 : decode cX8_bestCarrier 98 = .ok (.iload 4, 2) := by decide +kernel
theorem dX8_bestCarrier_100 : decode cX8_bestCarrier 100 = .ok (.ifCond .le 12, 3) := by decide +kernel
theorem dX8_bestCarrier_103 : decode cX8_bestCarrier 103 = .ok (.iload 6, 2) := by decide +kernel
theorem dX8_bestCarrier_105 : decode cX8_bestCarrier 105 = .ok (.ifCond .eq 7, 3) := by decide +kernel
theorem dX8_bestCarrier_108 : decode cX8_bestCarrier 108 = .ok (.iload_n 3, 1) := by decide +kernel
theorem dX8_bestCarrier_109 : decode cX8_bestCarrier 109 = .ok (.goto 4, 3) := by decide +kernel
theorem dX8_bestCarrier_112 : decode cX8_bestCarrier 112 = .ok (.iload_n 2, 1) := by decide +kernel
theorem dX8_bestCarrier_113 : decode cX8_bestCarrier 113 = .ok (.istore_n 2, 1) := by decide +kernel
theorem dX8_bestCarrier_114 : decode cX8_bestCarrier 114 = .ok (.iinc 3 1, 3) := by decide +kernel
theorem dX8_bestCarrier_117 : decode cX8_bestCarrier 117 = .ok (.goto (-96), 3) := by decide +kernel
theorem dX8_bestCarrier_120 : decode cX8_bestCarrier 120 = .ok (.aload_n 0, 1) := by decide +kernel
theorem dX8_bestCarrier_121 : decode cX8_bestCarrier 121 = .ok (.aload_n 0, 1) := by decide +kernel
theorem dX8_bestCarrier_122 : decode cX8_bestCarrier 122 = .ok (.getfield 38, 3) := by decide +kernel
theorem dX8_bestCarrier_125 : decode cX8_bestCarrier 125 = .ok (.ifCond .eq 10, 3) := by decide +kernel
theorem dX8_bestCarrier_128 : decode cX8_bestCarrier 128 = .ok (.aload_n 0, 1) := by decide +kernel
theorem dX8_bestCarrier_129 : decode cX8_bestCarrier 129 = .ok (.getfield 38, 3) := by decide +kernel
theorem dX8_bestCarrier_132 : decode cX8_bestCarrier 132 = .ok (.goto 13, 3) := by decide +kernel
theorem dX8_bestCarrier_135 : decode cX8_bestCarrier 135 = .ok (.iload_n 2, 1) := by decide +kernel
theorem dX8_bestCarrier_136 : decode cX8_bestCarrier 136 = .ok (.iconst (-1), 1) := by decide +kernel
theorem dX8_bestCarrier_137 : decode cX8_bestCarrier 137 = .ok (.if_icmp .ne 7, 3) := by decide +kernel
theorem dX8_bestCarrier_140 : decode cX8_bestCarrier 140 = .ok (.iconst 2, 1) := by decide +kernel
theorem dX8_bestCarrier_141 : decode cX8_bestCarrier 141 = .ok (.goto 4, 3) := by decide +kernel
theorem dX8_bestCarrier_144 : decode cX8_bestCarrier 144 = .ok (.iconst 0, 1) := by decide +kernel
theorem dX8_bestCarrier_145 : decode cX8_bestCarrier 145 = .ok (.putfield 38, 3) := by decide +kernel
theorem dX8_bestCarrier_148 : decode cX8_bestCarrier 148 = .ok (.aload_n 0, 1) := by decide +kernel
theorem dX8_bestCarrier_149 : decode cX8_bestCarrier 149 = .ok (.getfield 38, 3) := by decide +kernel
theorem dX8_bestCarrier_152 : decode cX8_bestCarrier 152 = .ok (.ifCond .ne 7, 3) := by decide +kernel
theorem dX8_bestCarrier_155 : decode cX8_bestCarrier 155 = .ok (.iload_n 2, 1) := by decide +kernel
theorem dX8_bestCarrier_156 : decode cX8_bestCarrier 156 = .ok (.goto 4, 3) := by decide +kernel
theorem dX8_bestCarrier_159 : decode cX8_bestCarrier 159 = .ok (.iconst 0, 1) := by decide +kernel
theorem dX8_bestCarrier_160 : decode cX8_bestCarrier 160 = .ok (.ireturn, 1) := by decide +kernel
theorem dX8_isQuiet_0 : decode cX8_isQuiet 0 = .ok (.aload_n 0, 1) := by decide +kernel
theorem dX8_isQuiet_1 : decode cX8_isQuiet 1 = .ok (.aload_n 0, 1) := by decide +kernel
theorem dX8_isQuiet_2 : decode cX8_isQuiet 2 = .ok (.iload_n 1, 1) := by decide +kernel
theorem dX8_isQuiet_3 : decode cX8_isQuiet 3 = .ok (.invokevirtual 104, 3) := by decide +kernel
theorem dX8_isQuiet_6 : decode cX8_isQuiet 6 = .ok (.ifCond .eq 7, 3) := by decide +kernel
theorem dX8_isQuiet_9 : decode cX8_isQuiet 9 = .ok (.iconst 0, 1) := by decide +kernel
theorem dX8_isQuiet_10 : decode cX8_isQuiet 10 = .ok (.goto 4, 3) := by decide +kernel
theorem dX8_isQuiet_13 : decode cX8_isQuiet 13 = .ok (.iconst 1, 1) := by decide +kernel
theorem dX8_isQuiet_14 : decode cX8_isQuiet 14 = .ok (.putfield 38, 3) := by decide +kernel
theorem dX8_isQuiet_17 : decode cX8_isQuiet 17 = .ok (.aload_n 0, 1) := by decide +kernel
theorem dX8_isQuiet_18 : decode cX8_isQuiet 18 = .ok (.getfield 38, 3) := by decide +kernel
theorem dX8_isQuiet_21 : decode cX8_isQuiet 21 = .ok (.ifCond .ne 15, 3) := by decide +kernel
theorem dX8_isQuiet_24 : decode cX8_isQuiet 24 = .ok (.aload_n 0, 1) := by decide +kernel
theorem dX8_isQuiet_25 : decode cX8_isQuiet 25 = .ok (.iload_n 1, 1) := by decide +kernel
theorem dX8_isQuiet_26 : decode cX8_isQuiet 26 = .ok (.invokevirtual 111, 3) := by decide +kernel
theorem dX8_isQuiet_29 : decode cX8_isQuiet 29 = .ok (.ifCond .le 7, 3) := by decide +kernel
theorem dX8_isQuiet_32 : decode cX8_isQuiet 32 = .ok (.iconst 1, 1) := by decide +kernel
theorem dX8_isQuiet_33 : decode cX8_isQuiet 33 = .ok (.goto 4, 3) := by decide +kernel
theorem dX8_isQuiet_36 : decode cX8_isQuiet 36 = .ok (.iconst 0, 1) := by decide +kernel
theorem dX8_isQuiet_37 : decode cX8_isQuiet 37 = .ok (.ireturn, 1) := by decide +kernel
theorem dX8_isAhead_0 : decode cX8_isAhead 0 = .ok (.aload_n 0, 1) := by decide +kernel
theorem dX8_isAhead_1 : decode cX8_isAhead 1 = .ok (.iload_n 1, 1) := by decide +kernel
theorem dX8_isAhead_2 : decode cX8_isAhead 2 = .ok (.iconst 4, 1) := by decide +kernel
theorem dX8_isAhead_3 : decode cX8_isAhead 3 = .ok (.invokevirtual 74, 3) := by decide +kernel
theorem dX8_isAhead_6 : decode cX8_isAhead 6 = .ok (.aload_n 0, 1) := by decide +kernel
theorem dX8_isAhead_7 : decode cX8_isAhead 7 = .ok (.iload_n 2, 1) := by decide +kernel
theorem dX8_isAhead_8 : decode cX8_isAhead 8 = .ok (.iconst 4, 1) := by decide +kernel
theorem dX8_isAhead_9 : decode cX8_isAhead 9 = .ok (.invokevirtual 74, 3) := by decide +kernel
theorem dX8_isAhead_12 : decode cX8_isAhead 12 = .ok (.isub, 1) := by decide +kernel
theorem dX8_isAhead_13 : decode cX8_isAhead 13 = .ok (.istore_n 3, 1) := by decide +kernel
theorem dX8_isAhead_14 : decode cX8_isAhead 14 = .ok (.aload_n 0, 1) := by decide +kernel
theorem dX8_isAhead_15 : decode cX8_isAhead 15 = .ok (.iload_n 1, 1) := by decide +kernel
theorem dX8_isAhead_16 : decode cX8_isAhead 16 = .ok (.iconst 3, 1) := by decide +kernel
theorem dX8_isAhead_17 : decode cX8_isAhead 17 = .ok (.invokevirtual 74, 3) := by decide +kernel
theorem dX8_isAhead_20 : decode cX8_isAhead 20 = .ok (.aload_n 0, 1) := by decide +kernel
theorem dX8_isAhead_21 : decode cX8_isAhead 21 = .ok (.iload_n 2, 1) := by decide +kernel
theorem dX8_isAhead_22 : decode cX8_isAhead 22 = .ok (.iconst 3, 1) := by decide +kernel
theorem dX8_isAhead_23 : decode cX8_isAhead 23 = .ok (.invokevirtual 74, 3) := by decide +kernel
theorem dX8_isAhead_26 : decode cX8_isAhead 26 = .ok (.isub, 1) := by decide +kernel
theorem dX8_isAhead_27 : decode cX8_isAhead 27 = .ok (.istore 4, 2) := by decide +kernel
theorem dX8_isAhead_29 : decode cX8_isAhead 29 = .ok (.iload_n 3, 1) := by decide +kernel
theorem dX8_isAhead_30 : decode cX8_isAhead 30 = .ok (.ifCond .eq 15, 3) := by decide +kernel
theorem dX8_isAhead_33 : decode cX8_isAhead 33 = .ok (.iload_n 3, 1) := by decide +kernel
theorem dX8_isAhead_34 : decode cX8_isAhead 34 = .ok (.ifCond .le 7, 3) := by decide +kernel
theorem dX8_isAhead_37 : decode cX8_isAhead 37 = .ok (.iconst 1, 1) := by decide +kernel
theorem dX8_isAhead_38 : decode cX8_isAhead 38 = .ok (.goto 35, 3) := by decide +kernel
theorem dX8_isAhead_41 : decode cX8_isAhead 41 = .ok (.iconst 0, 1) := by decide +kernel
theorem dX8_isAhead_42 : decode cX8_isAhead 42 = .ok (.goto 31, 3) := by decide +kernel
theorem dX8_isAhead_45 : decode cX8_isAhead 45 = .ok (.iload 4, 2) := by decide +kernel
theorem dX8_isAhead_47 : decode cX8_isAhead 47 = .ok (.ifCond .eq 16, 3) := by decide +kernel
theorem dX8_isAhead_50 : decode cX8_isAhead 50 = .ok (.iload 4, 2) := by decide +kernel
theorem dX8_isAhead_52 : decode cX8_isAhead 52 = .ok (.ifCond .le 7, 3) := by decide +kernel
theorem dX8_isAhead_55 : decode cX8_isAhead 55 = .ok (.iconst 1, 1) := by decide +kernel
theorem dX8_isAhead_56 : decode cX8_isAhead 56 = .ok (.goto 17, 3) := by decide +kernel
theorem dX8_isAhead_59 : decode cX8_isAhead 59 = .ok (.iconst 0, 1) := by decide +kernel
theorem dX8_isAhead_60 : decode cX8_isAhead 60 = .ok (.goto 13, 3) := by decide +kernel
theorem dX8_isAhead_63 : decode cX8_isAhead 63 = .ok (.iload_n 1, 1) := by decide +kernel
theorem dX8_isAhead_64 : decode cX8_isAhead 64 = .ok (.iload_n 2, 1) := by decide +kernel
theorem dX8_isAhead_65 : decode cX8_isAhead 65 = .ok (.if_icmp .ge 7, 3) := by decide +kernel
theorem dX8_isAhead_68 : decode cX8_isAhead 68 = .ok (.iconst 1, 1) := by decide +kernel
theorem dX8_isAhead_69 : decode cX8_isAhead 69 = .ok (.goto 4, 3) := by decide +kernel
theorem dX8_isAhead_72 : decode cX8_isAhead 72 = .ok (.iconst 0, 1) := by decide +kernel
theorem dX8_isAhead_73 : decode cX8_isAhead 73 = .ok (.ireturn, 1) := by decide +kernel
theorem dX8_ranked_0 : decode cX8_ranked 0 = .ok (.iconst (-1), 1) := by decide +kernel
theorem dX8_ranked_1 : decode cX8_ranked 1 = .ok (.istore_n 2, 1) := by decide +kernel
theorem dX8_ranked_2 : decode cX8_ranked 2 = .ok (.iconst 0, 1) := by decide +kernel
theorem dX8_ranked_3 : decode cX8_ranked 3 = .ok (.istore_n 3, 1) := by decide +kernel
theorem dX8_ranked_4 : decode cX8_ranked 4 = .ok (.iload_n 3, 1) := by decide +kernel
theorem dX8_ranked_5 : decode cX8_ranked 5 = .ok (.aload_n 0, 1) := by decide +kernel
theorem dX8_ranked_6 : decode cX8_ranked 6 = .ok (.getfield 9, 3) := by decide +kernel
theorem dX8_ranked_9 : decode cX8_ranked 9 = .ok (.iconst 1, 1) := by decide +kernel
theorem dX8_ranked_10 : decode cX8_ranked 10 = .ok (.iaload, 1) := by decide +kernel
theorem dX8_ranked_11 : decode cX8_ranked 11 = .ok (.if_icmp .ge 70, 3) := by decide +kernel
theorem dX8_ranked_14 : decode cX8_ranked 14 = .ok (.iconst 0, 1) := by decide +kernel
theorem dX8_ranked_15 : decode cX8_ranked 15 = .ok (.istore 4, 2) := by decide +kernel
theorem dX8_ranked_17 : decode cX8_ranked 17 = .ok (.iconst 0, 1) := by decide +kernel
theorem dX8_ranked_18 : decode cX8_ranked 18 = .ok (.istore 5, 2) := by decide +kernel
theorem dX8_ranked_20 : decode cX8_ranked 20 = .ok (.iload 5, 2) := by decide +kernel
theorem dX8_ranked_22 : decode cX8_ranked 22 = .ok (.aload_n 0, 1) := by decide +kernel
theorem dX8_ranked_23 : decode cX8_ranked 23 = .ok (.getfield 9, 3) := by decide +kernel
theorem dX8_ranked_26 : decode cX8_ranked 26 = .ok (.iconst 1, 1) := by decide +kernel
theorem dX8_ranked_27 : decode cX8_ranked 27 = .ok (.iaload, 1) := by decide +kernel
theorem dX8_ranked_28 : decode cX8_ranked 28 = .ok (.if_icmp .ge 35, 3) := by decide +kernel
theorem dX8_ranked_31 : decode cX8_ranked 31 = .ok (.iload 4, 2) := by decide +kernel
theorem dX8_ranked_33 : decode cX8_ranked 33 = .ok (.iload 5, 2) := by decide +kernel
theorem dX8_ranked_35 : decode cX8_ranked 35 = .ok (.iload_n 3, 1) := by decide +kernel
theorem dX8_ranked_36 : decode cX8_ranked 36 = .ok (.if_icmp .eq 17, 3) := by decide +kernel
theorem dX8_ranked_39 : decode cX8_ranked 39 = .ok (.aload_n 0, 1) := by decide +kernel
theorem dX8_ranked_40 : decode cX8_ranked 40 = .ok (.iload 5, 2) := by decide +kernel
theorem dX8_ranked_42 : decode cX8_ranked 42 = .ok (.iload_n 3, 1) := by decide +kernel
theorem dX8_ranked_43 : decode cX8_ranked 43 = .ok (.invokevirtual 168, 3) := by decide +kernel
theorem dX8_ranked_46 : decode cX8_ranked 46 = .ok (.ifCond .eq 7, 3) := by decide +kernel
theorem dX8_ranked_49 : decode cX8_ranked 49 = .ok (.iconst 1, 1) := by decide +kernel
theorem dX8_ranked_50 : decode cX8_ranked 50 = .ok (.goto 4, 3) := by decide +kernel
theorem dX8_ranked_53 : decode cX8_ranked 53 = .ok (.iconst 0, 1) := by decide +kernel
theorem dX8_ranked_54 : decode cX8_ranked 54 = .ok (.iadd, 1) := by decide +kernel
theorem dX8_ranked_55 : decode cX8_ranked 55 = .ok (.istore 4, 2) := by decide +kernel
theorem dX8_ranked_57 : decode cX8_ranked 57 = .ok (.iinc 5 1, 3) := by decide +kernel
theorem dX8_ranked_60 : decode cX8_ranked 60 = .ok (.goto (-40), 3) := by decide +kernel
theorem dX8_ranked_63 : decode cX8_ranked 63 = .ok (.iload 4, 2) := by decide +kernel
theorem dX8_ranked_65 : decode cX8_ranked 65 = .ok (.iload_n 1, 1) := by decide +kernel
theorem dX8_ranked_66 : decode cX8_ranked 66 = .ok (.if_icmp .ne 7, 3) := by decide +kernel
theorem dX8_ranked_69 : decode cX8_ranked 69 = .ok (.iload_n 3, 1) := by decide +kernel
theorem dX8_ranked_70 : decode cX8_ranked 70 = .ok (.goto 4, 3) := by decide +kernel
theorem dX8_ranked_73 : decode cX8_ranked 73 = .ok (.iload_n 2, 1) := by decide +kernel
theorem dX8_ranked_74 : decode cX8_ranked 74 = .ok (.istore_n 2, 1) := by decide +kernel
theorem dX8_ranked_75 : decode cX8_ranked 75 = .ok (.iinc 3 1, 3) := by decide +kernel
theorem dX8_ranked_78 : decode cX8_ranked 78 = .ok (.goto (-74), 3) := by decide +kernel
theorem dX8_ranked_81 : decode cX8_ranked 81 = .ok (.aload_n 0, 1) := by decide +kernel
theorem dX8_ranked_82 : decode cX8_ranked 82 = .ok (.iload_n 2, 1) := by decide +kernel
theorem dX8_ranked_83 : decode cX8_ranked 83 = .ok (.iconst (-1), 1) := by decide +kernel
theorem dX8_ranked_84 : decode cX8_ranked 84 = .ok (.if_icmp .ne 7, 3) := by decide +kernel
theorem dX8_ranked_87 : decode cX8_ranked 87 = .ok (.iconst 1, 1) := by decide +kernel
theorem dX8_ranked_88 : decode cX8_ranked 88 = .ok (.goto 4, 3) := by decide +kernel
theorem dX8_ranked_91 : decode cX8_ranked 91 = .ok (.iconst 0, 1) := by decide +kernel
theorem dX8_ranked_92 : decode cX8_ranked 92 = .ok (.putfield 38, 3) := by decide +kernel
theorem dX8_ranked_95 : decode cX8_ranked 95 = .ok (.aload_n 0, 1) := by decide +kernel
theorem dX8_ranked_96 : decode cX8_ranked 96 = .ok (.getfield 38, 3) := by decide +kernel
theorem dX8_ranked_99 : decode cX8_ranked 99 = .ok (.ifCond .ne 7, 3) := by decide +kernel
theorem dX8_ranked_102 : decode cX8_ranked 102 = .ok (.iload_n 2, 1) := by decide +kernel
theorem dX8_ranked_103 : decode cX8_ranked 103 = .ok (.goto 4, 3) := by decide +kernel
theorem dX8_ranked_106 : decode cX8_ranked 106 = .ok (.iconst 0, 1) := by decide +kernel
theorem dX8_ranked_107 : decode cX8_ranked 107 = .ok (.ireturn, 1) := by decide +kernel
theorem dX8_carried_0 : decode cX8_carried 0 = .ok (.aload_n 0, 1) := by decide +kernel
theorem dX8_carried_1 : decode cX8_carried 1 = .ok (.iconst 0, 1) := by decide +kernel
theorem dX8_carried_2 : decode cX8_carried 2 = .ok (.putfield 38, 3) := by decide +kernel
theorem dX8_carried_5 : decode cX8_carried 5 = .ok (.iconst 0, 1) := by decide +kernel
theorem dX8_carried_6 : decode cX8_carried 6 = .ok (.istore_n 1, 1) := by decide +kernel
theorem dX8_carried_7 : decode cX8_carried 7 = .ok (.iconst 0, 1) := by decide +kernel
theorem dX8_carried_8 : decode cX8_carried 8 = .ok (.istore_n 2, 1) := by decide +kernel
theorem dX8_carried_9 : decode cX8_carried 9 = .ok (.iload_n 2, 1) := by decide +kernel
theorem dX8_carried_10 : decode cX8_carried 10 = .ok (.aload_n 0, 1) := by decide +kernel
theorem dX8_carried_11 : decode cX8_carried 11 = .ok (.getfield 9, 3) := by decide +kernel
theorem dX8_carried_14 : decode cX8_carried 14 = .ok (.iconst 2, 1) := by decide +kernel
theorem dX8_carried_15 : decode cX8_carried 15 = .ok (.iaload, 1) := by decide +kernel
theorem dX8_carried_16 : decode cX8_carried 16 = .ok (.if_icmp .ge 18, 3) := by decide +kernel
theorem dX8_carried_19 : decode cX8_carried 19 = .ok (.iload_n 1, 1) := by decide +kernel
theorem dX8_carried_20 : decode cX8_carried 20 = .ok (.aload_n 0, 1) := by decide +kernel
theorem dX8_carried_21 : decode cX8_carried 21 = .ok (.iload_n 2, 1) := by decide +kernel
theorem dX8_carried_22 : decode cX8_carried 22 = .ok (.iconst 3, 1) := by decide +kernel
theorem dX8_carried_23 : decode cX8_carried 23 = .ok (.invokevirtual 83, 3) := by decide +kernel
theorem dX8_carried_26 : decode cX8_carried 26 = .ok (.iadd, 1) := by decide +kernel
theorem dX8_carried_27 : decode cX8_carried 27 = .ok (.istore_n 1, 1) := by decide +kernel
theorem dX8_carried_28 : decode cX8_carried 28 = .ok (.iinc 2 1, 3) := by decide +kernel
theorem dX8_carried_31 : decode cX8_carried 31 = .ok (.goto (-22), 3) := by decide +kernel
theorem dX8_carried_34 : decode cX8_carried 34 = .ok (.iload_n 1, 1) := by decide +kernel
theorem dX8_carried_35 : decode cX8_carried 35 = .ok (.ireturn, 1) := by decide +kernel
theorem dX8_carriedAgain_0 : decode cX8_carriedAgain 0 = .ok (.aload_n 0, 1) := by decide +kernel
theorem dX8_carriedAgain_1 : decode cX8_carriedAgain 1 = .ok (.iconst 0, 1) := by decide +kernel
theorem dX8_carriedAgain_2 : decode cX8_carriedAgain 2 = .ok (.putfield 38, 3) := by decide +kernel
theorem dX8_carriedAgain_5 : decode cX8_carriedAgain 5 = .ok (.aload_n 0, 1) := by decide +kernel
theorem dX8_carriedAgain_6 : decode cX8_carriedAgain 6 = .ok (.getfield 9, 3) := by decide +kernel
theorem dX8_carriedAgain_9 : decode cX8_carriedAgain 9 = .ok (.bipush 7, 2) := by decide +kernel
theorem dX8_carriedAgain_11 : decode cX8_carriedAgain 11 = .ok (.iaload, 1) := by decide +kernel
theorem dX8_carriedAgain_12 : decode cX8_carriedAgain 12 = .ok (.aload_n 0, 1) := by decide +kernel
theorem dX8_carriedAgain_13 : decode cX8_carriedAgain 13 = .ok (.iconst 4, 1) := by decide +kernel
theorem dX8_carriedAgain_14 : decode cX8_carriedAgain 14 = .ok (.invokevirtual 159, 3) := by decide +kernel
theorem dX8_carriedAgain_17 : decode cX8_carriedAgain 17 = .ok (.iadd, 1) := by decide +kernel
theorem dX8_carriedAgain_18 : decode cX8_carriedAgain 18 = .ok (.iconst 3, 1) := by decide +kernel
theorem dX8_carriedAgain_19 : decode cX8_carriedAgain 19 = .ok (.idiv, 1) := by decide +kernel
theorem dX8_carriedAgain_20 : decode cX8_carriedAgain 20 = .ok (.ireturn, 1) := by decide +kernel
theorem dX8_put_0 : decode cX8_put 0 = .ok (.aload_n 0, 1) := by decide +kernel
theorem dX8_put_1 : decode cX8_put 1 = .ok (.getfield 29, 3) := by decide +kernel
theorem dX8_put_4 : decode cX8_put 4 = .ok (.iload_n 1, 1) := by decide +kernel
theorem dX8_put_5 : decode cX8_put 5 = .ok (.iload_n 2, 1) := by decide +kernel
theorem dX8_put_6 : decode cX8_put 6 = .ok (.iastore, 1) := by decide +kernel
theorem dX8_put_7 : decode cX8_put 7 = .ok (.iload_n 1, 1) := by decide +kernel
theorem dX8_put_8 : decode cX8_put 8 = .ok (.iconst 1, 1) := by decide +kernel
theorem dX8_put_9 : decode cX8_put 9 = .ok (.iadd, 1) := by decide +kernel
theorem dX8_put_10 : decode cX8_put 10 = .ok (.ireturn, 1) := by decide +kernel
theorem dX8_writesNumber_0 : decode cX8_writesNumber 0 = .ok (.iload_n 2, 1) := by decide +kernel
theorem dX8_writesNumber_1 : decode cX8_writesNumber 1 = .ok (.bipush 10, 2) := by decide +kernel
theorem dX8_writesNumber_3 : decode cX8_writesNumber 3 = .ok (.if_icmp .ge 7, 3) := by decide +kernel
theorem dX8_writesNumber_6 : decode cX8_writesNumber 6 = .ok (.iload_n 1, 1) := by decide +kernel
theorem dX8_writesNumber_7 : decode cX8_writesNumber 7 = .ok (.goto 15, 3) := by decide +kernel
theorem dX8_writesNumber_10 : decode cX8_writesNumber 10 = .ok (.aload_n 0, 1) := by decide +kernel
theorem dX8_writesNumber_11 : decode cX8_writesNumber 11 = .ok (.iload_n 1, 1) := by decide +kernel
theorem dX8_writesNumber_12 : decode cX8_writesNumber 12 = .ok (.bipush 48, 2) := by decide +kernel
theorem dX8_writesNumber_14 : decode cX8_writesNumber 14 = .ok (.iload_n 2, 1) := by decide +kernel
theorem dX8_writesNumber_15 : decode cX8_writesNumber 15 = .ok (.bipush 10, 2) := by decide +kernel
theorem dX8_writesNumber_17 : decode cX8_writesNumber 17 = .ok (.idiv, 1) := by decide +kernel
theorem dX8_writesNumber_18 : decode cX8_writesNumber 18 = .ok (.iadd, 1) := by decide +kernel
theorem dX8_writesNumber_19 : decode cX8_writesNumber 19 = .ok (.invokevirtual 172, 3) := by decide +kernel
theorem dX8_writesNumber_22 : decode cX8_writesNumber 22 = .ok (.istore_n 3, 1) := by decide +kernel
theorem dX8_writesNumber_23 : decode cX8_writesNumber 23 = .ok (.aload_n 0, 1) := by decide +kernel
theorem dX8_writesNumber_24 : decode cX8_writesNumber 24 = .ok (.iload_n 3, 1) := by decide +kernel
theorem dX8_writesNumber_25 : decode cX8_writesNumber 25 = .ok (.bipush 48, 2) := by decide +kernel
theorem dX8_writesNumber_27 : decode cX8_writesNumber 27 = .ok (.iload_n 2, 1) := by decide +kernel
theorem dX8_writesNumber_28 : decode cX8_writesNumber 28 = .ok (.bipush 10, 2) := by decide +kernel
theorem dX8_writesNumber_30 : decode cX8_writesNumber 30 = .ok (.irem, 1) := by decide +kernel
theorem dX8_writesNumber_31 : decode cX8_writesNumber 31 = .ok (.iadd, 1) := by decide +kernel
theorem dX8_writesNumber_32 : decode cX8_writesNumber 32 = .ok (.invokevirtual 172, 3) := by decide +kernel
theorem dX8_writesNumber_35 : decode cX8_writesNumber 35 = .ok (.ireturn, 1) := by decide +kernel
theorem dX8_line_0 : decode cX8_line 0 = .ok (.aload_n 0, 1) := by decide +kernel
theorem dX8_line_1 : decode cX8_line 1 = .ok (.aload_n 0, 1) := by decide +kernel
theorem dX8_line_2 : decode cX8_line 2 = .ok (.iload_n 1, 1) := by decide +kernel
theorem dX8_line_3 : decode cX8_line 3 = .ok (.invokevirtual 104, 3) := by decide +kernel
theorem dX8_line_6 : decode cX8_line 6 = .ok (.ifCond .eq 7, 3) := by decide +kernel
theorem dX8_line_9 : decode cX8_line 9 = .ok (.iconst 0, 1) := by decide +kernel
theorem dX8_line_10 : decode cX8_line 10 = .ok (.goto 4, 3) := by decide +kernel
theorem dX8_line_13 : decode cX8_line 13 = .ok (.iconst 1, 1) := by decide +kernel
theorem dX8_line_14 : decode cX8_line 14 = .ok (.putfield 38, 3) := by decide +kernel
theorem dX8_line_17 : decode cX8_line 17 = .ok (.aload_n 0, 1) := by decide +kernel
theorem dX8_line_18 : decode cX8_line 18 = .ok (.getfield 38, 3) := by decide +kernel
theorem dX8_line_21 : decode cX8_line 21 = .ok (.ifCond .eq 5, 3) := by decide +kernel
theorem dX8_line_24 : decode cX8_line 24 = .ok (.iconst 0, 1) := by decide +kernel
theorem dX8_line_25 : decode cX8_line 25 = .ok (.ireturn, 1) := by decide +kernel
theorem dX8_line_26 : decode cX8_line 26 = .ok (.aload_n 0, 1) := by decide +kernel
theorem dX8_line_27 : decode cX8_line 27 = .ok (.aload_n 0, 1) := by decide +kernel
theorem dX8_line_28 : decode cX8_line 28 = .ok (.iconst 0, 1) := by decide +kernel
theorem dX8_line_29 : decode cX8_line 29 = .ok (.iload_n 1, 1) := by decide +kernel
theorem dX8_line_30 : decode cX8_line 30 = .ok (.invokevirtual 175, 3) := by decide +kernel
theorem dX8_line_33 : decode cX8_line 33 = .ok (.bipush 58, 2) := by decide +kernel
theorem dX8_line_35 : decode cX8_line 35 = .ok (.invokevirtual 172, 3) := by decide +kernel
theorem dX8_line_38 : decode cX8_line 38 = .ok (.istore_n 2, 1) := by decide +kernel
theorem dX8_line_39 : decode cX8_line 39 = .ok (.aload_n 0, 1) := by decide +kernel
theorem dX8_line_40 : decode cX8_line 40 = .ok (.aload_n 0, 1) := by decide +kernel
theorem dX8_line_41 : decode cX8_line 41 = .ok (.iload_n 2, 1) := by decide +kernel
theorem dX8_line_42 : decode cX8_line 42 = .ok (.aload_n 0, 1) := by decide +kernel
theorem dX8_line_43 : decode cX8_line 43 = .ok (.iload_n 1, 1) := by decide +kernel
theorem dX8_line_44 : decode cX8_line 44 = .ok (.iconst 3, 1) := by decide +kernel
theorem dX8_line_45 : decode cX8_line 45 = .ok (.invokevirtual 74, 3) := by decide +kernel
theorem dX8_line_48 : decode cX8_line 48 = .ok (.invokevirtual 175, 3) := by decide +kernel
theorem dX8_line_51 : decode cX8_line 51 = .ok (.bipush 47, 2) := by decide +kernel
theorem dX8_line_53 : decode cX8_line 53 = .ok (.invokevirtual 172, 3) := by decide +kernel
theorem dX8_line_56 : decode cX8_line 56 = .ok (.istore_n 2, 1) := by decide +kernel
theorem dX8_line_57 : decode cX8_line 57 = .ok (.aload_n 0, 1) := by decide +kernel
theorem dX8_line_58 : decode cX8_line 58 = .ok (.iload_n 2, 1) := by decide +kernel
theorem dX8_line_59 : decode cX8_line 59 = .ok (.aload_n 0, 1) := by decide +kernel
theorem dX8_line_60 : decode cX8_line 60 = .ok (.iload_n 1, 1) := by decide +kernel
theorem dX8_line_61 : decode cX8_line 61 = .ok (.iconst 4, 1) := by decide +kernel
theorem dX8_line_62 : decode cX8_line 62 = .ok (.invokevirtual 74, 3) := by decide +kernel
theorem dX8_line_65 : decode cX8_line 65 = .ok (.invokevirtual 175, 3) := by decide +kernel
theorem dX8_line_68 : decode cX8_line 68 = .ok (.istore_n 2, 1) := by decide +kernel
theorem dX8_line_69 : decode cX8_line 69 = .ok (.iconst 0, 1) := by decide +kernel
theorem dX8_line_70 : decode cX8_line 70 = .ok (.istore_n 3, 1) := by decide +kernel
theorem dX8_line_71 : decode cX8_line 71 = .ok (.iload_n 3, 1) := by decide +kernel
theorem dX8_line_72 : decode cX8_line 72 = .ok (.aload_n 0, 1) := by decide +kernel
theorem dX8_line_73 : decode cX8_line 73 = .ok (.iload_n 1, 1) := by decide +kernel
theorem dX8_line_74 : decode cX8_line 74 = .ok (.iconst 5, 1) := by decide +kernel
theorem dX8_line_75 : decode cX8_line 75 = .ok (.invokevirtual 74, 3) := by decide +kernel
theorem dX8_line_78 : decode cX8_line 78 = .ok (.iconst 2, 1) := by decide +kernel
theorem dX8_line_79 : decode cX8_line 79 = .ok (.iadd, 1) := by decide +kernel
theorem dX8_line_80 : decode cX8_line 80 = .ok (.iconst 3, 1) := by decide +kernel
theorem dX8_line_81 : decode cX8_line 81 = .ok (.idiv, 1) := by decide +kernel
theorem dX8_line_82 : decode cX8_line 82 = .ok (.if_icmp .ge 17, 3) := by decide +kernel
theorem dX8_line_85 : decode cX8_line 85 = .ok (.aload_n 0, 1) := by decide +kernel
theorem dX8_line_86 : decode cX8_line 86 = .ok (.iload_n 2, 1) := by decide +kernel
theorem dX8_line_87 : decode cX8_line 87 = .ok (.bipush 35, 2) := by decide +kernel
theorem dX8_line_89 : decode cX8_line 89 = .ok (.invokevirtual 172, 3) := by decide +kernel
theorem dX8_line_92 : decode cX8_line 92 = .ok (.istore_n 2, 1) := by decide +kernel
theorem dX8_line_93 : decode cX8_line 93 = .ok (.iinc 3 1, 3) := by decide +kernel
theorem dX8_line_96 : decode cX8_line 96 = .ok (.goto (-25), 3) := by decide +kernel
theorem dX8_line_99 : decode cX8_line 99 = .ok (.aload_n 0, 1) := by decide +kernel
theorem dX8_line_100 : decode cX8_line 100 = .ok (.iload_n 1, 1) := by decide +kernel
theorem dX8_line_101 : decode cX8_line 101 = .ok (.iconst 1, 1) := by decide +kernel
theorem dX8_line_102 : decode cX8_line 102 = .ok (.invokevirtual 74, 3) := by decide +kernel
theorem dX8_line_105 : decode cX8_line 105 = .ok (.istore_n 3, 1) := by decide +kernel
theorem dX8_line_106 : decode cX8_line 106 = .ok (.aload_n 0, 1) := by decide +kernel
theorem dX8_line_107 : decode cX8_line 107 = .ok (.iload_n 3, 1) := by decide +kernel
theorem dX8_line_108 : decode cX8_line 108 = .ok (.ifCond .ne 7, 3) := by decide +kernel
theorem dX8_line_111 : decode cX8_line 111 = .ok (.iload_n 2, 1) := by decide +kernel
theorem dX8_line_112 : decode cX8_line 112 = .ok (.goto 36, 3) := by decide +kernel
theorem dX8_line_115 : decode cX8_line 115 = .ok (.aload_n 0, 1) := by decide +kernel
theorem dX8_line_116 : decode cX8_line 116 = .ok (.iload_n 2, 1) := by decide +kernel
theorem dX8_line_117 : decode cX8_line 117 = .ok (.aload_n 0, 1) := by decide +kernel
theorem dX8_line_118 : decode cX8_line 118 = .ok (.iload_n 1, 1) := by decide +kernel
theorem dX8_line_119 : decode cX8_line 119 = .ok (.bipush 7, 2) := by decide +kernel
theorem dX8_line_121 : decode cX8_line 121 = .ok (.invokevirtual 74, 3) := by decide +kernel
theorem dX8_line_124 : decode cX8_line 124 = .ok (.iconst 1, 1) := by decide +kernel
theorem dX8_line_125 : decode cX8_line 125 = .ok (.if_icmp .ne 8, 3) := by decide +kernel
theorem dX8_line_128 : decode cX8_line 128 = .ok (.bipush 98, 2) := by decide +kernel
theorem dX8_line_130 : decode cX8_line 130 = .ok (.goto 15, 3) := by decide +kernel
theorem dX8_line_133 : decode cX8_line 133 = .ok (.iload_n 3, 1) := by decide +kernel
theorem dX8_line_134 : decode cX8_line 134 = .ok (.iconst 1, 1) := by decide +kernel
theorem dX8_line_135 : decode cX8_line 135 = .ok (.if_icmp .ne 8, 3) := by decide +kernel
theorem dX8_line_138 : decode cX8_line 138 = .ok (.bipush 122, 2) := by decide +kernel
theorem dX8_line_140 : decode cX8_line 140 = .ok (.goto 5, 3) := by decide +kernel
theorem dX8_line_143 : decode cX8_line 143 = .ok (.bipush 33, 2) := by decide +kernel
theorem dX8_line_145 : decode cX8_line 145 = .ok (.invokevirtual 172, 3) := by decide +kernel
theorem dX8_line_148 : decode cX8_line 148 = .ok (.putfield 178, 3) := by decide +kernel
theorem dX8_line_151 : decode cX8_line 151 = .ok (.aload_n 0, 1) := by decide +kernel
theorem dX8_line_152 : decode cX8_line 152 = .ok (.getfield 178, 3) := by decide +kernel
theorem dX8_line_155 : decode cX8_line 155 = .ok (.ireturn, 1) := by decide +kernel
theorem dX8_character_0 : decode cX8_character 0 = .ok (.aload_n 0, 1) := by decide +kernel
theorem dX8_character_1 : decode cX8_character 1 = .ok (.iload_n 1, 1) := by decide +kernel
theorem dX8_character_2 : decode cX8_character 2 = .ok (.iconst 0, 1) := by decide +kernel
theorem dX8_character_3 : decode cX8_character 3 = .ok (.aload_n 0, 1) := by decide +kernel
theorem dX8_character_4 : decode cX8_character 4 = .ok (.getfield 178, 3) := by decide +kernel
theorem dX8_character_7 : decode cX8_character 7 = .ok (.iconst 1, 1) := by decide +kernel
theorem dX8_character_8 : decode cX8_character 8 = .ok (.isub, 1) := by decide +kernel
theorem dX8_character_9 : decode cX8_character 9 = .ok (.invokestatic 66, 3) := by decide +kernel
theorem dX8_character_12 : decode cX8_character 12 = .ok (.ifCond .eq 7, 3) := by decide +kernel
theorem dX8_character_15 : decode cX8_character 15 = .ok (.iconst 0, 1) := by decide +kernel
theorem dX8_character_16 : decode cX8_character 16 = .ok (.goto 4, 3) := by decide +kernel
theorem dX8_character_19 : decode cX8_character 19 = .ok (.iconst 1, 1) := by decide +kernel
theorem dX8_character_20 : decode cX8_character 20 = .ok (.putfield 38, 3) := by decide +kernel
theorem dX8_character_23 : decode cX8_character 23 = .ok (.aload_n 0, 1) := by decide +kernel
theorem dX8_character_24 : decode cX8_character 24 = .ok (.getfield 38, 3) := by decide +kernel
theorem dX8_character_27 : decode cX8_character 27 = .ok (.ifCond .ne 13, 3) := by decide +kernel
theorem dX8_character_30 : decode cX8_character 30 = .ok (.aload_n 0, 1) := by decide +kernel
theorem dX8_character_31 : decode cX8_character 31 = .ok (.getfield 29, 3) := by decide +kernel
theorem dX8_character_34 : decode cX8_character 34 = .ok (.iload_n 1, 1) := by decide +kernel
theorem dX8_character_35 : decode cX8_character 35 = .ok (.iaload, 1) := by decide +kernel
theorem dX8_character_36 : decode cX8_character 36 = .ok (.i2c, 1) := by decide +kernel
theorem dX8_character_37 : decode cX8_character 37 = .ok (.goto 4, 3) := by decide +kernel
theorem dX8_character_40 : decode cX8_character 40 = .ok (.iconst 0, 1) := by decide +kernel
theorem dX8_character_41 : decode cX8_character 41 = .ok (.ireturn, 1) := by decide +kernel
theorem dX8_meanArrears_0 : decode cX8_meanArrears 0 = .ok (.aload_n 0, 1) := by decide +kernel
theorem dX8_meanArrears_1 : decode cX8_meanArrears 1 = .ok (.aload_n 0, 1) := by decide +kernel
theorem dX8_meanArrears_2 : decode cX8_meanArrears 2 = .ok (.getfield 9, 3) := by decide +kernel
theorem dX8_meanArrears_5 : decode cX8_meanArrears 5 = .ok (.iconst 1, 1) := by decide +kernel
theorem dX8_meanArrears_6 : decode cX8_meanArrears 6 = .ok (.iaload, 1) := by decide +kernel
theorem dX8_meanArrears_7 : decode cX8_meanArrears 7 = .ok (.ifCond .ne 7, 3) := by decide +kernel
theorem dX8_meanArrears_10 : decode cX8_meanArrears 10 = .ok (.iconst 1, 1) := by decide +kernel
theorem dX8_meanArrears_11 : decode cX8_meanArrears 11 = .ok (.goto 4, 3) := by decide +kernel
theorem dX8_meanArrears_14 : decode cX8_meanArrears 14 = .ok (.iconst 0, 1) := by decide +kernel
theorem dX8_meanArrears_15 : decode cX8_meanArrears 15 = .ok (.putfield 38, 3) := by decide +kernel
theorem dX8_meanArrears_18 : decode cX8_meanArrears 18 = .ok (.aload_n 0, 1) := by decide +kernel
theorem dX8_meanArrears_19 : decode cX8_meanArrears 19 = .ok (.getfield 38, 3) := by decide +kernel
theorem dX8_meanArrears_22 : decode cX8_meanArrears 22 = .ok (.ifCond .ne 20, 3) := by decide +kernel
theorem dX8_meanArrears_25 : decode cX8_meanArrears 25 = .ok (.aload_n 0, 1) := by decide +kernel
theorem dX8_meanArrears_26 : decode cX8_meanArrears 26 = .ok (.iconst 4, 1) := by decide +kernel
theorem dX8_meanArrears_27 : decode cX8_meanArrears 27 = .ok (.invokevirtual 159, 3) := by decide +kernel
theorem dX8_meanArrears_30 : decode cX8_meanArrears 30 = .ok (.i2f, 1) := by decide +kernel
theorem dX8_meanArrears_31 : decode cX8_meanArrears 31 = .ok (.aload_n 0, 1) := by decide +kernel
theorem dX8_meanArrears_32 : decode cX8_meanArrears 32 = .ok (.getfield 9, 3) := by decide +kernel
theorem dX8_meanArrears_35 : decode cX8_meanArrears 35 = .ok (.iconst 1, 1) := by decide +kernel
theorem dX8_meanArrears_36 : decode cX8_meanArrears 36 = .ok (.iaload, 1) := by decide +kernel
theorem dX8_meanArrears_37 : decode cX8_meanArrears 37 = .ok (.i2f, 1) := by decide +kernel
theorem dX8_meanArrears_38 : decode cX8_meanArrears 38 = .ok (.fdiv, 1) := by decide +kernel
theorem dX8_meanArrears_39 : decode cX8_meanArrears 39 = .ok (.goto 4, 3) := by decide +kernel
theorem dX8_meanArrears_42 : decode cX8_meanArrears 42 = .ok (.fconst 0, 1) := by decide +kernel
theorem dX8_meanArrears_43 : decode cX8_meanArrears 43 = .ok (.freturn, 1) := by decide +kernel
theorem dX8_paidShare_0 : decode cX8_paidShare 0 = .ok (.aload_n 0, 1) := by decide +kernel
theorem dX8_paidShare_1 : decode cX8_paidShare 1 = .ok (.getfield 9, 3) := by decide +kernel
theorem dX8_paidShare_4 : decode cX8_paidShare 4 = .ok (.bipush 7, 2) := by decide +kernel
theorem dX8_paidShare_6 : decode cX8_paidShare 6 = .ok (.iaload, 1) := by decide +kernel
theorem dX8_paidShare_7 : decode cX8_paidShare 7 = .ok (.aload_n 0, 1) := by decide +kernel
theorem dX8_paidShare_8 : decode cX8_paidShare 8 = .ok (.iconst 4, 1) := by decide +kernel
theorem dX8_paidShare_9 : decode cX8_paidShare 9 = .ok (.invokevirtual 159, 3) := by decide +kernel
theorem dX8_paidShare_12 : decode cX8_paidShare 12 = .ok (.iadd, 1) := by decide +kernel
theorem dX8_paidShare_13 : decode cX8_paidShare 13 = .ok (.istore_n 1, 1) := by decide +kernel
theorem dX8_paidShare_14 : decode cX8_paidShare 14 = .ok (.aload_n 0, 1) := by decide +kernel
theorem dX8_paidShare_15 : decode cX8_paidShare 15 = .ok (.iload_n 1, 1) := by decide +kernel
theorem dX8_paidShare_16 : decode cX8_paidShare 16 = .ok (.ifCond .ne 7, 3) := by decide +kernel
theorem dX8_paidShare_19 : decode cX8_paidShare 19 = .ok (.iconst 1, 1) := by decide +kernel
theorem dX8_paidShare_20 : decode cX8_paidShare 20 = .ok (.goto 4, 3) := by decide +kernel
theorem dX8_paidShare_23 : decode cX8_paidShare 23 = .ok (.iconst 0, 1) := by decide +kernel
theorem dX8_paidShare_24 : decode cX8_paidShare 24 = .ok (.putfield 38, 3) := by decide +kernel
theorem dX8_paidShare_27 : decode cX8_paidShare 27 = .ok (.aload_n 0, 1) := by decide +kernel
theorem dX8_paidShare_28 : decode cX8_paidShare 28 = .ok (.getfield 38, 3) := by decide +kernel
theorem dX8_paidShare_31 : decode cX8_paidShare 31 = .ok (.ifCond .ne 17, 3) := by decide +kernel
theorem dX8_paidShare_34 : decode cX8_paidShare 34 = .ok (.aload_n 0, 1) := by decide +kernel
theorem dX8_paidShare_35 : decode cX8_paidShare 35 = .ok (.getfield 9, 3) := by decide +kernel
theorem dX8_paidShare_38 : decode cX8_paidShare 38 = .ok (.bipush 7, 2) := by decide +kernel
theorem dX8_paidShare_40 : decode cX8_paidShare 40 = .ok (.iaload, 1) := by decide +kernel
theorem dX8_paidShare_41 : decode cX8_paidShare 41 = .ok (.i2d, 1) := by decide +kernel
theorem dX8_paidShare_42 : decode cX8_paidShare 42 = .ok (.iload_n 1, 1) := by decide +kernel
theorem dX8_paidShare_43 : decode cX8_paidShare 43 = .ok (.i2d, 1) := by decide +kernel
theorem dX8_paidShare_44 : decode cX8_paidShare 44 = .ok (.ddiv, 1) := by decide +kernel
theorem dX8_paidShare_45 : decode cX8_paidShare 45 = .ok (.goto 4, 3) := by decide +kernel
theorem dX8_paidShare_48 : decode cX8_paidShare 48 = .ok (.dconst 0, 1) := by decide +kernel
theorem dX8_paidShare_49 : decode cX8_paidShare 49 = .ok (.dreturn, 1) := by decide +kernel
theorem dX8_account_0 : decode cX8_account 0 = .ok (.aload_n 0, 1) := by decide +kernel
theorem dX8_account_1 : decode cX8_account 1 = .ok (.iload_n 1, 1) := by decide +kernel
theorem dX8_account_2 : decode cX8_account 2 = .ok (.iconst 0, 1) := by decide +kernel
theorem dX8_account_3 : decode cX8_account 3 = .ok (.bipush 15, 2) := by decide +kernel
theorem dX8_account_5 : decode cX8_account 5 = .ok (.invokestatic 66, 3) := by decide +kernel
theorem dX8_account_8 : decode cX8_account 8 = .ok (.ifCond .eq 7, 3) := by decide +kernel
theorem dX8_account_11 : decode cX8_account 11 = .ok (.iconst 0, 1) := by decide +kernel
theorem dX8_account_12 : decode cX8_account 12 = .ok (.goto 4, 3) := by decide +kernel
theorem dX8_account_15 : decode cX8_account 15 = .ok (.iconst 1, 1) := by decide +kernel
theorem dX8_account_16 : decode cX8_account 16 = .ok (.putfield 38, 3) := by decide +kernel
theorem dX8_account_19 : decode cX8_account 19 = .ok (.iload_n 1, 1) := by decide +kernel
theorem dX8_account_20 : decode cX8_account 20 = .ok (.tableswitch 152 0 15 #[80, 80, 80, 80, 80, 80, 87, 93, 99, 105, 113, 121, 129, 134, 142, 147], 80) := by decide +kernel
theorem dX8_account_100 : decode cX8_account 100 = .ok (.aload_n 0, 1) := by decide +kernel
theorem dX8_account_101 : decode cX8_account 101 = .ok (.getfield 9, 3) := by decide +kernel
theorem dX8_account_104 : decode cX8_account 104 = .ok (.iload_n 1, 1) := by decide +kernel
theorem dX8_account_105 : decode cX8_account 105 = .ok (.iaload, 1) := by decide +kernel
theorem dX8_account_106 : decode cX8_account 106 = .ok (.ireturn, 1) := by decide +kernel
theorem dX8_account_107 : decode cX8_account 107 = .ok (.aload_n 0, 1) := by decide +kernel
theorem dX8_account_108 : decode cX8_account 108 = .ok (.iconst 3, 1) := by decide +kernel
theorem dX8_account_109 : decode cX8_account 109 = .ok (.invokevirtual 159, 3) := by decide +kernel
theorem dX8_account_112 : decode cX8_account 112 = .ok (.ireturn, 1) := by decide +kernel
theorem dX8_account_113 : decode cX8_account 113 = .ok (.aload_n 0, 1) := by decide +kernel
theorem dX8_account_114 : decode cX8_account 114 = .ok (.iconst 4, 1) := by decide +kernel
theorem dX8_account_115 : decode cX8_account 115 = .ok (.invokevirtual 159, 3) := by decide +kernel
theorem dX8_account_118 : decode cX8_account 118 = .ok (.ireturn, 1) := by decide +kernel
theorem dX8_account_119 : decode cX8_account 119 = .ok (.aload_n 0, 1) := by decide +kernel
theorem dX8_account_120 : decode cX8_account 120 = .ok (.iconst 5, 1) := by decide +kernel
theorem dX8_account_121 : decode cX8_account 121 = .ok (.invokevirtual 159, 3) := by decide +kernel
theorem dX8_account_124 : decode cX8_account 124 = .ok (.ireturn, 1) := by decide +kernel
theorem dX8_account_125 : decode cX8_account 125 = .ok (.aload_n 0, 1) := by decide +kernel
theorem dX8_account_126 : decode cX8_account 126 = .ok (.getfield 9, 3) := by decide +kernel
theorem dX8_account_129 : decode cX8_account 129 = .ok (.bipush 6, 2) := by decide +kernel
theorem dX8_account_131 : decode cX8_account 131 = .ok (.iaload, 1) := by decide +kernel
theorem dX8_account_132 : decode cX8_account 132 = .ok (.ireturn, 1) := by decide +kernel
theorem dX8_account_133 : decode cX8_account 133 = .ok (.aload_n 0, 1) := by decide +kernel
theorem dX8_account_134 : decode cX8_account 134 = .ok (.getfield 9, 3) := by decide +kernel
theorem dX8_account_137 : decode cX8_account 137 = .ok (.bipush 7, 2) := by decide +kernel
theorem dX8_account_139 : decode cX8_account 139 = .ok (.iaload, 1) := by decide +kernel
theorem dX8_account_140 : decode cX8_account 140 = .ok (.ireturn, 1) := by decide +kernel
theorem dX8_account_141 : decode cX8_account 141 = .ok (.aload_n 0, 1) := by decide +kernel
theorem dX8_account_142 : decode cX8_account 142 = .ok (.getfield 9, 3) := by decide +kernel
theorem dX8_account_145 : decode cX8_account 145 = .ok (.bipush 8, 2) := by decide +kernel
theorem dX8_account_147 : decode cX8_account 147 = .ok (.iaload, 1) := by decide +kernel
theorem dX8_account_148 : decode cX8_account 148 = .ok (.ireturn, 1) := by decide +kernel
theorem dX8_account_149 : decode cX8_account 149 = .ok (.aload_n 0, 1) := by decide +kernel
theorem dX8_account_150 : decode cX8_account 150 = .ok (.invokevirtual 121, 3) := by decide +kernel
theorem dX8_account_153 : decode cX8_account 153 = .ok (.ireturn, 1) := by decide +kernel
theorem dX8_account_154 : decode cX8_account 154 = .ok (.aload_n 0, 1) := by decide +kernel
theorem dX8_account_155 : decode cX8_account 155 = .ok (.getfield 9, 3) := by decide +kernel
theorem dX8_account_158 : decode cX8_account 158 = .ok (.bipush 9, 2) := by decide +kernel
theorem dX8_account_160 : decode cX8_account 160 = .ok (.iaload, 1) := by decide +kernel
theorem dX8_account_161 : decode cX8_account 161 = .ok (.ireturn, 1) := by decide +kernel
theorem dX8_account_162 : decode cX8_account 162 = .ok (.aload_n 0, 1) := by decide +kernel
theorem dX8_account_163 : decode cX8_account 163 = .ok (.getfield 51, 3) := by decide +kernel
theorem dX8_account_166 : decode cX8_account 166 = .ok (.ireturn, 1) := by decide +kernel
theorem dX8_account_167 : decode cX8_account 167 = .ok (.aload_n 0, 1) := by decide +kernel
theorem dX8_account_168 : decode cX8_account 168 = .ok (.getfield 181, 3) := by decide +kernel
theorem dX8_account_171 : decode cX8_account 171 = .ok (.ireturn, 1) := by decide +kernel
theorem dX8_account_172 : decode cX8_account 172 = .ok (.iconst 0, 1) := by decide +kernel
theorem dX8_account_173 : decode cX8_account 173 = .ok (.ireturn, 1) := by decide +kernel
theorem dX8_append_0 : decode cX8_append 0 = .ok (.aload_n 0, 1) := by decide +kernel
theorem dX8_append_1 : decode cX8_append 1 = .ok (.aload_n 0, 1) := by decide +kernel
theorem dX8_append_2 : decode cX8_append 2 = .ok (.getfield 181, 3) := by decide +kernel
theorem dX8_append_5 : decode cX8_append 5 = .ok (.bipush 60, 2) := by decide +kernel
theorem dX8_append_7 : decode cX8_append 7 = .ok (.if_icmp .ne 7, 3) := by decide +kernel
theorem dX8_append_10 : decode cX8_append 10 = .ok (.iconst 1, 1) := by decide +kernel
theorem dX8_append_11 : decode cX8_append 11 = .ok (.goto 4, 3) := by decide +kernel
theorem dX8_append_14 : decode cX8_append 14 = .ok (.iconst 0, 1) := by decide +kernel
theorem dX8_append_15 : decode cX8_append 15 = .ok (.putfield 38, 3) := by decide +kernel
theorem dX8_append_18 : decode cX8_append 18 = .ok (.aload_n 0, 1) := by decide +kernel
theorem dX8_append_19 : decode cX8_append 19 = .ok (.getfield 38, 3) := by decide +kernel
theorem dX8_append_22 : decode cX8_append 22 = .ok (.ifCond .eq 5, 3) := by decide +kernel
theorem dX8_append_25 : decode cX8_append 25 = .ok (.iconst 0, 1) := by decide +kernel
theorem dX8_append_26 : decode cX8_append 26 = .ok (.ireturn, 1) := by decide +kernel
theorem dX8_append_27 : decode cX8_append 27 = .ok (.aload_n 0, 1) := by decide +kernel
theorem dX8_append_28 : decode cX8_append 28 = .ok (.getfield 22, 3) := by decide +kernel
theorem dX8_append_31 : decode cX8_append 31 = .ok (.aload_n 0, 1) := by decide +kernel
theorem dX8_append_32 : decode cX8_append 32 = .ok (.getfield 181, 3) := by decide +kernel
theorem dX8_append_35 : decode cX8_append 35 = .ok (.iload_n 1, 1) := by decide +kernel
theorem dX8_append_36 : decode cX8_append 36 = .ok (.iastore, 1) := by decide +kernel
theorem dX8_append_37 : decode cX8_append 37 = .ok (.aload_n 0, 1) := by decide +kernel
theorem dX8_append_38 : decode cX8_append 38 = .ok (.dup, 1) := by decide +kernel
theorem dX8_append_39 : decode cX8_append 39 = .ok (.getfield 181, 3) := by decide +kernel
theorem dX8_append_42 : decode cX8_append 42 = .ok (.iconst 1, 1) := by decide +kernel
theorem dX8_append_43 : decode cX8_append 43 = .ok (.iadd, 1) := by decide +kernel
theorem dX8_append_44 : decode cX8_append 44 = .ok (.putfield 181, 3) := by decide +kernel
theorem dX8_append_47 : decode cX8_append 47 = .ok (.aload_n 0, 1) := by decide +kernel
theorem dX8_append_48 : decode cX8_append 48 = .ok (.getfield 181, 3) := by decide +kernel
theorem dX8_append_51 : decode cX8_append 51 = .ok (.ireturn, 1) := by decide +kernel
theorem dX8_sign_0 : decode cX8_sign 0 = .ok (.aload_n 0, 1) := by decide +kernel
theorem dX8_sign_1 : decode cX8_sign 1 = .ok (.getfield 184, 3) := by decide +kernel
theorem dX8_sign_4 : decode cX8_sign 4 = .ok (.aload_n 0, 1) := by decide +kernel
theorem dX8_sign_5 : decode cX8_sign 5 = .ok (.getfield 187, 3) := by decide +kernel
theorem dX8_sign_8 : decode cX8_sign 8 = .ok (.if_icmp .ge 15, 3) := by decide +kernel
theorem dX8_sign_11 : decode cX8_sign 11 = .ok (.aload_n 0, 1) := by decide +kernel
theorem dX8_sign_12 : decode cX8_sign 12 = .ok (.getfield 22, 3) := by decide +kernel
theorem dX8_sign_15 : decode cX8_sign 15 = .ok (.aload_n 0, 1) := by decide +kernel
theorem dX8_sign_16 : decode cX8_sign 16 = .ok (.getfield 184, 3) := by decide +kernel
theorem dX8_sign_19 : decode cX8_sign 19 = .ok (.iaload, 1) := by decide +kernel
theorem dX8_sign_20 : decode cX8_sign 20 = .ok (.goto 4, 3) := by decide +kernel
theorem dX8_sign_23 : decode cX8_sign 23 = .ok (.iconst (-1), 1) := by decide +kernel
theorem dX8_sign_24 : decode cX8_sign 24 = .ok (.ireturn, 1) := by decide +kernel
theorem dX8_reads_0 : decode cX8_reads 0 = .ok (.aload_n 0, 1) := by decide +kernel
theorem dX8_reads_1 : decode cX8_reads 1 = .ok (.getfield 190, 3) := by decide +kernel
theorem dX8_reads_4 : decode cX8_reads 4 = .ok (.iconst (-1), 1) := by decide +kernel
theorem dX8_reads_5 : decode cX8_reads 5 = .ok (.if_icmp .ne 40, 3) := by decide +kernel
theorem dX8_reads_8 : decode cX8_reads 8 = .ok (.aload_n 0, 1) := by decide +kernel
theorem dX8_reads_9 : decode cX8_reads 9 = .ok (.invokevirtual 193, 3) := by decide +kernel
theorem dX8_reads_12 : decode cX8_reads 12 = .ok (.iload_n 1, 1) := by decide +kernel
theorem dX8_reads_13 : decode cX8_reads 13 = .ok (.iload_n 2, 1) := by decide +kernel
theorem dX8_reads_14 : decode cX8_reads 14 = .ok (.invokestatic 66, 3) := by decide +kernel
theorem dX8_reads_17 : decode cX8_reads 17 = .ok (.ifCond .eq 28, 3) := by decide +kernel
theorem dX8_reads_20 : decode cX8_reads 20 = .ok (.aload_n 0, 1) := by decide +kernel
theorem dX8_reads_21 : decode cX8_reads 21 = .ok (.dup, 1) := by decide +kernel
theorem dX8_reads_22 : decode cX8_reads 22 = .ok (.getfield 184, 3) := by decide +kernel
theorem dX8_reads_25 : decode cX8_reads 25 = .ok (.iconst 1, 1) := by decide +kernel
theorem dX8_reads_26 : decode cX8_reads 26 = .ok (.iadd, 1) := by decide +kernel
theorem dX8_reads_27 : decode cX8_reads 27 = .ok (.putfield 184, 3) := by decide +kernel
theorem dX8_reads_30 : decode cX8_reads 30 = .ok (.aload_n 0, 1) := by decide +kernel
theorem dX8_reads_31 : decode cX8_reads 31 = .ok (.getfield 22, 3) := by decide +kernel
theorem dX8_reads_34 : decode cX8_reads 34 = .ok (.aload_n 0, 1) := by decide +kernel
theorem dX8_reads_35 : decode cX8_reads 35 = .ok (.getfield 184, 3) := by decide +kernel
theorem dX8_reads_38 : decode cX8_reads 38 = .ok (.iconst 1, 1) := by decide +kernel
theorem dX8_reads_39 : decode cX8_reads 39 = .ok (.isub, 1) := by decide +kernel
theorem dX8_reads_40 : decode cX8_reads 40 = .ok (.iaload, 1) := by decide +kernel
theorem dX8_reads_41 : decode cX8_reads 41 = .ok (.bipush 48, 2) := by decide +kernel
theorem dX8_reads_43 : decode cX8_reads 43 = .ok (.isub, 1) := by decide +kernel
theorem dX8_reads_44 : decode cX8_reads 44 = .ok (.ireturn, 1) := by decide +kernel
theorem dX8_reads_45 : decode cX8_reads 45 = .ok (.aload_n 0, 1) := by decide +kernel
theorem dX8_reads_46 : decode cX8_reads 46 = .ok (.aload_n 0, 1) := by decide +kernel
theorem dX8_reads_47 : decode cX8_reads 47 = .ok (.getfield 190, 3) := by decide +kernel
theorem dX8_reads_50 : decode cX8_reads 50 = .ok (.iconst (-1), 1) := by decide +kernel
theorem dX8_reads_51 : decode cX8_reads 51 = .ok (.if_icmp .ne 10, 3) := by decide +kernel
theorem dX8_reads_54 : decode cX8_reads 54 = .ok (.aload_n 0, 1) := by decide +kernel
theorem dX8_reads_55 : decode cX8_reads 55 = .ok (.getfield 184, 3) := by decide +kernel
theorem dX8_reads_58 : decode cX8_reads 58 = .ok (.goto 7, 3) := by decide +kernel
theorem dX8_reads_61 : decode cX8_reads 61 = .ok (.aload_n 0, 1) := by decide +kernel
theorem dX8_reads_62 : decode cX8_reads 62 = .ok (.getfield 190, 3) := by decide +kernel
theorem dX8_reads_65 : decode cX8_reads 65 = .ok (.putfield 190, 3) := by decide +kernel
theorem dX8_reads_68 : decode cX8_reads 68 = .ok (.iconst 0, 1) := by decide +kernel
theorem dX8_reads_69 : decode cX8_reads 69 = .ok (.ireturn, 1) := by decide +kernel
theorem dX8_digits_0 : decode cX8_digits 0 = .ok (.aload_n 0, 1) := by decide +kernel
theorem dX8_digits_1 : decode cX8_digits 1 = .ok (.bipush 48, 2) := by decide +kernel
theorem dX8_digits_3 : decode cX8_digits 3 = .ok (.bipush 57, 2) := by decide +kernel
theorem dX8_digits_5 : decode cX8_digits 5 = .ok (.invokevirtual 196, 3) := by decide +kernel
theorem dX8_digits_8 : decode cX8_digits 8 = .ok (.istore_n 2, 1) := by decide +kernel
theorem dX8_digits_9 : decode cX8_digits 9 = .ok (.iload_n 1, 1) := by decide +kernel
theorem dX8_digits_10 : decode cX8_digits 10 = .ok (.ifCond .eq 41, 3) := by decide +kernel
theorem dX8_digits_13 : decode cX8_digits 13 = .ok (.aload_n 0, 1) := by decide +kernel
theorem dX8_digits_14 : decode cX8_digits 14 = .ok (.getfield 190, 3) := by decide +kernel
theorem dX8_digits_17 : decode cX8_digits 17 = .ok (.iconst (-1), 1) := by decide +kernel
theorem dX8_digits_18 : decode cX8_digits 18 = .ok (.if_icmp .ne 33, 3) := by decide +kernel
theorem dX8_digits_21 : decode cX8_digits 21 = .ok (.aload_n 0, 1) := by decide +kernel
theorem dX8_digits_22 : decode cX8_digits 22 = .ok (.invokevirtual 193, 3) := by decide +kernel
theorem dX8_digits_25 : decode cX8_digits 25 = .ok (.bipush 48, 2) := by decide +kernel
theorem dX8_digits_27 : decode cX8_digits 27 = .ok (.bipush 57, 2) := by decide +kernel
theorem dX8_digits_29 : decode cX8_digits 29 = .ok (.invokestatic 66, 3) := by decide +kernel
theorem dX8_digits_32 : decode cX8_digits 32 = .ok (.ifCond .eq 19, 3) := by decide +kernel
theorem dX8_digits_35 : decode cX8_digits 35 = .ok (.bipush 10, 2) := by decide +kernel
theorem dX8_digits_37 : decode cX8_digits 37 = .ok (.iload_n 2, 1) := by decide +kernel
theorem dX8_digits_38 : decode cX8_digits 38 = .ok (.imul, 1) := by decide +kernel
theorem dX8_digits_39 : decode cX8_digits 39 = .ok (.aload_n 0, 1) := by decide +kernel
theorem dX8_digits_40 : decode cX8_digits 40 = .ok (.bipush 48, 2) := by decide +kernel
theorem dX8_digits_42 : decode cX8_digits 42 = .ok (.bipush 57, 2) := by decide +kernel
theorem dX8_digits_44 : decode cX8_digits 44 = .ok (.invokevirtual 196, 3) := by decide +kernel
theorem dX8_digits_47 : decode cX8_digits 47 = .ok (.iadd, 1) := by decide +kernel
theorem dX8_digits_48 : decode cX8_digits 48 = .ok (.goto 4, 3) := by decide +kernel
theorem dX8_digits_51 : decode cX8_digits 51 = .ok (.iload_n 2, 1) := by decide +kernel
theorem dX8_digits_52 : decode cX8_digits 52 = .ok (.ireturn, 1) := by decide +kernel
theorem dX8_kind_0 : decode cX8_kind 0 = .ok (.iconst 0, 1) := by decide +kernel
theorem dX8_kind_1 : decode cX8_kind 1 = .ok (.istore_n 1, 1) := by decide +kernel
theorem dX8_kind_2 : decode cX8_kind 2 = .ok (.iconst 0, 1) := by decide +kernel
theorem dX8_kind_3 : decode cX8_kind 3 = .ok (.istore_n 2, 1) := by decide +kernel
theorem dX8_kind_4 : decode cX8_kind 4 = .ok (.iconst 0, 1) := by decide +kernel
theorem dX8_kind_5 : decode cX8_kind 5 = .ok (.istore_n 3, 1) := by decide +kernel
theorem dX8_kind_6 : decode cX8_kind 6 = .ok (.iload_n 3, 1) := by decide +kernel
theorem dX8_kind_7 : decode cX8_kind 7 = .ok (.bipush 8, 2) := by decide +kernel
theorem dX8_kind_9 : decode cX8_kind 9 = .ok (.if_icmp .ge 55, 3) := by decide +kernel
theorem dX8_kind_12 : decode cX8_kind 12 = .ok (.aload_n 0, 1) := by decide +kernel
theorem dX8_kind_13 : decode cX8_kind 13 = .ok (.invokevirtual 193, 3) := by decide +kernel
theorem dX8_kind_16 : decode cX8_kind 16 = .ok (.ldc 199, 2) := by decide +kernel
theorem dX8_kind_18 : decode cX8_kind 18 = .ok (.iload_n 3, 1) := by decide +kernel
theorem dX8_kind_19 : decode cX8_kind 19 = .ok (.invokevirtual 201, 3) := by decide +kernel
theorem dX8_kind_22 : decode cX8_kind 22 = .ok (.if_icmp .ne 7, 3) := by decide +kernel
theorem dX8_kind_25 : decode cX8_kind 25 = .ok (.iconst 1, 1) := by decide +kernel
theorem dX8_kind_26 : decode cX8_kind 26 = .ok (.goto 4, 3) := by decide +kernel
theorem dX8_kind_29 : decode cX8_kind 29 = .ok (.iconst 0, 1) := by decide +kernel
theorem dX8_kind_30 : decode cX8_kind 30 = .ok (.istore 4, 2) := by decide +kernel
theorem dX8_kind_32 : decode cX8_kind 32 = .ok (.iload 4, 2) := by decide +kernel
theorem dX8_kind_34 : decode cX8_kind 34 = .ok (.ifCond .eq 7, 3) := by decide +kernel
theorem dX8_kind_37 : decode cX8_kind 37 = .ok (.iload_n 3, 1) := by decide +kernel
theorem dX8_kind_38 : decode cX8_kind 38 = .ok (.goto 4, 3) := by decide +kernel
theorem dX8_kind_41 : decode cX8_kind 41 = .ok (.iload_n 1, 1) := by decide +kernel
theorem dX8_kind_42 : decode cX8_kind 42 = .ok (.istore_n 1, 1) := by decide +kernel
theorem dX8_kind_43 : decode cX8_kind 43 = .ok (.iload_n 2, 1) := by decide +kernel
theorem dX8_kind_44 : decode cX8_kind 44 = .ok (.ifCond .ne 8, 3) := by decide +kernel
theorem dX8_kind_47 : decode cX8_kind 47 = .ok (.iload 4, 2) := by decide +kernel
theorem dX8_kind_49 : decode cX8_kind 49 = .ok (.ifCond .eq 7, 3) := by decide +kernel
theorem dX8_kind_52 : decode cX8_kind 52 = .ok (.iconst 1, 1) := by decide +kernel
theorem dX8_kind_53 : decode cX8_kind 53 = .ok (.goto 4, 3) := by decide +kernel
theorem dX8_kind_56 : decode cX8_kind 56 = .ok (.iconst 0, 1) := by decide +kernel
theorem dX8_kind_57 : decode cX8_kind 57 = .ok (.istore_n 2, 1) := by decide +kernel
theorem dX8_kind_58 : decode cX8_kind 58 = .ok (.iinc 3 1, 3) := by decide +kernel
theorem dX8_kind_61 : decode cX8_kind 61 = .ok (.goto (-55), 3) := by decide +kernel
theorem dX8_kind_64 : decode cX8_kind 64 = .ok (.aload_n 0, 1) := by decide +kernel
theorem dX8_kind_65 : decode cX8_kind 65 = .ok (.iload_n 2, 1) := by decide +kernel
theorem dX8_kind_66 : decode cX8_kind 66 = .ok (.ifCond .ne 11, 3) := by decide +kernel
theorem dX8_kind_69 : decode cX8_kind 69 = .ok (.aload_n 0, 1) := by decide +kernel
theorem dX8_kind_70 : decode cX8_kind 70 = .ok (.getfield 190, 3) := by decide +kernel
theorem dX8_kind_73 : decode cX8_kind 73 = .ok (.iconst (-1), 1) := by decide +kernel
theorem dX8_kind_74 : decode cX8_kind 74 = .ok (.if_icmp .eq 10, 3) := by decide +kernel
theorem dX8_kind_77 : decode cX8_kind 77 = .ok (.aload_n 0, 1) := by decide +kernel
theorem dX8_kind_78 : decode cX8_kind 78 = .ok (.getfield 190, 3) := by decide +kernel
theorem dX8_kind_81 : decode cX8_kind 81 = .ok (.goto 7, 3) := by decide +kernel
theorem dX8_kind_84 : decode cX8_kind 84 = .ok (.aload_n 0, 1) := by decide +kernel
theorem dX8_kind_85 : decode cX8_kind 85 = .ok (.getfield 184, 3) := by decide +kernel
theorem dX8_kind_88 : decode cX8_kind 88 = .ok (.putfield 190, 3) := by decide +kernel
theorem dX8_kind_91 : decode cX8_kind 91 = .ok (.aload_n 0, 1) := by decide +kernel
theorem dX8_kind_92 : decode cX8_kind 92 = .ok (.dup, 1) := by decide +kernel
theorem dX8_kind_93 : decode cX8_kind 93 = .ok (.getfield 184, 3) := by decide +kernel
theorem dX8_kind_96 : decode cX8_kind 96 = .ok (.iload_n 2, 1) := by decide +kernel
theorem dX8_kind_97 : decode cX8_kind 97 = .ok (.ifCond .eq 7, 3) := by decide +kernel
theorem dX8_kind_100 : decode cX8_kind 100 = .ok (.iconst 1, 1) := by decide +kernel
theorem dX8_kind_101 : decode cX8_kind 101 = .ok (.goto 4, 3) := by decide +kernel
theorem dX8_kind_104 : decode cX8_kind 104 = .ok (.iconst 0, 1) := by decide +kernel
theorem dX8_kind_105 : decode cX8_kind 105 = .ok (.iadd, 1) := by decide +kernel
theorem dX8_kind_106 : decode cX8_kind 106 = .ok (.putfield 184, 3) := by decide +kernel
theorem dX8_kind_109 : decode cX8_kind 109 = .ok (.iload_n 1, 1) := by decide +kernel
theorem dX8_kind_110 : decode cX8_kind 110 = .ok (.ireturn, 1) := by decide +kernel
theorem dX8_readsCommand_0 : decode cX8_readsCommand 0 = .ok (.aload_n 0, 1) := by decide +kernel
theorem dX8_readsCommand_1 : decode cX8_readsCommand 1 = .ok (.invokevirtual 207, 3) := by decide +kernel
theorem dX8_readsCommand_4 : decode cX8_readsCommand 4 = .ok (.istore_n 1, 1) := by decide +kernel
theorem dX8_readsCommand_5 : decode cX8_readsCommand 5 = .ok (.aload_n 0, 1) := by decide +kernel
theorem dX8_readsCommand_6 : decode cX8_readsCommand 6 = .ok (.getfield 32, 3) := by decide +kernel
theorem dX8_readsCommand_9 : decode cX8_readsCommand 9 = .ok (.aload_n 0, 1) := by decide +kernel
theorem dX8_readsCommand_10 : decode cX8_readsCommand 10 = .ok (.getfield 210, 3) := by decide +kernel
theorem dX8_readsCommand_13 : decode cX8_readsCommand 13 = .ok (.iload_n 1, 1) := by decide +kernel
theorem dX8_readsCommand_14 : decode cX8_readsCommand 14 = .ok (.iastore, 1) := by decide +kernel
theorem dX8_readsCommand_15 : decode cX8_readsCommand 15 = .ok (.aload_n 0, 1) := by decide +kernel
theorem dX8_readsCommand_16 : decode cX8_readsCommand 16 = .ok (.getfield 35, 3) := by decide +kernel
theorem dX8_readsCommand_19 : decode cX8_readsCommand 19 = .ok (.iconst 2, 1) := by decide +kernel
theorem dX8_readsCommand_20 : decode cX8_readsCommand 20 = .ok (.aload_n 0, 1) := by decide +kernel
theorem dX8_readsCommand_21 : decode cX8_readsCommand 21 = .ok (.getfield 210, 3) := by decide +kernel
theorem dX8_readsCommand_24 : decode cX8_readsCommand 24 = .ok (.imul, 1) := by decide +kernel
theorem dX8_readsCommand_25 : decode cX8_readsCommand 25 = .ok (.iload_n 1, 1) := by decide +kernel
theorem dX8_readsCommand_26 : decode cX8_readsCommand 26 = .ok (.iconst 3, 1) := by decide +kernel
theorem dX8_readsCommand_27 : decode cX8_readsCommand 27 = .ok (.if_icmp .ne 7, 3) := by decide +kernel
theorem dX8_readsCommand_30 : decode cX8_readsCommand 30 = .ok (.iconst 0, 1) := by decide +kernel
theorem dX8_readsCommand_31 : decode cX8_readsCommand 31 = .ok (.goto 23, 3) := by decide +kernel
theorem dX8_readsCommand_34 : decode cX8_readsCommand 34 = .ok (.aload_n 0, 1) := by decide +kernel
theorem dX8_readsCommand_35 : decode cX8_readsCommand 35 = .ok (.iload_n 1, 1) := by decide +kernel
theorem dX8_readsCommand_36 : decode cX8_readsCommand 36 = .ok (.iconst 1, 1) := by decide +kernel
theorem dX8_readsCommand_37 : decode cX8_readsCommand 37 = .ok (.if_icmp .eq 9, 3) := by decide +kernel
theorem dX8_readsCommand_40 : decode cX8_readsCommand 40 = .ok (.iload_n 1, 1) := by decide +kernel
theorem dX8_readsCommand_41 : decode cX8_readsCommand 41 = .ok (.bipush 7, 2) := by decide +kernel
theorem dX8_readsCommand_43 : decode cX8_readsCommand 43 = .ok (.if_icmp .ne 7, 3) := by decide +kernel
theorem dX8_readsCommand_46 : decode cX8_readsCommand 46 = .ok (.iconst 1, 1) := by decide +kernel
theorem dX8_readsCommand_47 : decode cX8_readsCommand 47 = .ok (.goto 4, 3) := by decide +kernel
theorem dX8_readsCommand_50 : decode cX8_readsCommand 50 = .ok (.iconst 0, 1) := by decide +kernel
theorem dX8_readsCommand_51 : decode cX8_readsCommand 51 = .ok (.invokevirtual 213, 3) := by decide +kernel
theorem dX8_readsCommand_54 : decode cX8_readsCommand 54 = .ok (.iastore, 1) := by decide +kernel
theorem dX8_readsCommand_55 : decode cX8_readsCommand 55 = .ok (.iload_n 1, 1) := by decide +kernel
theorem dX8_readsCommand_56 : decode cX8_readsCommand 56 = .ok (.iconst 2, 1) := by decide +kernel
theorem dX8_readsCommand_57 : decode cX8_readsCommand 57 = .ok (.if_icmp .eq 8, 3) := by decide +kernel
theorem dX8_readsCommand_60 : decode cX8_readsCommand 60 = .ok (.iload_n 1, 1) := by decide +kernel
theorem dX8_readsCommand_61 : decode cX8_readsCommand 61 = .ok (.iconst 5, 1) := by decide +kernel
theorem dX8_readsCommand_62 : decode cX8_readsCommand 62 = .ok (.if_icmp .ne 50, 3) := by decide +kernel
theorem dX8_readsCommand_65 : decode cX8_readsCommand 65 = .ok (.iload_n 1, 1) := by decide +kernel
theorem dX8_readsCommand_66 : decode cX8_readsCommand 66 = .ok (.iconst 2, 1) := by decide +kernel
theorem dX8_readsCommand_67 : decode cX8_readsCommand 67 = .ok (.if_icmp .ne 8, 3) := by decide +kernel
theorem dX8_readsCommand_70 : decode cX8_readsCommand 70 = .ok (.bipush 42, 2) := by decide +kernel
theorem dX8_readsCommand_72 : decode cX8_readsCommand 72 = .ok (.goto 5, 3) := by decide +kernel
theorem dX8_readsCommand_75 : decode cX8_readsCommand 75 = .ok (.bipush 61, 2) := by decide +kernel
theorem dX8_readsCommand_77 : decode cX8_readsCommand 77 = .ok (.istore_n 2, 1) := by decide +kernel
theorem dX8_readsCommand_78 : decode cX8_readsCommand 78 = .ok (.aload_n 0, 1) := by decide +kernel
theorem dX8_readsCommand_79 : decode cX8_readsCommand 79 = .ok (.iload_n 2, 1) := by decide +kernel
theorem dX8_readsCommand_80 : decode cX8_readsCommand 80 = .ok (.iload_n 2, 1) := by decide +kernel
theorem dX8_readsCommand_81 : decode cX8_readsCommand 81 = .ok (.invokevirtual 196, 3) := by decide +kernel
theorem dX8_readsCommand_84 : decode cX8_readsCommand 84 = .ok (.istore_n 3, 1) := by decide +kernel
theorem dX8_readsCommand_85 : decode cX8_readsCommand 85 = .ok (.aload_n 0, 1) := by decide +kernel
theorem dX8_readsCommand_86 : decode cX8_readsCommand 86 = .ok (.getfield 35, 3) := by decide +kernel
theorem dX8_readsCommand_89 : decode cX8_readsCommand 89 = .ok (.iconst 2, 1) := by decide +kernel
theorem dX8_readsCommand_90 : decode cX8_readsCommand 90 = .ok (.aload_n 0, 1) := by decide +kernel
theorem dX8_readsCommand_91 : decode cX8_readsCommand 91 = .ok (.getfield 210, 3) := by decide +kernel
theorem dX8_readsCommand_94 : decode cX8_readsCommand 94 = .ok (.imul, 1) := by decide +kernel
theorem dX8_readsCommand_95 : decode cX8_readsCommand 95 = .ok (.iconst 1, 1) := by decide +kernel
theorem dX8_readsCommand_96 : decode cX8_readsCommand 96 = .ok (.iadd, 1) := by decide +kernel
theorem dX8_readsCommand_97 : decode cX8_readsCommand 97 = .ok (.aload_n 0, 1) := by decide +kernel
theorem dX8_readsCommand_98 : decode cX8_readsCommand 98 = .ok (.iload_n 1, 1) := by decide +kernel
theorem dX8_readsCommand_99 : decode cX8_readsCommand 99 = .ok (.iconst 5, 1) := by decide +kernel
theorem dX8_readsCommand_100 : decode cX8_readsCommand 100 = .ok (.if_icmp .ne 7, 3) := by decide +kernel
theorem dX8_readsCommand_103 : decode cX8_readsCommand 103 = .ok (.iconst 1, 1) := by decide +kernel
theorem dX8_readsCommand_104 : decode cX8_readsCommand 104 = .ok (.goto 4, 3) := by decide +kernel
theorem dX8_readsCommand_107 : decode cX8_readsCommand 107 = .ok (.iconst 0, 1) := by decide +kernel
theorem dX8_readsCommand_108 : decode cX8_readsCommand 108 = .ok (.invokevirtual 213, 3) := by decide +kernel
theorem dX8_readsCommand_111 : decode cX8_readsCommand 111 = .ok (.iastore, 1) := by decide +kernel
theorem dX8_readsCommand_112 : decode cX8_readsCommand 112 = .ok (.aload_n 0, 1) := by decide +kernel
theorem dX8_readsCommand_113 : decode cX8_readsCommand 113 = .ok (.dup, 1) := by decide +kernel
theorem dX8_readsCommand_114 : decode cX8_readsCommand 114 = .ok (.getfield 210, 3) := by decide +kernel
theorem dX8_readsCommand_117 : decode cX8_readsCommand 117 = .ok (.iconst 1, 1) := by decide +kernel
theorem dX8_readsCommand_118 : decode cX8_readsCommand 118 = .ok (.iadd, 1) := by decide +kernel
theorem dX8_readsCommand_119 : decode cX8_readsCommand 119 = .ok (.putfield 210, 3) := by decide +kernel
theorem dX8_readsCommand_122 : decode cX8_readsCommand 122 = .ok (.return_, 1) := by decide +kernel
theorem dX8_readsAll_0 : decode cX8_readsAll 0 = .ok (.aload_n 0, 1) := by decide +kernel
theorem dX8_readsAll_1 : decode cX8_readsAll 1 = .ok (.iconst 0, 1) := by decide +kernel
theorem dX8_readsAll_2 : decode cX8_readsAll 2 = .ok (.putfield 184, 3) := by decide +kernel
theorem dX8_readsAll_5 : decode cX8_readsAll 5 = .ok (.aload_n 0, 1) := by decide +kernel
theorem dX8_readsAll_6 : decode cX8_readsAll 6 = .ok (.iconst (-1), 1) := by decide +kernel
theorem dX8_readsAll_7 : decode cX8_readsAll 7 = .ok (.putfield 190, 3) := by decide +kernel
theorem dX8_readsAll_10 : decode cX8_readsAll 10 = .ok (.aload_n 0, 1) := by decide +kernel
theorem dX8_readsAll_11 : decode cX8_readsAll 11 = .ok (.iconst 0, 1) := by decide +kernel
theorem dX8_readsAll_12 : decode cX8_readsAll 12 = .ok (.putfield 210, 3) := by decide +kernel
theorem dX8_readsAll_15 : decode cX8_readsAll 15 = .ok (.aload_n 0, 1) := by decide +kernel
theorem dX8_readsAll_16 : decode cX8_readsAll 16 = .ok (.invokevirtual 217, 3) := by decide +kernel
theorem dX8_readsAll_19 : decode cX8_readsAll 19 = .ok (.aload_n 0, 1) := by decide +kernel
theorem dX8_readsAll_20 : decode cX8_readsAll 20 = .ok (.getfield 190, 3) := by decide +kernel
theorem dX8_readsAll_23 : decode cX8_readsAll 23 = .ok (.iconst (-1), 1) := by decide +kernel
theorem dX8_readsAll_24 : decode cX8_readsAll 24 = .ok (.if_icmp .ne 38, 3) := by decide +kernel
theorem dX8_readsAll_27 : decode cX8_readsAll 27 = .ok (.aload_n 0, 1) := by decide +kernel
theorem dX8_readsAll_28 : decode cX8_readsAll 28 = .ok (.getfield 184, 3) := by decide +kernel
theorem dX8_readsAll_31 : decode cX8_readsAll 31 = .ok (.aload_n 0, 1) := by decide +kernel
theorem dX8_readsAll_32 : decode cX8_readsAll 32 = .ok (.getfield 187, 3) := by decide +kernel
theorem dX8_readsAll_35 : decode cX8_readsAll 35 = .ok (.if_icmp .ge 27, 3) := by decide +kernel
theorem dX8_readsAll_38 : decode cX8_readsAll 38 = .ok (.aload_n 0, 1) := by decide +kernel
theorem dX8_readsAll_39 : decode cX8_readsAll 39 = .ok (.bipush 59, 2) := by decide +kernel
theorem dX8_readsAll_41 : decode cX8_readsAll 41 = .ok (.bipush 59, 2) := by decide +kernel
theorem dX8_readsAll_43 : decode cX8_readsAll 43 = .ok (.invokevirtual 196, 3) := by decide +kernel
theorem dX8_readsAll_46 : decode cX8_readsAll 46 = .ok (.istore_n 1, 1) := by decide +kernel
theorem dX8_readsAll_47 : decode cX8_readsAll 47 = .ok (.aload_n 0, 1) := by decide +kernel
theorem dX8_readsAll_48 : decode cX8_readsAll 48 = .ok (.getfield 190, 3) := by decide +kernel
theorem dX8_readsAll_51 : decode cX8_readsAll 51 = .ok (.iconst (-1), 1) := by decide +kernel
theorem dX8_readsAll_52 : decode cX8_readsAll 52 = .ok (.if_icmp .ne 7, 3) := by decide +kernel
theorem dX8_readsAll_55 : decode cX8_readsAll 55 = .ok (.aload_n 0, 1) := by decide +kernel
theorem dX8_readsAll_56 : decode cX8_readsAll 56 = .ok (.invokevirtual 217, 3) := by decide +kernel
theorem dX8_readsAll_59 : decode cX8_readsAll 59 = .ok (.goto (-40), 3) := by decide +kernel
theorem dX8_readsAll_62 : decode cX8_readsAll 62 = .ok (.return_, 1) := by decide +kernel
theorem dX8_does_0 : decode cX8_does 0 = .ok (.iload_n 1, 1) := by decide +kernel
theorem dX8_does_1 : decode cX8_does 1 = .ok (.tableswitch 86 0 6 #[43, 49, 55, 62, 67, 73, 80], 43) := by decide +kernel
theorem dX8_does_44 : decode cX8_does 44 = .ok (.aload_n 0, 1) := by decide +kernel
theorem dX8_does_45 : decode cX8_does 45 = .ok (.iload_n 2, 1) := by decide +kernel
theorem dX8_does_46 : decode cX8_does 46 = .ok (.invokevirtual 128, 3) := by decide +kernel
theorem dX8_does_49 : decode cX8_does 49 = .ok (.ireturn, 1) := by decide +kernel
theorem dX8_does_50 : decode cX8_does 50 = .ok (.aload_n 0, 1) := by decide +kernel
theorem dX8_does_51 : decode cX8_does 51 = .ok (.iload_n 2, 1) := by decide +kernel
theorem dX8_does_52 : decode cX8_does 52 = .ok (.invokevirtual 118, 3) := by decide +kernel
theorem dX8_does_55 : decode cX8_does 55 = .ok (.ireturn, 1) := by decide +kernel
theorem dX8_does_56 : decode cX8_does 56 = .ok (.aload_n 0, 1) := by decide +kernel
theorem dX8_does_57 : decode cX8_does 57 = .ok (.iload_n 2, 1) := by decide +kernel
theorem dX8_does_58 : decode cX8_does 58 = .ok (.iload_n 3, 1) := by decide +kernel
theorem dX8_does_59 : decode cX8_does 59 = .ok (.invokevirtual 144, 3) := by decide +kernel
theorem dX8_does_62 : decode cX8_does 62 = .ok (.ireturn, 1) := by decide +kernel
theorem dX8_does_63 : decode cX8_does 63 = .ok (.aload_n 0, 1) := by decide +kernel
theorem dX8_does_64 : decode cX8_does 64 = .ok (.invokevirtual 147, 3) := by decide +kernel
theorem dX8_does_67 : decode cX8_does 67 = .ok (.ireturn, 1) := by decide +kernel
theorem dX8_does_68 : decode cX8_does 68 = .ok (.aload_n 0, 1) := by decide +kernel
theorem dX8_does_69 : decode cX8_does 69 = .ok (.iload_n 2, 1) := by decide +kernel
theorem dX8_does_70 : decode cX8_does 70 = .ok (.invokevirtual 150, 3) := by decide +kernel
theorem dX8_does_73 : decode cX8_does 73 = .ok (.ireturn, 1) := by decide +kernel
theorem dX8_does_74 : decode cX8_does 74 = .ok (.aload_n 0, 1) := by decide +kernel
theorem dX8_does_75 : decode cX8_does 75 = .ok (.iload_n 2, 1) := by decide +kernel
theorem dX8_does_76 : decode cX8_does 76 = .ok (.iload_n 3, 1) := by decide +kernel
theorem dX8_does_77 : decode cX8_does 77 = .ok (.invokevirtual 153, 3) := by decide +kernel
theorem dX8_does_80 : decode cX8_does 80 = .ok (.ireturn, 1) := by decide +kernel
theorem dX8_does_81 : decode cX8_does 81 = .ok (.aload_n 0, 1) := by decide +kernel
theorem dX8_does_82 : decode cX8_does 82 = .ok (.iload_n 2, 1) := by decide +kernel
theorem dX8_does_83 : decode cX8_does 83 = .ok (.invokevirtual 134, 3) := by decide +kernel
theorem dX8_does_86 : decode cX8_does 86 = .ok (.ireturn, 1) := by decide +kernel
theorem dX8_does_87 : decode cX8_does 87 = .ok (.aload_n 0, 1) := by decide +kernel
theorem dX8_does_88 : decode cX8_does 88 = .ok (.iload_n 2, 1) := by decide +kernel
theorem dX8_does_89 : decode cX8_does 89 = .ok (.invokevirtual 162, 3) := by decide +kernel
theorem dX8_does_92 : decode cX8_does 92 = .ok (.ireturn, 1) := by decide +kernel
theorem dX8_commands_0 : decode cX8_commands 0 = .ok (.aload_n 0, 1) := by decide +kernel
theorem dX8_commands_1 : decode cX8_commands 1 = .ok (.aload_n 0, 1) := by decide +kernel
theorem dX8_commands_2 : decode cX8_commands 2 = .ok (.getfield 181, 3) := by decide +kernel
theorem dX8_commands_5 : decode cX8_commands 5 = .ok (.putfield 187, 3) := by decide +kernel
theorem dX8_commands_8 : decode cX8_commands 8 = .ok (.aload_n 0, 1) := by decide +kernel
theorem dX8_commands_9 : decode cX8_commands 9 = .ok (.iconst 0, 1) := by decide +kernel
theorem dX8_commands_10 : decode cX8_commands 10 = .ok (.putfield 181, 3) := by decide +kernel
theorem dX8_commands_13 : decode cX8_commands 13 = .ok (.aload_n 0, 1) := by decide +kernel
theorem dX8_commands_14 : decode cX8_commands 14 = .ok (.invokevirtual 220, 3) := by decide +kernel
theorem dX8_commands_17 : decode cX8_commands 17 = .ok (.aload_n 0, 1) := by decide +kernel
theorem dX8_commands_18 : decode cX8_commands 18 = .ok (.aload_n 0, 1) := by decide +kernel
theorem dX8_commands_19 : decode cX8_commands 19 = .ok (.getfield 190, 3) := by decide +kernel
theorem dX8_commands_22 : decode cX8_commands 22 = .ok (.putfield 25, 3) := by decide +kernel
theorem dX8_commands_25 : decode cX8_commands 25 = .ok (.aload_n 0, 1) := by decide +kernel
theorem dX8_commands_26 : decode cX8_commands 26 = .ok (.aload_n 0, 1) := by decide +kernel
theorem dX8_commands_27 : decode cX8_commands 27 = .ok (.getfield 190, 3) := by decide +kernel
theorem dX8_commands_30 : decode cX8_commands 30 = .ok (.iconst (-1), 1) := by decide +kernel
theorem dX8_commands_31 : decode cX8_commands 31 = .ok (.if_icmp .eq 7, 3) := by decide +kernel
theorem dX8_commands_34 : decode cX8_commands 34 = .ok (.iconst 1, 1) := by decide +kernel
theorem dX8_commands_35 : decode cX8_commands 35 = .ok (.goto 4, 3) := by decide +kernel
theorem dX8_commands_38 : decode cX8_commands 38 = .ok (.iconst 0, 1) := by decide +kernel
theorem dX8_commands_39 : decode cX8_commands 39 = .ok (.putfield 38, 3) := by decide +kernel
theorem dX8_commands_42 : decode cX8_commands 42 = .ok (.aload_n 0, 1) := by decide +kernel
theorem dX8_commands_43 : decode cX8_commands 43 = .ok (.getfield 38, 3) := by decide +kernel
theorem dX8_commands_46 : decode cX8_commands 46 = .ok (.ifCond .eq 5, 3) := by decide +kernel
theorem dX8_commands_49 : decode cX8_commands 49 = .ok (.iconst 0, 1) := by decide +kernel
theorem dX8_commands_50 : decode cX8_commands 50 = .ok (.ireturn, 1) := by decide +kernel
theorem dX8_commands_51 : decode cX8_commands 51 = .ok (.aload_n 0, 1) := by decide +kernel
theorem dX8_commands_52 : decode cX8_commands 52 = .ok (.invokevirtual 89, 3) := by decide +kernel
theorem dX8_commands_55 : decode cX8_commands 55 = .ok (.iconst 0, 1) := by decide +kernel
theorem dX8_commands_56 : decode cX8_commands 56 = .ok (.istore_n 1, 1) := by decide +kernel
theorem dX8_commands_57 : decode cX8_commands 57 = .ok (.iconst 0, 1) := by decide +kernel
theorem dX8_commands_58 : decode cX8_commands 58 = .ok (.istore_n 2, 1) := by decide +kernel
theorem dX8_commands_59 : decode cX8_commands 59 = .ok (.iload_n 2, 1) := by decide +kernel
theorem dX8_commands_60 : decode cX8_commands 60 = .ok (.aload_n 0, 1) := by decide +kernel
theorem dX8_commands_61 : decode cX8_commands 61 = .ok (.getfield 210, 3) := by decide +kernel
theorem dX8_commands_64 : decode cX8_commands 64 = .ok (.if_icmp .ge 47, 3) := by decide +kernel
theorem dX8_commands_67 : decode cX8_commands 67 = .ok (.aload_n 0, 1) := by decide +kernel
theorem dX8_commands_68 : decode cX8_commands 68 = .ok (.getfield 41, 3) := by decide +kernel
theorem dX8_commands_71 : decode cX8_commands 71 = .ok (.ifCond .ne 40, 3) := by decide +kernel
theorem dX8_commands_74 : decode cX8_commands 74 = .ok (.iload_n 2, 1) := by decide +kernel
theorem dX8_commands_75 : decode cX8_commands 75 = .ok (.istore_n 1, 1) := by decide +kernel
theorem dX8_commands_76 : decode cX8_commands 76 = .ok (.aload_n 0, 1) := by decide +kernel
theorem dX8_commands_77 : decode cX8_commands 77 = .ok (.aload_n 0, 1) := by decide +kernel
theorem dX8_commands_78 : decode cX8_commands 78 = .ok (.getfield 32, 3) := by decide +kernel
theorem dX8_commands_81 : decode cX8_commands 81 = .ok (.iload_n 2, 1) := by decide +kernel
theorem dX8_commands_82 : decode cX8_commands 82 = .ok (.iaload, 1) := by decide +kernel
theorem dX8_commands_83 : decode cX8_commands 83 = .ok (.aload_n 0, 1) := by decide +kernel
theorem dX8_commands_84 : decode cX8_commands 84 = .ok (.getfield 35, 3) := by decide +kernel
theorem dX8_commands_87 : decode cX8_commands 87 = .ok (.iconst 2, 1) := by decide +kernel
theorem dX8_commands_88 : decode cX8_commands 88 = .ok (.iload_n 2, 1) := by decide +kernel
theorem dX8_commands_89 : decode cX8_commands 89 = .ok (.imul, 1) := by decide +kernel
theorem dX8_commands_90 : decode cX8_commands 90 = .ok (.iaload, 1) := by decide +kernel
theorem dX8_commands_91 : decode cX8_commands 91 = .ok (.aload_n 0, 1) := by decide +kernel
theorem dX8_commands_92 : decode cX8_commands 92 = .ok (.getfield 35, 3) := by decide +kernel
theorem dX8_commands_95 : decode cX8_commands 95 = .ok (.iconst 2, 1) := by decide +kernel
theorem dX8_commands_96 : decode cX8_commands 96 = .ok (.iload_n 2, 1) := by decide +kernel
theorem dX8_commands_97 : decode cX8_commands 97 = .ok (.imul, 1) := by decide +kernel
theorem dX8_commands_98 : decode cX8_commands 98 = .ok (.iconst 1, 1) := by decide +kernel
theorem dX8_commands_99 : decode cX8_commands 99 = .ok (.iadd, 1) := by decide +kernel
theorem dX8_commands_100 : decode cX8_commands 100 = .ok (.iaload, 1) := by decide +kernel
theorem dX8_commands_101 : decode cX8_commands 101 = .ok (.invokevirtual 223, 3) := by decide +kernel
theorem dX8_commands_104 : decode cX8_commands 104 = .ok (.istore_n 3, 1) := by decide +kernel
theorem dX8_commands_105 : decode cX8_commands 105 = .ok (.iinc 2 1, 3) := by decide +kernel
theorem dX8_commands_108 : decode cX8_commands 108 = .ok (.goto (-49), 3) := by decide +kernel
theorem dX8_commands_111 : decode cX8_commands 111 = .ok (.aload_n 0, 1) := by decide +kernel
theorem dX8_commands_112 : decode cX8_commands 112 = .ok (.aload_n 0, 1) := by decide +kernel
theorem dX8_commands_113 : decode cX8_commands 113 = .ok (.getfield 210, 3) := by decide +kernel
theorem dX8_commands_116 : decode cX8_commands 116 = .ok (.iload_n 1, 1) := by decide +kernel
theorem dX8_commands_117 : decode cX8_commands 117 = .ok (.iconst 2, 1) := by decide +kernel
theorem dX8_commands_118 : decode cX8_commands 118 = .ok (.invokevirtual 100, 3) := by decide +kernel
theorem dX8_commands_121 : decode cX8_commands 121 = .ok (.ireturn, 1) := by decide +kernel
theorem dX8_faultPosition_0 : decode cX8_faultPosition 0 = .ok (.aload_n 0, 1) := by decide +kernel
theorem dX8_faultPosition_1 : decode cX8_faultPosition 1 = .ok (.iconst 0, 1) := by decide +kernel
theorem dX8_faultPosition_2 : decode cX8_faultPosition 2 = .ok (.putfield 38, 3) := by decide +kernel
theorem dX8_faultPosition_5 : decode cX8_faultPosition 5 = .ok (.aload_n 0, 1) := by decide +kernel
theorem dX8_faultPosition_6 : decode cX8_faultPosition 6 = .ok (.getfield 25, 3) := by decide +kernel
theorem dX8_faultPosition_9 : decode cX8_faultPosition 9 = .ok (.ireturn, 1) := by decide +kernel
end
section
/-! the frame: a heap seen as a function on addresses; contracts and rows over it -/
def WT : List Cond := lw_tbl.filter goodWord
theorem wt_mem {w : Cond} (i : Nat) (h : lw_tbl[i]? = some w) (g : goodWord w = true) : w ∈ WT := List.mem_filter.mpr ⟨List.mem_of_getElem? h, g⟩
theorem wt_good {w : Cond} (h : w ∈ WT) : w ∈ WT ∧ ((w.onTables && w.keeps) = true ∨ ∃ ty, w = .arrayClass ty) := ⟨h, good_of_word (List.mem_filter.mp h).2⟩
theorem wt_in {c : Cond} (h : c ∈ WT) : GoodIn WT (c :: WT) := fun w hw => (List.mem_cons.mp hw).elim (fun e => by rw [e]; exact wt_good h) wt_good
theorem wt_V {own C : String} {i : Nat} {y : MethodName} {c : Cond} (h1 : Cond.methodLink own i y ∈ WT) (h2 : Cond.instanceMethod y ∈ WT) (h3 : Cond.selects C y y ∈ WT) (h4 : Cond.initialized C ∈ WT) (h5 : c ∈ WT) : GoodIn WT (wsV own i C y (c :: WT)) := by
  intro w hw
  unfold wsV at hw
  rcases List.mem_append.mp hw with h | h
  · simp only [List.mem_cons, List.not_mem_nil, or_false] at h
    rcases h with rfl | rfl | rfl | rfl
    · exact wt_good h1
    · exact wt_good h2
    · exact wt_good h3
    · exact wt_good h4
  · exact wt_in h5 w h
theorem wt_S {own : String} {i : Nat} {y : MethodName} {c : Cond} (h1 : Cond.methodLink own i y ∈ WT) (h2 : Cond.static y ∈ WT) (h4 : Cond.initialized own ∈ WT) (h5 : c ∈ WT) : GoodIn WT (wsS own i y (c :: WT)) := by
  intro w hw
  unfold wsS at hw
  rcases List.mem_append.mp hw with h | h
  · simp only [List.mem_cons, List.not_mem_nil, or_false] at h
    rcases h with rfl | rfl | rfl
    · exact wt_good h1
    · exact wt_good h2
    · exact wt_good h4
  · exact wt_in h5 w h
abbrev cls9 : List vw_C := [(RX0, TX0, 4), (RX1, TX1, 8), (RX2, TX2, 3), (RX3, TX3, 9), (RX4, TX4, 3), (RX5, TX5, 13), (RX6, TX6, 2), (RX7, TX7, 9), (RX8, TX8, 23), (RJ4, TJ4, 4)]
/-- a cell: an object (its class's place in cls9, its fields) or an array (type, length, contents) -/
abbrev EC : Type := (Nat × List Value) ⊕ (FieldType × Nat × (Nat → Value))
abbrev GH : Type := Nat → Option EC
def ev_at (D : va_G) (U : State) (a : Nat) (c : EC) (H : Heap) : Prop := match c with
  | .inl o => ∃ r : vw_C, cls9[o.1]? = some r ∧ t_OB a (D.1 o.1) r.2.2 (D.2 o.1) H (vp_V o.2)
  | .inr x => ∃ cA : ClassId, H[a]? = some (arrV cA x.2.1 x.2.2) ∧ ArrOfT U cA x.1 ∧ va_RA U cA x.1
theorem ev_at.moved {D : va_G} {u U : State} {a : Nat} {c : EC} {H : Heap} (hvm : u.vm.Alike U.vm) (h : ev_at D u a c H) : ev_at D U a c H := by
  cases c with
  | inl o => exact h
  | inr x =>
    obtain ⟨cA, h1, h2, h3⟩ := h
    exact ⟨cA, h1, arrOfT_moved hvm h2, h3.moved hvm⟩
theorem ev_at.kept {D : va_G} {U : State} {a : Nat} {c : EC} {H H1 : Heap} (h : ev_at D U a c H) (hq : H1[a]? = H[a]?) : ev_at D U a c H1 := by
  cases c with
  | inl o =>
    obtain ⟨r, h1, h2⟩ := h
    exact ⟨r, h1, h2.kept hq⟩
  | inr x =>
    obtain ⟨cA, h1, h2, h3⟩ := h
    exact ⟨cA, by rw [hq]; exact h1, h2, h3⟩
theorem ev_at.lt {D : va_G} {U : State} {a : Nat} {c : EC} {H : Heap} (h : ev_at D U a c H) : a < H.size := by
  cases c with
  | inl o =>
    obtain ⟨r, h1, cell, h2, -⟩ := h
    exact (Array.getElem?_eq_some_iff.mp h2).1
  | inr x =>
    obtain ⟨cA, h1, -⟩ := h
    exact (Array.getElem?_eq_some_iff.mp h1).1
def Emb (D : va_G) (B : Nat) (U : State) (G : GH) (H : Heap) : Prop := ∀ (a : Nat) (c : EC), G a = some c → B ≤ a ∧ ev_at D U a c H
theorem Emb.moved {D : va_G} {B : Nat} {u U : State} {G : GH} {H : Heap} (hvm : u.vm.Alike U.vm) (h : Emb D B u G H) : Emb D B U G H := fun a c ha => ⟨(h a c ha).1, (h a c ha).2.moved hvm⟩
def gset (G : GH) (a : Nat) (c : EC) : GH := fun j => if j = a then some c else G j
theorem Emb.set {D : va_G} {B : Nat} {U : State} {G : GH} {H H1 : Heap} {a : Nat} {c : EC} (h : Emb D B U G H) (hB : B ≤ a) (hc : ev_at D U a c H1) (oq : ∀ q : Nat, q ≠ a → H1[q]? = H[q]?) : Emb D B U (gset G a c) H1 := by
  intro q e hq
  unfold gset at hq
  by_cases hqa : q = a
  · subst hqa
    rw [if_pos rfl] at hq
    cases hq
    exact ⟨hB, hc⟩
  · rw [if_neg hqa] at hq
    exact ⟨(h q e hq).1, (h q e hq).2.kept (oq q hqa)⟩
theorem Emb.new {D : va_G} {B : Nat} {U : State} {G : GH} {H H1 : Heap} {c : EC} (h : Emb D B U G H) (hB : B ≤ H.size) (hc : ev_at D U H.size c H1) (oq : ∀ q : Nat, q < H.size → H1[q]? = H[q]?) : Emb D B U (gset G H.size c) H1 := by
  intro q e hq
  unfold gset at hq
  by_cases hqa : q = H.size
  · subst hqa
    rw [if_pos rfl] at hq
    cases hq
    exact ⟨hB, hc⟩
  · rw [if_neg hqa] at hq
    exact ⟨(h q e hq).1, (h q e hq).2.kept (oq q (h q e hq).2.lt)⟩
theorem Emb.fresh {D : va_G} {B : Nat} {U : State} {G : GH} {H : Heap} (h : Emb D B U G H) : G H.size = none := by
  cases hg : G H.size with
  | none => rfl
  | some c => exact absurd (h _ c hg).2.lt (Nat.lt_irrefl _)
def Fr (s0 U : State) (H : Heap) : Prop := s0.WarmedH U.vm ∧ s0.heap.size ≤ H.size ∧ ∀ q : Nat, q < s0.heap.size → H[q]? = s0.heap[q]?
def rmd (d mc ms : Nat) : Room := { frames := 16 * (d + 1), cells := mc, slots := ms, locals := 400 * (d + 1) }
abbrev bA (s0 : State) : Nat → Prop := fun q => s0.heap.size ≤ q
def QcV (D : va_G) (s0 : State) (Post : Option Value → GH → Prop) : Array Value → State → Outcome → State → Prop := fun _ st o t => ∃ (rv : Option Value) (G' : GH), o = .returned rv ∧ Post rv G' ∧ Emb D s0.heap.size t G' t.heap ∧ va_F (bA s0) st t
def XcV (D : va_G) (s0 : State) (PX : String → GH → Prop) : String → State → State → Prop := fun E st t => ∃ G' : GH, PX E G' ∧ Emb D s0.heap.size t G' t.heap ∧ va_F (bA s0) st t
def PcV (D : va_G) (s0 : State) (as : List Value) (G : GH) : Array Value → State → Prop := fun v U => v = as.toArray ∧ Fr s0 U U.heap ∧ va_K D cls9 [] U ∧ Emb D s0.heap.size U G U.heap
def Cx (D : va_G) (s0 : State) (own mn : String) (cc : ByteArray) (nL : Nat) (ret : Option FieldType) (hh : List (Nat × Nat × Nat × Nat)) (p : Program) (s : State) (m : MethodId) (args : Array Value) (meth : Method) (c : Code) : Prop :=
  p.tables.exec = Jvm.exec ∧ c.code = cc ∧ c.maxLocals = nL ∧ meth.sig.returnType = ret ∧ s.vm.findClass own = some m.cls ∧ (∀ w ∈ WT, w.before args s = true) ∧ meth.locks = false ∧ meth.name = mn ∧ c.exceptionTable.toList = tableOf hh ∧ Fr s0 s s.heap ∧ va_K D cls9 [] s
abbrev ZT : Type := List Frame → Array Value → State → State → Prop
/-- the machine at pc, with the locals lo, the stack st, the heap G: it comes to Z -/
def V (D : va_G) (s0 : State) (own mn : String) (cc : ByteArray) (nL : Nat) (ret : Option FieldType) (hh : List (Nat × Nat × Nat × Nat)) (l : Launch) (R : Room) (Z : ZT) (pc : Nat) (lo : List (Nat × Value)) (st : List Value) (G : GH) (cells slots : Nat) : Prop :=
  ∀ (p : Program) (e : Env) (s : State) (m : MethodId) (args : Array Value) (below : List Frame) (meth : Method) (c : Code) (H : Heap) (locs : List Loc) (ls : Array Slot), Cx D s0 own mn cc nL ret hh p s m args meth c → va_S (bA s0) s.heap H locs → Emb D s0.heap.size s G H → lv_has ls nL lo →
    W p l e R s m args below meth c H locs cells slots (Z below args s) (F0 m pc ls st)
/-- the same with an exception of the class E under way -/
def VX (D : va_G) (s0 : State) (own mn : String) (cc : ByteArray) (nL : Nat) (ret : Option FieldType) (hh : List (Nat × Nat × Nat × Nat)) (l : Launch) (R : Room) (Z : ZT) (pc : Nat) (lo : List (Nat × Value)) (st : List Value) (E : String) (G : GH) (cells slots : Nat) : Prop :=
  ∀ (p : Program) (e : Env) (s : State) (m : MethodId) (args : Array Value) (below : List Frame) (meth : Method) (c : Code) (H : Heap) (locs : List Loc) (ls : Array Slot) (q : Addr) (ce : Cell), Cx D s0 own mn cc nL ret hh p s m args meth c → va_S (bA s0) s.heap H locs → Emb D s0.heap.size s G H → lv_has ls nL lo → H[q]? = some ce → ce.vm = .none → s.vm.findClass E = some ce.cls →
    vx_W p l e R s m args below meth c H locs cells slots (Z below args s) (F0 m pc ls st) q
def Zm (D : va_G) (s0 : State) (mc ms : Nat) (Post : Option Value → GH → Prop) (PX : String → GH → Prop) : ZT := fun below args s => vx_MQ below (QcV D s0 Post) (XcV D s0 PX) args s mc ms (bA s0)
/-- a method's contract: on these arguments, in this heap, it returns (Post) or throws (PX) -/
def Tri (D : va_G) (s0 : State) (l : Launch) (y : MethodName) (cc : ByteArray) (nL : Nat) (ret : Option FieldType) (d mc ms : Nat) (as : List Value) (G : GH) (Post : Option Value → GH → Prop) (PX : String → GH → Prop) : Prop :=
  vx_Met l y (.code y cc nL ret :: WT) (rmd d mc ms) (PcV D s0 as G) (QcV D s0 Post) (XcV D s0 PX) mc ms (bA s0)
def noX : String → GH → Prop := fun _ _ => False
theorem Tri.weaken {D : va_G} {s0 : State} {l : Launch} {y : MethodName} {cc : ByteArray} {nL : Nat} {ret : Option FieldType} {d mc ms : Nat} {as : List Value} {G : GH} {Post Post' : Option Value → GH → Prop} {PX PX' : String → GH → Prop} (h : Tri D s0 l y cc nL ret d mc ms as G Post PX) (h1 : ∀ rv G', Post rv G' → Post' rv G') (h2 : ∀ E G', PX E G' → PX' E G') : Tri D s0 l y cc nL ret d mc ms as G Post' PX' := by
  intro p e ha hc hk s m args below hf happ hP hK
  obtain ⟨k, o, e1, e2, e3, hq⟩ := h p e ha hc hk s m args below hf happ hP hK
  refine ⟨k, o, e1, e2, e3, ?_⟩
  rcases hq with ⟨⟨rv, G', g1, g2, g3⟩, hq2⟩ | ⟨q, g1, E, ce, L, ⟨G', x1, x2⟩, x3⟩
  · exact Or.inl ⟨⟨rv, G', g1, h1 _ _ g2, g3⟩, hq2⟩
  · exact Or.inr ⟨q, g1, E, ce, L, ⟨G', h2 _ _ x1, x2⟩, x3⟩
theorem pc_blind {D : va_G} {s0 : State} {as : List Value} {G : GH} : FrameBlind (PcV D s0 as G) := fun a U g mk h => by
  obtain ⟨h1, h2, h3, h4⟩ := h
  exact ⟨h1, h2, va_K.moved (u := U) (U := U.calling g mk a) (Vm.Alike.refl U.vm) h3, Emb.moved (u := U) (U := U.calling g mk a) (Vm.Alike.refl U.vm) h4⟩
theorem Fr.go {s0 s U : State} {H : Heap} {locs : List Loc} (hF : Fr s0 s s.heap) (hS : va_S (bA s0) s.heap H locs) (hW : s.WarmedH U.vm) (hU : U.heap = H) : Fr s0 U U.heap := by
  refine ⟨State.WarmedH.trans hF.1 hW, by rw [hU]; exact Nat.le_trans hF.2.1 hS.1, fun q hq => ?_⟩
  rw [hU, hS.2.1 q (Nat.lt_of_lt_of_le hq hF.2.1) (Nat.not_le.mpr hq)]
  exact hF.2.2 q hq

section VR
variable {D : va_G} {s0 : State} {own mn : String} {cc : ByteArray} {nL : Nat} {ret : Option FieldType} {hh : List (Nat × Nat × Nat × Nat)} {l : Launch} {R : Room} {Z : ZT} {pc : Nat} {lo : List (Nat × Value)} {st : List Value} {G : GH} {cells slots : Nat}

theorem Tri.ofV {y : MethodName} {d mc ms : Nat} {as : List Value} {Post : Option Value → GH → Prop} {PX : String → GH → Prop} (hy : plainName y.cls = true) (hc : y.cls = own) (hn : y.name = mn) (hlen : (lg_sl as).length ≤ nL) (k : V D s0 own mn cc nL ret [] l (rmd d mc ms) (Zm D s0 mc ms Post PX) 0 (lv_args 0 as) [] G 0 0) : Tri D s0 l y cc nL ret d mc ms as G Post PX := by
  refine vx_ofW (cc := cc) (maxL := nL) (ret := ret) hy rfl ?_
  intro p e s m args below meth c s₁ B hml htab hv
  obtain ⟨rfl, hF, hK, hE⟩ := hv
  have hts := atoms_spec (ws := .code y cc nL ret :: WT) B.pre
  have hown : s.vm.findClass y.cls = some m.cls := findClass_of_methodNamed B.named
  have hnm := (name_of_methodNamed B.named B.method).1
  have ht : c.exceptionTable.toList = tableOf [] := by
    cases hq : c.exceptionTable.toList with
    | nil => rfl
    | cons x xs => exact absurd (by rw [hq]; exact List.mem_cons_self) (htab x)
  rw [lg_entry_eq]
  exact k p e s m _ below meth c s.heap [] _ ⟨B.exec, B.bytes, hml, B.returns, hc ▸ hown, fun w hw => hts w (List.mem_cons_of_mem _ hw), B.notSynchronized, hnm.trans hn, ht, hF, hK⟩ va_S.rf hE (lv_entry as hlen)
/-- the value of a local -/
def lk : List (Nat × Value) → Nat → Option Value
  | [], _ => none
  | q :: l, i => if q.1 = i then some q.2 else lk l i
theorem lk_has {ls : Array Slot} {n : Nat} {lo : List (Nat × Value)} (h : lv_has ls n lo) {i : Nat} {v : Value} (hk : lk lo i = some v) : ls[i]? = some (.val v) := by
  have key : ∀ l : List (Nat × Value), lk l i = some v → (i, v) ∈ l := by
    intro l
    induction l with
    | nil => intro h; cases h
    | cons q l ih =>
      intro h
      unfold lk at h
      by_cases e : q.1 = i
      · rw [if_pos e] at h
        cases h
        subst e
        exact List.mem_cons_self
      · rw [if_neg e] at h
        exact List.mem_cons_of_mem _ (ih h)
  exact h.2.2 (i, v) (key lo hk)
def ls1 (lo : List (Nat × Value)) (i : Nat) (v : Value) : List (Nat × Value) := (i, v) :: lo.filter (fun q => !(q.1 == i) && !(q.1 + 1 == i && q.2.category == 2))
def ls2 (lo : List (Nat × Value)) (i : Nat) (v : Value) : List (Nat × Value) := (i, v) :: lo.filter (fun q => !(q.1 == i) && (!(q.1 == i + 1) && !(q.1 + 1 == i && q.2.category == 2)))
/-- fewer locals are known -/
theorem V.lsub {lo lo' : List (Nat × Value)} (h : ∀ q ∈ lo', q ∈ lo) (k : V D s0 own mn cc nL ret hh l R Z pc lo' st G cells slots) : V D s0 own mn cc nL ret hh l R Z pc lo st G cells slots := fun p e s m args below meth c H locs ls C hS hE hl => k p e s m args below meth c H locs ls C hS hE ⟨hl.1, hl.2.1, fun q hq => hl.2.2 q (h q hq)⟩
theorem V.eqG {G' : GH} (h : G = G') (k : V D s0 own mn cc nL ret hh l R Z pc lo st G' cells slots) : V D s0 own mn cc nL ret hh l R Z pc lo st G cells slots := h ▸ k
theorem V.eqst {st' : List Value} (h : st = st') (k : V D s0 own mn cc nL ret hh l R Z pc lo st' G cells slots) : V D s0 own mn cc nL ret hh l R Z pc lo st G cells slots := h ▸ k
theorem V.wid {k n : Nat} (h1 : cells ≤ k) (h2 : slots ≤ n) (kk : V D s0 own mn cc nL ret hh l R Z pc lo st G k n) : V D s0 own mn cc nL ret hh l R Z pc lo st G cells slots := fun p e s m args below meth c H locs ls C hS hE hl => W.widen h1 h2 (kk p e s m args below meth c H locs ls C hS hE hl)

theorem V_iconst {n : Int} {v : Int32} (hdg : decode cc pc = .ok (.iconst n, 1)) (hv : Int32.ofInt n = v) (k : V D s0 own mn cc nL ret hh l R Z (pc + 1) lo (.int v :: st) G cells slots) : V D s0 own mn cc nL ret hh l R Z pc lo st G cells slots := fun p e s m args below meth c H locs ls C hS hE hl => lv_iconst C.1 C.2.1 hdg hv (k p e s m args below meth c H locs ls C hS hE hl)
theorem V_bipush {n : Int} {v : Int32} (hdg : decode cc pc = .ok (.bipush n, 2)) (hv : (Int8.ofInt n).toInt32 = v) (k : V D s0 own mn cc nL ret hh l R Z (pc + 2) lo (.int v :: st) G cells slots) : V D s0 own mn cc nL ret hh l R Z pc lo st G cells slots := fun p e s m args below meth c H locs ls C hS hE hl => lv_bipush C.1 C.2.1 hdg hv (k p e s m args below meth c H locs ls C hS hE hl)
theorem V_sipush {n : Int} {v : Int32} (hdg : decode cc pc = .ok (.sipush n, 3)) (hv : (Int16.ofInt n).toInt32 = v) (k : V D s0 own mn cc nL ret hh l R Z (pc + 3) lo (.int v :: st) G cells slots) : V D s0 own mn cc nL ret hh l R Z pc lo st G cells slots := fun p e s m args below meth c H locs ls C hS hE hl => lv_sipush C.1 C.2.1 hdg hv (k p e s m args below meth c H locs ls C hS hE hl)
theorem V_lconst {n : Fin 2} {v : Int64} (hdg : decode cc pc = .ok (.lconst n, 1)) (hv : Int64.ofNat (n : Nat) = v) (k : V D s0 own mn cc nL ret hh l R Z (pc + 1) lo (.long v :: st) G cells slots) : V D s0 own mn cc nL ret hh l R Z pc lo st G cells slots := fun p e s m args below meth c H locs ls C hS hE hl => lv_lconst C.1 C.2.1 hdg hv (k p e s m args below meth c H locs ls C hS hE hl)
theorem V_fconst0 (hdg : decode cc pc = .ok (.fconst 0, 1)) (k : V D s0 own mn cc nL ret hh l R Z (pc + 1) lo (.float FP.fconst0 :: st) G cells slots) : V D s0 own mn cc nL ret hh l R Z pc lo st G cells slots := fun p e s m args below meth c H locs ls C hS hE hl => lv_fconst0 C.1 C.2.1 hdg (k p e s m args below meth c H locs ls C hS hE hl)
theorem V_dconst0 (hdg : decode cc pc = .ok (.dconst 0, 1)) (k : V D s0 own mn cc nL ret hh l R Z (pc + 1) lo (.double FP.dconst0 :: st) G cells slots) : V D s0 own mn cc nL ret hh l R Z pc lo st G cells slots := fun p e s m args below meth c H locs ls C hS hE hl => lv_dconst0 C.1 C.2.1 hdg (k p e s m args below meth c H locs ls C hS hE hl)
theorem V_null (hdg : decode cc pc = .ok (.aconst_null, 1)) (k : V D s0 own mn cc nL ret hh l R Z (pc + 1) lo (.null :: st) G cells slots) : V D s0 own mn cc nL ret hh l R Z pc lo st G cells slots := fun p e s m args below meth c H locs ls C hS hE hl => lv_null C.1 C.2.1 hdg (k p e s m args below meth c H locs ls C hS hE hl)
theorem V_iload_n {k9 : Fin 4} {i : Nat} {x : Int32} (hdg : decode cc pc = .ok (.iload_n k9, 1)) (hi : (k9 : Nat) = i) (h : lk lo i = some (.int x)) (k : V D s0 own mn cc nL ret hh l R Z (pc + 1) lo (.int x :: st) G cells slots) : V D s0 own mn cc nL ret hh l R Z pc lo st G cells slots := fun p e s m args below meth c H locs ls C hS hE hl => lv_iload_n C.1 C.2.1 hdg hi (lk_has hl h) (k p e s m args below meth c H locs ls C hS hE hl)
theorem V_iload {i : Nat} {x : Int32} (hdg : decode cc pc = .ok (.iload i, 2)) (h : lk lo i = some (.int x)) (k : V D s0 own mn cc nL ret hh l R Z (pc + 2) lo (.int x :: st) G cells slots) : V D s0 own mn cc nL ret hh l R Z pc lo st G cells slots := fun p e s m args below meth c H locs ls C hS hE hl => lv_iload C.1 C.2.1 hdg (lk_has hl h) (k p e s m args below meth c H locs ls C hS hE hl)
theorem V_fload_n {k9 : Fin 4} {i : Nat} {x : UInt32} (hdg : decode cc pc = .ok (.fload_n k9, 1)) (hi : (k9 : Nat) = i) (h : lk lo i = some (.float x)) (k : V D s0 own mn cc nL ret hh l R Z (pc + 1) lo (.float x :: st) G cells slots) : V D s0 own mn cc nL ret hh l R Z pc lo st G cells slots := fun p e s m args below meth c H locs ls C hS hE hl => lv_fload_n C.1 C.2.1 hdg hi (lk_has hl h) (k p e s m args below meth c H locs ls C hS hE hl)
theorem V_fload {i : Nat} {x : UInt32} (hdg : decode cc pc = .ok (.fload i, 2)) (h : lk lo i = some (.float x)) (k : V D s0 own mn cc nL ret hh l R Z (pc + 2) lo (.float x :: st) G cells slots) : V D s0 own mn cc nL ret hh l R Z pc lo st G cells slots := fun p e s m args below meth c H locs ls C hS hE hl => lv_fload C.1 C.2.1 hdg (lk_has hl h) (k p e s m args below meth c H locs ls C hS hE hl)
theorem V_dload_n {k9 : Fin 4} {i : Nat} {x : UInt64} (hdg : decode cc pc = .ok (.dload_n k9, 1)) (hi : (k9 : Nat) = i) (h : lk lo i = some (.double x)) (k : V D s0 own mn cc nL ret hh l R Z (pc + 1) lo (.double x :: st) G cells slots) : V D s0 own mn cc nL ret hh l R Z pc lo st G cells slots := fun p e s m args below meth c H locs ls C hS hE hl => lv_dload_n C.1 C.2.1 hdg hi (lk_has hl h) (k p e s m args below meth c H locs ls C hS hE hl)
theorem V_dload {i : Nat} {x : UInt64} (hdg : decode cc pc = .ok (.dload i, 2)) (h : lk lo i = some (.double x)) (k : V D s0 own mn cc nL ret hh l R Z (pc + 2) lo (.double x :: st) G cells slots) : V D s0 own mn cc nL ret hh l R Z pc lo st G cells slots := fun p e s m args below meth c H locs ls C hS hE hl => lv_dload C.1 C.2.1 hdg (lk_has hl h) (k p e s m args below meth c H locs ls C hS hE hl)
theorem V_aload_n {k9 : Fin 4} {i : Nat} {x : Nat} (hdg : decode cc pc = .ok (.aload_n k9, 1)) (hi : (k9 : Nat) = i) (h : lk lo i = some (.ref x)) (k : V D s0 own mn cc nL ret hh l R Z (pc + 1) lo (.ref x :: st) G cells slots) : V D s0 own mn cc nL ret hh l R Z pc lo st G cells slots := fun p e s m args below meth c H locs ls C hS hE hl => lv_aload_n C.1 C.2.1 hdg hi (lk_has hl h) (k p e s m args below meth c H locs ls C hS hE hl)
theorem V_aload {i : Nat} {x : Nat} (hdg : decode cc pc = .ok (.aload i, 2)) (h : lk lo i = some (.ref x)) (k : V D s0 own mn cc nL ret hh l R Z (pc + 2) lo (.ref x :: st) G cells slots) : V D s0 own mn cc nL ret hh l R Z pc lo st G cells slots := fun p e s m args below meth c H locs ls C hS hE hl => lv_aload C.1 C.2.1 hdg (lk_has hl h) (k p e s m args below meth c H locs ls C hS hE hl)
theorem V_aload_nN {k9 : Fin 4} {i : Nat} (hdg : decode cc pc = .ok (.aload_n k9, 1)) (hi : (k9 : Nat) = i) (h : lk lo i = some .null) (k : V D s0 own mn cc nL ret hh l R Z (pc + 1) lo (.null :: st) G cells slots) : V D s0 own mn cc nL ret hh l R Z pc lo st G cells slots := fun p e s m args below meth c H locs ls C hS hE hl => lv_aload_nN C.1 C.2.1 hdg hi (lk_has hl h) (k p e s m args below meth c H locs ls C hS hE hl)
theorem V_aloadN {i : Nat} (hdg : decode cc pc = .ok (.aload i, 2)) (h : lk lo i = some .null) (k : V D s0 own mn cc nL ret hh l R Z (pc + 2) lo (.null :: st) G cells slots) : V D s0 own mn cc nL ret hh l R Z pc lo st G cells slots := fun p e s m args below meth c H locs ls C hS hE hl => lv_aloadN C.1 C.2.1 hdg (lk_has hl h) (k p e s m args below meth c H locs ls C hS hE hl)
theorem V_istore_n {k9 : Fin 4} {i : Nat} {x : Int32} (hdg : decode cc pc = .ok (.istore_n k9, 1)) (hi : (k9 : Nat) = i) (hn : i < nL) (k : V D s0 own mn cc nL ret hh l R Z (pc + 1) (ls1 lo i (.int x)) st G cells slots) : V D s0 own mn cc nL ret hh l R Z pc lo (.int x :: st) G cells slots := fun p e s m args below meth c H locs ls C hS hE hl => lv_istore_n C.1 C.2.1 hdg hi hl hn rfl (fun ls9 hl9 => k p e s m args below meth c H locs ls9 C hS hE hl9)
theorem V_istore {i : Nat} {x : Int32} (hdg : decode cc pc = .ok (.istore i, 2)) (hn : i < nL) (k : V D s0 own mn cc nL ret hh l R Z (pc + 2) (ls1 lo i (.int x)) st G cells slots) : V D s0 own mn cc nL ret hh l R Z pc lo (.int x :: st) G cells slots := fun p e s m args below meth c H locs ls C hS hE hl => lv_istore C.1 C.2.1 hdg hl hn rfl (fun ls9 hl9 => k p e s m args below meth c H locs ls9 C hS hE hl9)
theorem V_fstore {i : Nat} {x : UInt32} (hdg : decode cc pc = .ok (.fstore i, 2)) (hn : i < nL) (k : V D s0 own mn cc nL ret hh l R Z (pc + 2) (ls1 lo i (.float x)) st G cells slots) : V D s0 own mn cc nL ret hh l R Z pc lo (.float x :: st) G cells slots := fun p e s m args below meth c H locs ls C hS hE hl => lv_fstore C.1 C.2.1 hdg hl hn rfl (fun ls9 hl9 => k p e s m args below meth c H locs ls9 C hS hE hl9)
theorem V_astore_n {k9 : Fin 4} {i : Nat} {x : Nat} (hdg : decode cc pc = .ok (.astore_n k9, 1)) (hi : (k9 : Nat) = i) (hn : i < nL) (k : V D s0 own mn cc nL ret hh l R Z (pc + 1) (ls1 lo i (.ref x)) st G cells slots) : V D s0 own mn cc nL ret hh l R Z pc lo (.ref x :: st) G cells slots := fun p e s m args below meth c H locs ls C hS hE hl => lv_astore_n C.1 C.2.1 hdg hi hl hn rfl (fun ls9 hl9 => k p e s m args below meth c H locs ls9 C hS hE hl9)
theorem V_astore {i : Nat} {x : Nat} (hdg : decode cc pc = .ok (.astore i, 2)) (hn : i < nL) (k : V D s0 own mn cc nL ret hh l R Z (pc + 2) (ls1 lo i (.ref x)) st G cells slots) : V D s0 own mn cc nL ret hh l R Z pc lo (.ref x :: st) G cells slots := fun p e s m args below meth c H locs ls C hS hE hl => lv_astore C.1 C.2.1 hdg hl hn rfl (fun ls9 hl9 => k p e s m args below meth c H locs ls9 C hS hE hl9)
theorem V_astore_nN {k9 : Fin 4} {i : Nat} (hdg : decode cc pc = .ok (.astore_n k9, 1)) (hi : (k9 : Nat) = i) (hn : i < nL) (k : V D s0 own mn cc nL ret hh l R Z (pc + 1) (ls1 lo i (.null)) st G cells slots) : V D s0 own mn cc nL ret hh l R Z pc lo (.null :: st) G cells slots := fun p e s m args below meth c H locs ls C hS hE hl => lv_astore_nN C.1 C.2.1 hdg hi hl hn rfl (fun ls9 hl9 => k p e s m args below meth c H locs ls9 C hS hE hl9)
theorem V_astoreN {i : Nat} (hdg : decode cc pc = .ok (.astore i, 2)) (hn : i < nL) (k : V D s0 own mn cc nL ret hh l R Z (pc + 2) (ls1 lo i (.null)) st G cells slots) : V D s0 own mn cc nL ret hh l R Z pc lo (.null :: st) G cells slots := fun p e s m args below meth c H locs ls C hS hE hl => lv_astoreN C.1 C.2.1 hdg hl hn rfl (fun ls9 hl9 => k p e s m args below meth c H locs ls9 C hS hE hl9)
theorem V_dstore {i : Nat} {x : UInt64} (hdg : decode cc pc = .ok (.dstore i, 2)) (hn : i + 1 < nL) (k : V D s0 own mn cc nL ret hh l R Z (pc + 2) (ls2 lo i (.double x)) st G cells slots) : V D s0 own mn cc nL ret hh l R Z pc lo (.double x :: st) G cells slots := fun p e s m args below meth c H locs ls C hS hE hl => lv_dstore C.1 C.2.1 hdg hl hn rfl (fun ls9 hl9 => k p e s m args below meth c H locs ls9 C hS hE hl9)
theorem V_iinc {i : Nat} {n : Int} {x v : Int32} (hdg : decode cc pc = .ok (.iinc i n, 3)) (h : lk lo i = some (.int x)) (hv : x + Int32.ofInt n = v) (hn : i < nL) (k : V D s0 own mn cc nL ret hh l R Z (pc + 3) (ls1 lo i (.int v)) st G cells slots) : V D s0 own mn cc nL ret hh l R Z pc lo st G cells slots := by
  intro p e s m args below meth c H locs ls C hS hE hl
  have hg := lk_has hl h
  have h9 : lv_has ls nL ((i, .int x) :: lo) := ⟨hl.1, hl.2.1, fun q hq => (List.mem_cons.mp hq).elim (fun e => by rw [e]; exact hg) (hl.2.2 q)⟩
  refine lv_iinc C.1 C.2.1 hdg h9 (k := 0) rfl hv hn rfl (fun ls9 hl9 => k p e s m args below meth c H locs ls9 C hS hE ⟨hl9.1, hl9.2.1, fun q hq => hl9.2.2 q ?_⟩)
  rcases List.mem_cons.mp hq with e | e
  · rw [e]; exact List.mem_cons_self
  · refine List.mem_cons_of_mem _ ?_
    have e2 := List.mem_filter.mp e
    exact List.mem_filter.mpr ⟨List.mem_cons_of_mem _ e2.1, e2.2⟩
theorem V_iadd {x y : Int32} (hdg : decode cc pc = .ok (.iadd, 1)) (k : V D s0 own mn cc nL ret hh l R Z (pc + 1) lo (.int (x + y) :: st) G cells slots) : V D s0 own mn cc nL ret hh l R Z pc lo (.int y :: .int x :: st) G cells slots := fun p e s m args below meth c H locs ls C hS hE hl => lv_iadd C.1 C.2.1 hdg (k p e s m args below meth c H locs ls C hS hE hl)
theorem V_isub {x y : Int32} (hdg : decode cc pc = .ok (.isub, 1)) (k : V D s0 own mn cc nL ret hh l R Z (pc + 1) lo (.int (x - y) :: st) G cells slots) : V D s0 own mn cc nL ret hh l R Z pc lo (.int y :: .int x :: st) G cells slots := fun p e s m args below meth c H locs ls C hS hE hl => lv_isub C.1 C.2.1 hdg (k p e s m args below meth c H locs ls C hS hE hl)
theorem V_imul {x y : Int32} (hdg : decode cc pc = .ok (.imul, 1)) (k : V D s0 own mn cc nL ret hh l R Z (pc + 1) lo (.int (x * y) :: st) G cells slots) : V D s0 own mn cc nL ret hh l R Z pc lo (.int y :: .int x :: st) G cells slots := fun p e s m args below meth c H locs ls C hS hE hl => lv_imul C.1 C.2.1 hdg (k p e s m args below meth c H locs ls C hS hE hl)
theorem V_iand {x y : Int32} (hdg : decode cc pc = .ok (.iand, 1)) (k : V D s0 own mn cc nL ret hh l R Z (pc + 1) lo (.int (x &&& y) :: st) G cells slots) : V D s0 own mn cc nL ret hh l R Z pc lo (.int y :: .int x :: st) G cells slots := fun p e s m args below meth c H locs ls C hS hE hl => lv_iand C.1 C.2.1 hdg (k p e s m args below meth c H locs ls C hS hE hl)
theorem V_idiv {x y : Int32} (hdg : decode cc pc = .ok (.idiv, 1)) (hne : ¬ y = 0) (k : V D s0 own mn cc nL ret hh l R Z (pc + 1) lo (.int (x / y) :: st) G cells slots) : V D s0 own mn cc nL ret hh l R Z pc lo (.int y :: .int x :: st) G cells slots := fun p e s m args below meth c H locs ls C hS hE hl => lv_idiv C.1 C.2.1 hdg hne (k p e s m args below meth c H locs ls C hS hE hl)
theorem V_irem {x y : Int32} (hdg : decode cc pc = .ok (.irem, 1)) (hne : ¬ y = 0) (k : V D s0 own mn cc nL ret hh l R Z (pc + 1) lo (.int (x - x / y * y) :: st) G cells slots) : V D s0 own mn cc nL ret hh l R Z pc lo (.int y :: .int x :: st) G cells slots := fun p e s m args below meth c H locs ls C hS hE hl => lv_irem C.1 C.2.1 hdg hne (k p e s m args below meth c H locs ls C hS hE hl)
theorem V_i2l {x : Int32} {v : Int64} (hdg : decode cc pc = .ok (.i2l, 1)) (hv : x.toInt64 = v) (k : V D s0 own mn cc nL ret hh l R Z (pc + 1) lo (.long v :: st) G cells slots) : V D s0 own mn cc nL ret hh l R Z pc lo (.int x :: st) G cells slots := fun p e s m args below meth c H locs ls C hS hE hl => lv_i2l C.1 C.2.1 hdg hv (k p e s m args below meth c H locs ls C hS hE hl)
theorem V_i2c {x : Int32} {v : Int32} (hdg : decode cc pc = .ok (.i2c, 1)) (hv : (x.toUInt32 % 65536).toInt32 = v) (k : V D s0 own mn cc nL ret hh l R Z (pc + 1) lo (.int v :: st) G cells slots) : V D s0 own mn cc nL ret hh l R Z pc lo (.int x :: st) G cells slots := fun p e s m args below meth c H locs ls C hS hE hl => lv_i2c C.1 C.2.1 hdg hv (k p e s m args below meth c H locs ls C hS hE hl)
theorem V_i2f {x : Int32} (hdg : decode cc pc = .ok (.i2f, 1)) (k : V D s0 own mn cc nL ret hh l R Z (pc + 1) lo (.float (FP.i2f x) :: st) G cells slots) : V D s0 own mn cc nL ret hh l R Z pc lo (.int x :: st) G cells slots := fun p e s m args below meth c H locs ls C hS hE hl => lv_i2f C.1 C.2.1 hdg (k p e s m args below meth c H locs ls C hS hE hl)
theorem V_i2d {x : Int32} (hdg : decode cc pc = .ok (.i2d, 1)) (k : V D s0 own mn cc nL ret hh l R Z (pc + 1) lo (.double (FP.i2d x) :: st) G cells slots) : V D s0 own mn cc nL ret hh l R Z pc lo (.int x :: st) G cells slots := fun p e s m args below meth c H locs ls C hS hE hl => lv_i2d C.1 C.2.1 hdg (k p e s m args below meth c H locs ls C hS hE hl)
theorem V_fdiv {x y : UInt32} (hdg : decode cc pc = .ok (.fdiv, 1)) (hne : vf_n32 (FP.fdiv x y)) (k : V D s0 own mn cc nL ret hh l R Z (pc + 1) lo (.float (FP.fdiv x y) :: st) G cells slots) : V D s0 own mn cc nL ret hh l R Z pc lo (.float y :: .float x :: st) G cells slots := fun p e s m args below meth c H locs ls C hS hE hl => lv_fdiv C.1 C.2.1 hdg hne (k p e s m args below meth c H locs ls C hS hE hl)
theorem V_ddiv {x y : UInt64} (hdg : decode cc pc = .ok (.ddiv, 1)) (hne : vf_n64 (FP.ddiv x y)) (k : V D s0 own mn cc nL ret hh l R Z (pc + 1) lo (.double (FP.ddiv x y) :: st) G cells slots) : V D s0 own mn cc nL ret hh l R Z pc lo (.double y :: .double x :: st) G cells slots := fun p e s m args below meth c H locs ls C hS hE hl => lv_ddiv C.1 C.2.1 hdg hne (k p e s m args below meth c H locs ls C hS hE hl)
theorem V_f2d {x : UInt32} (hdg : decode cc pc = .ok (.f2d, 1)) (hne : vf_n64 (FP.f2d x)) (k : V D s0 own mn cc nL ret hh l R Z (pc + 1) lo (.double (FP.f2d x) :: st) G cells slots) : V D s0 own mn cc nL ret hh l R Z pc lo (.float x :: st) G cells slots := fun p e s m args below meth c H locs ls C hS hE hl => lv_f2d C.1 C.2.1 hdg hne (k p e s m args below meth c H locs ls C hS hE hl)
theorem V_fcmp {x y : UInt32} {op : CmpOp} (hdg : decode cc pc = .ok (.fcmp op, 1)) (k : V D s0 own mn cc nL ret hh l R Z (pc + 1) lo (.int (Op.cmpValue (FP.fcmp x y) op) :: st) G cells slots) : V D s0 own mn cc nL ret hh l R Z pc lo (.float y :: .float x :: st) G cells slots := fun p e s m args below meth c H locs ls C hS hE hl => lv_fcmp C.1 C.2.1 hdg (k p e s m args below meth c H locs ls C hS hE hl)
theorem V_dcmp {x y : UInt64} {op : CmpOp} (hdg : decode cc pc = .ok (.dcmp op, 1)) (k : V D s0 own mn cc nL ret hh l R Z (pc + 1) lo (.int (Op.cmpValue (FP.dcmp x y) op) :: st) G cells slots) : V D s0 own mn cc nL ret hh l R Z pc lo (.double y :: .double x :: st) G cells slots := fun p e s m args below meth c H locs ls C hS hE hl => lv_dcmp C.1 C.2.1 hdg (k p e s m args below meth c H locs ls C hS hE hl)
theorem V_lcmp {x y : Int64} (hdg : decode cc pc = .ok (.lcmp, 1)) (k : V D s0 own mn cc nL ret hh l R Z (pc + 1) lo (.int (lg_cmp x y) :: st) G cells slots) : V D s0 own mn cc nL ret hh l R Z pc lo (.long y :: .long x :: st) G cells slots := fun p e s m args below meth c H locs ls C hS hE hl => W.lcmp C.1 C.2.1 hdg (k p e s m args below meth c H locs ls C hS hE hl)
theorem V_dup {va : Value} (hdg : decode cc pc = .ok (.dup, 1)) (hva : va.category = 1) (k : V D s0 own mn cc nL ret hh l R Z (pc + 1) lo (va :: va :: st) G cells slots) : V D s0 own mn cc nL ret hh l R Z pc lo (va :: st) G cells slots := fun p e s m args below meth c H locs ls C hS hE hl => lv_dup C.1 C.2.1 hdg hva (k p e s m args below meth c H locs ls C hS hE hl)
theorem V_dup2 {va vb : Value} (hdg : decode cc pc = .ok (.dup2, 1)) (hva : va.category = 1) (hvb : vb.category = 1) (k : V D s0 own mn cc nL ret hh l R Z (pc + 1) lo (va :: vb :: va :: vb :: st) G cells slots) : V D s0 own mn cc nL ret hh l R Z pc lo (va :: vb :: st) G cells slots := fun p e s m args below meth c H locs ls C hS hE hl => lv_dup2_11 C.1 C.2.1 hdg hva hvb (k p e s m args below meth c H locs ls C hS hE hl)
theorem V_pop {va : Value} (hdg : decode cc pc = .ok (.pop, 1)) (hva : va.category = 1) (k : V D s0 own mn cc nL ret hh l R Z (pc + 1) lo st G cells slots) : V D s0 own mn cc nL ret hh l R Z pc lo (va :: st) G cells slots := fun p e s m args below meth c H locs ls C hS hE hl => lv_pop C.1 C.2.1 hdg hva (k p e s m args below meth c H locs ls C hS hE hl)
theorem V_if_eq {x : Int32} {off : Int} {tgt : Nat} (hdg : decode cc pc = .ok (.ifCond .eq off, 3)) (ht : (pc : Int) + off = (tgt : Int)) (kt : x = 0 → V D s0 own mn cc nL ret hh l R Z tgt lo st G cells slots) (kf : ¬ x = 0 → V D s0 own mn cc nL ret hh l R Z (pc + 3) lo st G cells slots) : V D s0 own mn cc nL ret hh l R Z pc lo (.int x :: st) G cells slots := fun p e s m args below meth c H locs ls C hS hE hl => lv_if_eq C.1 C.2.1 hdg ht (fun h9 => kt h9 p e s m args below meth c H locs ls C hS hE hl) (fun h9 => kf h9 p e s m args below meth c H locs ls C hS hE hl)
theorem V_icmp_eq {x y : Int32} {off : Int} {tgt : Nat} (hdg : decode cc pc = .ok (.if_icmp .eq off, 3)) (ht : (pc : Int) + off = (tgt : Int)) (kt : x = y → V D s0 own mn cc nL ret hh l R Z tgt lo st G cells slots) (kf : ¬ x = y → V D s0 own mn cc nL ret hh l R Z (pc + 3) lo st G cells slots) : V D s0 own mn cc nL ret hh l R Z pc lo (.int y :: .int x :: st) G cells slots := fun p e s m args below meth c H locs ls C hS hE hl => lv_icmp_eq C.1 C.2.1 hdg ht (fun h9 => kt h9 p e s m args below meth c H locs ls C hS hE hl) (fun h9 => kf h9 p e s m args below meth c H locs ls C hS hE hl)
theorem V_if_ne {x : Int32} {off : Int} {tgt : Nat} (hdg : decode cc pc = .ok (.ifCond .ne off, 3)) (ht : (pc : Int) + off = (tgt : Int)) (kt : ¬ x = 0 → V D s0 own mn cc nL ret hh l R Z tgt lo st G cells slots) (kf : x = 0 → V D s0 own mn cc nL ret hh l R Z (pc + 3) lo st G cells slots) : V D s0 own mn cc nL ret hh l R Z pc lo (.int x :: st) G cells slots := fun p e s m args below meth c H locs ls C hS hE hl => lv_if_ne C.1 C.2.1 hdg ht (fun h9 => kt h9 p e s m args below meth c H locs ls C hS hE hl) (fun h9 => kf h9 p e s m args below meth c H locs ls C hS hE hl)
theorem V_icmp_ne {x y : Int32} {off : Int} {tgt : Nat} (hdg : decode cc pc = .ok (.if_icmp .ne off, 3)) (ht : (pc : Int) + off = (tgt : Int)) (kt : ¬ x = y → V D s0 own mn cc nL ret hh l R Z tgt lo st G cells slots) (kf : x = y → V D s0 own mn cc nL ret hh l R Z (pc + 3) lo st G cells slots) : V D s0 own mn cc nL ret hh l R Z pc lo (.int y :: .int x :: st) G cells slots := fun p e s m args below meth c H locs ls C hS hE hl => lv_icmp_ne C.1 C.2.1 hdg ht (fun h9 => kt h9 p e s m args below meth c H locs ls C hS hE hl) (fun h9 => kf h9 p e s m args below meth c H locs ls C hS hE hl)
theorem V_if_lt {x : Int32} {off : Int} {tgt : Nat} (hdg : decode cc pc = .ok (.ifCond .lt off, 3)) (ht : (pc : Int) + off = (tgt : Int)) (kt : x < 0 → V D s0 own mn cc nL ret hh l R Z tgt lo st G cells slots) (kf : ¬ x < 0 → V D s0 own mn cc nL ret hh l R Z (pc + 3) lo st G cells slots) : V D s0 own mn cc nL ret hh l R Z pc lo (.int x :: st) G cells slots := fun p e s m args below meth c H locs ls C hS hE hl => lv_if_lt C.1 C.2.1 hdg ht (fun h9 => kt h9 p e s m args below meth c H locs ls C hS hE hl) (fun h9 => kf h9 p e s m args below meth c H locs ls C hS hE hl)
theorem V_icmp_lt {x y : Int32} {off : Int} {tgt : Nat} (hdg : decode cc pc = .ok (.if_icmp .lt off, 3)) (ht : (pc : Int) + off = (tgt : Int)) (kt : x < y → V D s0 own mn cc nL ret hh l R Z tgt lo st G cells slots) (kf : ¬ x < y → V D s0 own mn cc nL ret hh l R Z (pc + 3) lo st G cells slots) : V D s0 own mn cc nL ret hh l R Z pc lo (.int y :: .int x :: st) G cells slots := fun p e s m args below meth c H locs ls C hS hE hl => lv_icmp_lt C.1 C.2.1 hdg ht (fun h9 => kt h9 p e s m args below meth c H locs ls C hS hE hl) (fun h9 => kf h9 p e s m args below meth c H locs ls C hS hE hl)
theorem V_if_ge {x : Int32} {off : Int} {tgt : Nat} (hdg : decode cc pc = .ok (.ifCond .ge off, 3)) (ht : (pc : Int) + off = (tgt : Int)) (kt : 0 ≤ x → V D s0 own mn cc nL ret hh l R Z tgt lo st G cells slots) (kf : ¬ 0 ≤ x → V D s0 own mn cc nL ret hh l R Z (pc + 3) lo st G cells slots) : V D s0 own mn cc nL ret hh l R Z pc lo (.int x :: st) G cells slots := fun p e s m args below meth c H locs ls C hS hE hl => lv_if_ge C.1 C.2.1 hdg ht (fun h9 => kt h9 p e s m args below meth c H locs ls C hS hE hl) (fun h9 => kf h9 p e s m args below meth c H locs ls C hS hE hl)
theorem V_icmp_ge {x y : Int32} {off : Int} {tgt : Nat} (hdg : decode cc pc = .ok (.if_icmp .ge off, 3)) (ht : (pc : Int) + off = (tgt : Int)) (kt : y ≤ x → V D s0 own mn cc nL ret hh l R Z tgt lo st G cells slots) (kf : ¬ y ≤ x → V D s0 own mn cc nL ret hh l R Z (pc + 3) lo st G cells slots) : V D s0 own mn cc nL ret hh l R Z pc lo (.int y :: .int x :: st) G cells slots := fun p e s m args below meth c H locs ls C hS hE hl => lv_icmp_ge C.1 C.2.1 hdg ht (fun h9 => kt h9 p e s m args below meth c H locs ls C hS hE hl) (fun h9 => kf h9 p e s m args below meth c H locs ls C hS hE hl)
theorem V_if_gt {x : Int32} {off : Int} {tgt : Nat} (hdg : decode cc pc = .ok (.ifCond .gt off, 3)) (ht : (pc : Int) + off = (tgt : Int)) (kt : 0 < x → V D s0 own mn cc nL ret hh l R Z tgt lo st G cells slots) (kf : ¬ 0 < x → V D s0 own mn cc nL ret hh l R Z (pc + 3) lo st G cells slots) : V D s0 own mn cc nL ret hh l R Z pc lo (.int x :: st) G cells slots := fun p e s m args below meth c H locs ls C hS hE hl => lv_if_gt C.1 C.2.1 hdg ht (fun h9 => kt h9 p e s m args below meth c H locs ls C hS hE hl) (fun h9 => kf h9 p e s m args below meth c H locs ls C hS hE hl)
theorem V_icmp_gt {x y : Int32} {off : Int} {tgt : Nat} (hdg : decode cc pc = .ok (.if_icmp .gt off, 3)) (ht : (pc : Int) + off = (tgt : Int)) (kt : y < x → V D s0 own mn cc nL ret hh l R Z tgt lo st G cells slots) (kf : ¬ y < x → V D s0 own mn cc nL ret hh l R Z (pc + 3) lo st G cells slots) : V D s0 own mn cc nL ret hh l R Z pc lo (.int y :: .int x :: st) G cells slots := fun p e s m args below meth c H locs ls C hS hE hl => lv_icmp_gt C.1 C.2.1 hdg ht (fun h9 => kt h9 p e s m args below meth c H locs ls C hS hE hl) (fun h9 => kf h9 p e s m args below meth c H locs ls C hS hE hl)
theorem V_if_le {x : Int32} {off : Int} {tgt : Nat} (hdg : decode cc pc = .ok (.ifCond .le off, 3)) (ht : (pc : Int) + off = (tgt : Int)) (kt : x ≤ 0 → V D s0 own mn cc nL ret hh l R Z tgt lo st G cells slots) (kf : ¬ x ≤ 0 → V D s0 own mn cc nL ret hh l R Z (pc + 3) lo st G cells slots) : V D s0 own mn cc nL ret hh l R Z pc lo (.int x :: st) G cells slots := fun p e s m args below meth c H locs ls C hS hE hl => lv_if_le C.1 C.2.1 hdg ht (fun h9 => kt h9 p e s m args below meth c H locs ls C hS hE hl) (fun h9 => kf h9 p e s m args below meth c H locs ls C hS hE hl)
theorem V_icmp_le {x y : Int32} {off : Int} {tgt : Nat} (hdg : decode cc pc = .ok (.if_icmp .le off, 3)) (ht : (pc : Int) + off = (tgt : Int)) (kt : x ≤ y → V D s0 own mn cc nL ret hh l R Z tgt lo st G cells slots) (kf : ¬ x ≤ y → V D s0 own mn cc nL ret hh l R Z (pc + 3) lo st G cells slots) : V D s0 own mn cc nL ret hh l R Z pc lo (.int y :: .int x :: st) G cells slots := fun p e s m args below meth c H locs ls C hS hE hl => lv_icmp_le C.1 C.2.1 hdg ht (fun h9 => kt h9 p e s m args below meth c H locs ls C hS hE hl) (fun h9 => kf h9 p e s m args below meth c H locs ls C hS hE hl)
theorem V_goto {off : Int} {tgt : Nat} (hdg : decode cc pc = .ok (.goto off, 3)) (ht : (pc : Int) + off = (tgt : Int)) (k : V D s0 own mn cc nL ret hh l R Z tgt lo st G cells slots) : V D s0 own mn cc nL ret hh l R Z pc lo st G cells slots := fun p e s m args below meth c H locs ls C hS hE hl => lv_goto C.1 C.2.1 hdg ht (k p e s m args below meth c H locs ls C hS hE hl)
theorem V_ifnull {x : Nat} {off : Int} (hdg : decode cc pc = .ok (.ifnull off, 3)) (k : V D s0 own mn cc nL ret hh l R Z (pc + 3) lo st G cells slots) : V D s0 own mn cc nL ret hh l R Z pc lo (.ref x :: st) G cells slots := fun p e s m args below meth c H locs ls C hS hE hl => lv_ifnull C.1 C.2.1 hdg (k p e s m args below meth c H locs ls C hS hE hl)
theorem V_ifnullN {off : Int} {tgt : Nat} (hdg : decode cc pc = .ok (.ifnull off, 3)) (ht : (pc : Int) + off = (tgt : Int)) (k : V D s0 own mn cc nL ret hh l R Z tgt lo st G cells slots) : V D s0 own mn cc nL ret hh l R Z pc lo (.null :: st) G cells slots := fun p e s m args below meth c H locs ls C hS hE hl => lv_ifnullN C.1 C.2.1 hdg ht (k p e s m args below meth c H locs ls C hS hE hl)
theorem V_ifnonnull {x : Nat} {off : Int} {tgt : Nat} (hdg : decode cc pc = .ok (.ifnonnull off, 3)) (ht : (pc : Int) + off = (tgt : Int)) (k : V D s0 own mn cc nL ret hh l R Z tgt lo st G cells slots) : V D s0 own mn cc nL ret hh l R Z pc lo (.ref x :: st) G cells slots := fun p e s m args below meth c H locs ls C hS hE hl => lv_ifnonnull C.1 C.2.1 hdg ht (k p e s m args below meth c H locs ls C hS hE hl)
theorem V_ifnonnullN {off : Int} (hdg : decode cc pc = .ok (.ifnonnull off, 3)) (k : V D s0 own mn cc nL ret hh l R Z (pc + 3) lo st G cells slots) : V D s0 own mn cc nL ret hh l R Z pc lo (.null :: st) G cells slots := fun p e s m args below meth c H locs ls C hS hE hl => lv_ifnonnullN C.1 C.2.1 hdg (k p e s m args below meth c H locs ls C hS hE hl)
theorem V_tableOut {dflt lo9 hi9 : Int} {offs : Array Int} {len : Nat} {x : Int32} {tgt : Nat} (hdg : decode cc pc = .ok (.tableswitch dflt lo9 hi9 offs, len)) (h : x.toInt < lo9 ∨ hi9 < x.toInt) (ht : (pc : Int) + dflt = (tgt : Int)) (k : V D s0 own mn cc nL ret hh l R Z tgt lo st G cells slots) : V D s0 own mn cc nL ret hh l R Z pc lo (.int x :: st) G cells slots := fun p e s m args below meth c H locs ls C hS hE hl => lv_tableOut C.1 C.2.1 hdg h ht (k p e s m args below meth c H locs ls C hS hE hl)
theorem V_tableIn {dflt lo9 hi9 : Int} {offs : Array Int} {len : Nat} {x : Int32} {off : Int} {tgt : Nat} (hdg : decode cc pc = .ok (.tableswitch dflt lo9 hi9 offs, len)) (h1 : ¬ x.toInt < lo9) (h2 : ¬ hi9 < x.toInt) (ho : offs[(x.toInt - lo9).toNat]? = some off) (ht : (pc : Int) + off = (tgt : Int)) (k : V D s0 own mn cc nL ret hh l R Z tgt lo st G cells slots) : V D s0 own mn cc nL ret hh l R Z pc lo (.int x :: st) G cells slots := fun p e s m args below meth c H locs ls C hS hE hl => lv_tableIn C.1 C.2.1 hdg h1 h2 ho ht (k p e s m args below meth c H locs ls C hS hE hl)
/-- a class's field, as the code of 'own' names it at 'index' -/
def FL (own : String) (index ci k : Nat) : Prop := ∃ (C : String) (T : u_T) (N : Nat) (ty0 : Nat → FieldType) (ref : String), cls9[ci]? = some (C, T, N) ∧ k < N ∧ (∀ w ∈ u_ws C T N, w ∈ WT) ∧ (∀ j, j < N → parseFieldDescriptor (T j).2.2.1 = some (ty0 j)) ∧ (∀ a, a < N → ∀ b, b < N → a ≠ b → (T a).2.1 ≠ (T b).2.1) ∧ Cond.fieldLink own index ref (T k).2.1 (T k).2.2.1 ∈ WT ∧ ref = (T k).1
theorem V_getf {index ci k a : Nat} {fs : List Value} {v : Value} (hf : FL own index ci k) (hdg : decode cc pc = .ok (.getfield index, 3)) (hc : G a = some (.inl (ci, fs))) (hv : fs[k]? = some v) (kk : V D s0 own mn cc nL ret hh l R Z (pc + 3) lo (v :: st) G cells slots) : V D s0 own mn cc nL ret hh l R Z pc lo (.ref a :: st) G cells slots := by
  intro p e s m args below meth c H locs ls C9 hS hE hl
  obtain ⟨C, T, N, ty0, ref, hcl, hkN, hin, hty, hnm, hlink, href⟩ := hf
  have hP : va_P D cls9 [(a, .inr (ci, fs))] H := by
    intro j q hj
    have hz : j < 1 := (List.getElem?_eq_some_iff.mp hj).1
    rw [show j = 0 by omega] at hj
    cases hj
    exact (hE a _ hc).2
  refine va_get (D := D) (cl := cls9) (C := C) (T := T) (N := N) (ref := ref) (ci := ci) C9.1 C9.2.1 C9.2.2.2.2.2.1 hin C9.2.2.2.2.1 C9.2.2.2.2.2.2.2.2.2.2 hP 0 rfl hcl k hkN (C9.2.2.2.2.2.1 _ hlink) (by rw [href]; exact fun _ h9 => h9) hv hdg ?_
  exact kk p e s m args below meth c H locs ls C9 hS hE hl
theorem V_putf {index ci k a : Nat} {fs : List Value} {v : Value} {ty : FieldType} (hf : FL own index ci k) (hdg : decode cc pc = .ok (.putfield index, 3)) (hc : G a = some (.inl (ci, fs))) (hfin : ∀ q, cls9[ci]? = some q → (q.2.1 k).2.2.2 = false ∨ ((q.2.1 k).2.2.2 = true ∧ mn = "<init>" ∧ (q.2.1 k).1 = own)) (hd : ∀ q, cls9[ci]? = some q → parseFieldDescriptor (q.2.1 k).2.2.1 = some ty) (hn : narrow ty v = v) (hfit : fits ty v = true) (hl9 : k < fs.length) (kk : V D s0 own mn cc nL ret hh l R Z (pc + 3) lo st (gset G a (.inl (ci, fs.set k v))) cells slots) : V D s0 own mn cc nL ret hh l R Z pc lo (v :: .ref a :: st) G cells slots := by
  intro p e s m args below meth c H locs ls C9 hS hE hl
  obtain ⟨C, T, N, ty0, ref, hcl, hkN, hin, hty, hnm, hlink, href⟩ := hf
  have hts := C9.2.2.2.2.2.1
  have hown := C9.2.2.2.2.1
  have hK := C9.2.2.2.2.2.2.2.2.2.2
  have hap := va_apart (own := own) hts hin ty0 hty hnm hK hcl
  obtain ⟨hB, r, h1, cell, q1, q2, q3, q4⟩ := hE a _ hc
  have hr : r = (C, T, N) := Option.some.inj (h1.symm.trans hcl)
  subst hr
  obtain ⟨hSl, hfc, kC, hkC, hkind⟩ := hK.1 ci _ hcl
  obtain ⟨cf, kf, fi, f, hi, hsl⟩ := hSl k hkN
  have hlays := u_lays hts hin hkN
  have hst := (u_facts hfc hkC hlays hi).1
  have hi2 : s.fieldFound? ref (T k).2.1 (T k).2.2.1 = some (cf, kf, fi, f) := by rw [href]; exact hi
  have fin : ∀ H' : Heap, H'[a]? = some (cell.setSlot f.slot v) → H'.size = H.size → (∀ q, q ≠ a → H'[q]? = H[q]?) → W p l e R s m args below meth c H' (locs ++ [⟨a, f.slot⟩]) cells slots (Z below args s) (F0 m (pc + 3) ls st) := by
    intro H' e1 e2 e3
    rw [hsl] at e1 ⊢
    refine kk p e s m args below meth c H' _ ls C9 (hS.put e2 e3 hB) (hE.set hB ?_ e3) hl
    exact ⟨_, hcl, t_OB.to (V := updV (vp_V fs) k v) ⟨_, e1, q2, q3, t_set q4 hap hkN v⟩ (fun j _ => vp_updV_set hl9 v j)⟩
  rcases hfin _ hcl with hfin | ⟨hfin, hini, hdecl⟩
  · have hlay := hts _ (hin _ (u_in_lay hkN))
    unfold u_lay at hlay
    rw [if_neg (by rw [hfin]; decide)] at hlay
    have h6 := u_store hfc hkC hkind hlay hi (hd _ hcl) hn hfit
    exact W.putK C9.1 C9.2.1 (f := f) ⟨hown, hts _ hlink, ⟨_, _, _, hi2⟩, hst⟩ (by rw [q2]; exact h6) q1 q3 (by rw [hsl]; exact k2_hasslot (q4 k hkN)) rfl rfl hdg fin
  · have hlay := hts _ (hin _ (u_in_lay hkN))
    unfold u_lay at hlay
    rw [if_pos hfin] at hlay
    have hcf : m.cls = cf := by
      obtain ⟨_, _, c', _, _, _, -, -, hf', -, -, -, hown2, -⟩ := Cond.laysFinal_spec hlay
      have e1 : c' = cf := by have := hi.symm.trans hf'; simp at this; exact this.1.symm
      have hdecl2 : (T k).1 = own := hdecl
      rw [hdecl2] at hown2
      rw [← e1]; exact Option.some.inj (hown.symm.trans hown2)
    have h6 := u_fits hfc hkC hkind (Or.inr hlay) hi (hd _ hcl) hn hfit
    exact W.putFinK C9.1 C9.2.1 hown (hts _ hlink) hi2 hst hcf (C9.2.2.2.2.2.2.2.1.trans hini) (by rw [q2]; exact h6) q1 q3 (by rw [hsl]; exact k2_hasslot (q4 k hkN)) rfl rfl hdg fin
theorem V_iald {a n : Nat} {f : Nat → Value} {i : Int32} {x : Int32} (hdg : decode cc pc = .ok (.iaload, 1)) (hc : G a = some (.inr (.int, n, f))) (hin : vp_in i n) (hx : f i.toNatClampNeg = .int x) (kk : V D s0 own mn cc nL ret hh l R Z (pc + 1) lo (.int x :: st) G cells slots) : V D s0 own mn cc nL ret hh l R Z pc lo (.int i :: .ref a :: st) G cells slots := by
  intro p e s m args below meth c H locs ls C9 hS hE hl
  obtain ⟨hB, cA, h1, h2, h3⟩ := hE a _ hc
  dsimp only at h1 h2 h3
  have hlt : i.toNatClampNeg < n := Nat.not_le.mp fun q => hin (Or.inr q)
  exact W.iald (v := .int x) C9.1 C9.2.1 h1 (h2 n f) (fun q => by cases q) (by show ¬ (i < 0 ∨ (arrV _ _ _).slots.size ≤ _); rw [arrV_size]; exact hin) (by show (arrV _ _ _).slots[_]? = _; rw [arrV_read _ _ hlt, hx]) rfl rfl hdg (kk p e s m args below meth c H locs ls C9 hS hE hl)
theorem V_bald {a n : Nat} {f : Nat → Value} {i : Int32} {x : Int32} (hdg : decode cc pc = .ok (.baload, 1)) (hc : G a = some (.inr (.byte, n, f))) (hin : vp_in i n) (hx : f i.toNatClampNeg = .int x) (kk : V D s0 own mn cc nL ret hh l R Z (pc + 1) lo (.int x :: st) G cells slots) : V D s0 own mn cc nL ret hh l R Z pc lo (.int i :: .ref a :: st) G cells slots := by
  intro p e s m args below meth c H locs ls C9 hS hE hl
  obtain ⟨hB, cA, h1, h2, h3⟩ := hE a _ hc
  dsimp only at h1 h2 h3
  have hlt : i.toNatClampNeg < n := Nat.not_le.mp fun q => hin (Or.inr q)
  exact W.bald (v := .int x) C9.1 C9.2.1 h1 (h2 n f) (fun q => by cases q) (by show ¬ (i < 0 ∨ (arrV _ _ _).slots.size ≤ _); rw [arrV_size]; exact hin) (by show (arrV _ _ _).slots[_]? = _; rw [arrV_read _ _ hlt, hx]) rfl rfl hdg (kk p e s m args below meth c H locs ls C9 hS hE hl)
theorem V_zald {a n : Nat} {f : Nat → Value} {i : Int32} {x : Int32} (hdg : decode cc pc = .ok (.baload, 1)) (hc : G a = some (.inr (.boolean, n, f))) (hin : vp_in i n) (hx : f i.toNatClampNeg = .int x) (kk : V D s0 own mn cc nL ret hh l R Z (pc + 1) lo (.int x :: st) G cells slots) : V D s0 own mn cc nL ret hh l R Z pc lo (.int i :: .ref a :: st) G cells slots := by
  intro p e s m args below meth c H locs ls C9 hS hE hl
  obtain ⟨hB, cA, h1, h2, h3⟩ := hE a _ hc
  dsimp only at h1 h2 h3
  have hlt : i.toNatClampNeg < n := Nat.not_le.mp fun q => hin (Or.inr q)
  exact W.zald (v := .int x) C9.1 C9.2.1 h1 (h2 n f) (fun q => by cases q) (by show ¬ (i < 0 ∨ (arrV _ _ _).slots.size ≤ _); rw [arrV_size]; exact hin) (by show (arrV _ _ _).slots[_]? = _; rw [arrV_read _ _ hlt, hx]) rfl rfl hdg (kk p e s m args below meth c H locs ls C9 hS hE hl)
theorem V_cald {a n : Nat} {f : Nat → Value} {i : Int32} {x : Int32} (hdg : decode cc pc = .ok (.caload, 1)) (hc : G a = some (.inr (.char, n, f))) (hin : vp_in i n) (hx : f i.toNatClampNeg = .int x) (kk : V D s0 own mn cc nL ret hh l R Z (pc + 1) lo (.int x :: st) G cells slots) : V D s0 own mn cc nL ret hh l R Z pc lo (.int i :: .ref a :: st) G cells slots := by
  intro p e s m args below meth c H locs ls C9 hS hE hl
  obtain ⟨hB, cA, h1, h2, h3⟩ := hE a _ hc
  dsimp only at h1 h2 h3
  have hlt : i.toNatClampNeg < n := Nat.not_le.mp fun q => hin (Or.inr q)
  exact W.cald (v := .int x) C9.1 C9.2.1 h1 (h2 n f) (fun q => by cases q) (by show ¬ (i < 0 ∨ (arrV _ _ _).slots.size ≤ _); rw [arrV_size]; exact hin) (by show (arrV _ _ _).slots[_]? = _; rw [arrV_read _ _ hlt, hx]) rfl rfl hdg (kk p e s m args below meth c H locs ls C9 hS hE hl)
theorem V_lald {a n : Nat} {f : Nat → Value} {i : Int32} {x : Int64} (hdg : decode cc pc = .ok (.laload, 1)) (hc : G a = some (.inr (.long, n, f))) (hin : vp_in i n) (hx : f i.toNatClampNeg = .long x) (kk : V D s0 own mn cc nL ret hh l R Z (pc + 1) lo (.long x :: st) G cells slots) : V D s0 own mn cc nL ret hh l R Z pc lo (.int i :: .ref a :: st) G cells slots := by
  intro p e s m args below meth c H locs ls C9 hS hE hl
  obtain ⟨hB, cA, h1, h2, h3⟩ := hE a _ hc
  dsimp only at h1 h2 h3
  have hlt : i.toNatClampNeg < n := Nat.not_le.mp fun q => hin (Or.inr q)
  exact W.lald (v := .long x) C9.1 C9.2.1 h1 (h2 n f) (fun q => by cases q) (by show ¬ (i < 0 ∨ (arrV _ _ _).slots.size ≤ _); rw [arrV_size]; exact hin) (by show (arrV _ _ _).slots[_]? = _; rw [arrV_read _ _ hlt, hx]) rfl rfl hdg (kk p e s m args below meth c H locs ls C9 hS hE hl)
theorem V_dald {a n : Nat} {f : Nat → Value} {i : Int32} {x : UInt64} (hdg : decode cc pc = .ok (.daload, 1)) (hc : G a = some (.inr (.double, n, f))) (hin : vp_in i n) (hx : f i.toNatClampNeg = .double x) (kk : V D s0 own mn cc nL ret hh l R Z (pc + 1) lo (.double x :: st) G cells slots) : V D s0 own mn cc nL ret hh l R Z pc lo (.int i :: .ref a :: st) G cells slots := by
  intro p e s m args below meth c H locs ls C9 hS hE hl
  obtain ⟨hB, cA, h1, h2, h3⟩ := hE a _ hc
  dsimp only at h1 h2 h3
  have hlt : i.toNatClampNeg < n := Nat.not_le.mp fun q => hin (Or.inr q)
  exact W.dald (v := .double x) C9.1 C9.2.1 h1 (h2 n f) (fun q => by cases q) (by show ¬ (i < 0 ∨ (arrV _ _ _).slots.size ≤ _); rw [arrV_size]; exact hin) (by show (arrV _ _ _).slots[_]? = _; rw [arrV_read _ _ hlt, hx]) rfl rfl hdg (kk p e s m args below meth c H locs ls C9 hS hE hl)
theorem V_aald {a n : Nat} {ty : FieldType} {f : Nat → Value} {i : Int32} {v : Value} (hdg : decode cc pc = .ok (.aaload, 1)) (hc : G a = some (.inr (ty, n, f))) (hr : ty.isReference = true) (hin : vp_in i n) (hx : f i.toNatClampNeg = v) (kk : V D s0 own mn cc nL ret hh l R Z (pc + 1) lo (v :: st) G cells slots) : V D s0 own mn cc nL ret hh l R Z pc lo (.int i :: .ref a :: st) G cells slots := by
  intro p e s m args below meth c H locs ls C9 hS hE hl
  obtain ⟨hB, cA, h1, h2, h3⟩ := hE a _ hc
  dsimp only at h1 h2 h3
  have hlt : i.toNatClampNeg < n := Nat.not_le.mp fun q => hin (Or.inr q)
  exact W.aald (v := v) (ty := ty) C9.1 C9.2.1 h1 (h2 n f) hr (fun q => by cases q) (by show ¬ (i < 0 ∨ (arrV _ _ _).slots.size ≤ _); rw [arrV_size]; exact hin) (by show (arrV _ _ _).slots[_]? = _; rw [arrV_read _ _ hlt, hx]) rfl rfl hdg (kk p e s m args below meth c H locs ls C9 hS hE hl)
theorem V_iast {a n : Nat} {f : Nat → Value} {i : Int32} {x : Int32} (hdg : decode cc pc = .ok (.iastore, 1)) (hc : G a = some (.inr (.int, n, f))) (hin : vp_in i n) (kk : V D s0 own mn cc nL ret hh l R Z (pc + 1) lo st (gset G a (.inr (.int, n, updV f i.toNatClampNeg (.int x)))) cells slots) : V D s0 own mn cc nL ret hh l R Z pc lo (.int x :: .int i :: .ref a :: st) G cells slots := by
  intro p e s m args below meth c H locs ls C9 hS hE hl
  obtain ⟨hB, cA, h1, h2, h3⟩ := hE a _ hc
  dsimp only at h1 h2 h3
  refine W.iast C9.1 C9.2.1 h1 (h2 n f) (fun q => by cases q) (by show ¬ (i < 0 ∨ (arrV _ _ _).slots.size ≤ _); rw [arrV_size]; exact hin) rfl rfl hdg fun H1 e1 z oq => ?_
  refine kk p e s m args below meth c H1 _ ls C9 (hS.put z oq hB) (hE.set hB ⟨cA, ?_, h2, h3⟩ oq) hl
  rw [e1, arrV_store]
  try rfl
theorem V_cast {a n : Nat} {f : Nat → Value} {i : Int32} {x : Int32} (hdg : decode cc pc = .ok (.castore, 1)) (hc : G a = some (.inr (.char, n, f))) (hin : vp_in i n) (kk : V D s0 own mn cc nL ret hh l R Z (pc + 1) lo st (gset G a (.inr (.char, n, updV f i.toNatClampNeg (narrow .char (.int x))))) cells slots) : V D s0 own mn cc nL ret hh l R Z pc lo (.int x :: .int i :: .ref a :: st) G cells slots := by
  intro p e s m args below meth c H locs ls C9 hS hE hl
  obtain ⟨hB, cA, h1, h2, h3⟩ := hE a _ hc
  dsimp only at h1 h2 h3
  refine W.cast C9.1 C9.2.1 h1 (h2 n f) (fun q => by cases q) (by show ¬ (i < 0 ∨ (arrV _ _ _).slots.size ≤ _); rw [arrV_size]; exact hin) rfl rfl hdg fun H1 e1 z oq => ?_
  refine kk p e s m args below meth c H1 _ ls C9 (hS.put z oq hB) (hE.set hB ⟨cA, ?_, h2, h3⟩ oq) hl
  rw [e1, arrV_store]
  try rfl
theorem V_last {a n : Nat} {f : Nat → Value} {i : Int32} {x : Int64} (hdg : decode cc pc = .ok (.lastore, 1)) (hc : G a = some (.inr (.long, n, f))) (hin : vp_in i n) (kk : V D s0 own mn cc nL ret hh l R Z (pc + 1) lo st (gset G a (.inr (.long, n, updV f i.toNatClampNeg (.long x)))) cells slots) : V D s0 own mn cc nL ret hh l R Z pc lo (.long x :: .int i :: .ref a :: st) G cells slots := by
  intro p e s m args below meth c H locs ls C9 hS hE hl
  obtain ⟨hB, cA, h1, h2, h3⟩ := hE a _ hc
  dsimp only at h1 h2 h3
  refine W.last C9.1 C9.2.1 h1 (h2 n f) (fun q => by cases q) (by show ¬ (i < 0 ∨ (arrV _ _ _).slots.size ≤ _); rw [arrV_size]; exact hin) rfl rfl hdg fun H1 e1 z oq => ?_
  refine kk p e s m args below meth c H1 _ ls C9 (hS.put z oq hB) (hE.set hB ⟨cA, ?_, h2, h3⟩ oq) hl
  rw [e1, arrV_store]
  try rfl
theorem V_dast {a n : Nat} {f : Nat → Value} {i : Int32} {x : UInt64} (hdg : decode cc pc = .ok (.dastore, 1)) (hc : G a = some (.inr (.double, n, f))) (hin : vp_in i n) (kk : V D s0 own mn cc nL ret hh l R Z (pc + 1) lo st (gset G a (.inr (.double, n, updV f i.toNatClampNeg (.double x)))) cells slots) : V D s0 own mn cc nL ret hh l R Z pc lo (.double x :: .int i :: .ref a :: st) G cells slots := by
  intro p e s m args below meth c H locs ls C9 hS hE hl
  obtain ⟨hB, cA, h1, h2, h3⟩ := hE a _ hc
  dsimp only at h1 h2 h3
  refine W.dast C9.1 C9.2.1 h1 (h2 n f) (fun q => by cases q) (by show ¬ (i < 0 ∨ (arrV _ _ _).slots.size ≤ _); rw [arrV_size]; exact hin) rfl rfl hdg fun H1 e1 z oq => ?_
  refine kk p e s m args below meth c H1 _ ls C9 (hS.put z oq hB) (hE.set hB ⟨cA, ?_, h2, h3⟩ oq) hl
  rw [e1, arrV_store]
  try rfl
theorem V_aast {a n b ci : Nat} {f : Nat → Value} {i : Int32} {r : vw_C} {vs : List Value} (hdg : decode cc pc = .ok (.aastore, 1)) (hc : G a = some (.inr (.object r.1, n, f))) (hb : G b = some (.inl (ci, vs))) (hr : cls9[ci]? = some r) (hin : vp_in i n) (kk : V D s0 own mn cc nL ret hh l R Z (pc + 1) lo st (gset G a (.inr (.object r.1, n, updV f i.toNatClampNeg (.ref b)))) cells slots) : V D s0 own mn cc nL ret hh l R Z pc lo (.ref b :: .int i :: .ref a :: st) G cells slots := by
  intro p e s m args below meth c H locs ls C9 hS hE hl
  obtain ⟨hB, cA, h1, h2, h3⟩ := hE a _ hc
  dsimp only at h1 h2 h3
  obtain ⟨-, r', hr', cellV, g1, g2, g3, -⟩ := hE b _ hb
  have hlt : i.toNatClampNeg < n := Nat.not_le.mp fun q => hin (Or.inr q)
  have h0 : ¬ i < 0 := fun q => hin (Or.inl q)
  have hcls := ((C9.2.2.2.2.2.2.2.2.2.2).1 ci r hr).2
  obtain ⟨kA, comp, k1, k2, k3, k4⟩ := h3
  have hcomp : comp = D.1 ci := Option.some.inj (k3.symm.trans hcls.1)
  subst hcomp
  obtain ⟨kC, hkC, -⟩ := hcls.2
  refine W.aast C9.1 C9.2.1 h1 (fun q h => by cases h) (fun h => by cases h) k1 k2 rfl hkC ⟨h0, by show _ < (arrV _ _ _).slots.size; rw [arrV_size]; exact hlt⟩ g1 (fun q h => by rw [g3] at h; cases h) (by rw [g2]; exact hkC) (by rw [g2]; exact va_assign hcls) rfl rfl hdg fun H1 e1 z oq => ?_
  refine kk p e s m args below meth c H1 _ ls C9 (hS.put z oq hB) (hE.set hB ⟨cA, ?_, h2, ⟨kA, _, k1, k2, k3, k4⟩⟩ oq) hl
  rw [e1, arrV_store]
  try rfl
theorem V_alen {a n : Nat} {ty : FieldType} {f : Nat → Value} {v : Int32} (hdg : decode cc pc = .ok (.arraylength, 1)) (hc : G a = some (.inr (ty, n, f))) (hv : Int32.ofNat n = v) (kk : V D s0 own mn cc nL ret hh l R Z (pc + 1) lo (.int v :: st) G cells slots) : V D s0 own mn cc nL ret hh l R Z pc lo (.ref a :: st) G cells slots := by
  intro p e s m args below meth c H locs ls C9 hS hE hl
  obtain ⟨hB, cA, h1, h2, h3⟩ := hE a _ hc
  dsimp only at h1 h2 h3
  exact W.alen (n := v) C9.1 C9.2.1 h1 (h2 n f) (by rw [arrV_size]; exact hv) rfl rfl hdg (kk p e s m args below meth c H locs ls C9 hS hE hl)
theorem V_newa {atype : ArrayType} {ty : FieldType} {n : Int32} {N : Nat} (hdg : decode cc pc = .ok (.newarray atype, 2)) (hw : Cond.arrayClass (newarray.typeOf atype) ∈ WT) (hty : newarray.typeOf atype = ty) (hn : ¬ n < 0) (hN : n.toNatClampNeg = N) (hbytes : N * componentBytes ty ≤ 536870912) (hcells : cells + 1 ≤ R.cells) (hslots : slots + N ≤ R.slots) (hob : ∀ C, ty ≠ .object C) (kk : ∀ q : Nat, s0.heap.size ≤ q → G q = none → V D s0 own mn cc nL ret hh l R Z (pc + 2) lo (.ref q :: st) (gset G q (.inr (ty, N, fun _ => defaultValue ty))) (cells + 1) (slots + N)) : V D s0 own mn cc nL ret hh l R Z pc lo (.int n :: st) G cells slots := by
  intro p e s m args below meth c H locs ls C9 hS hE hl
  subst hty
  refine va_newaK C9.1 C9.2.1 (C9.2.2.2.2.2.1 _ hw) rfl hdg rfl hn hN hbytes hcells hslots rfl fun H1 cA e1 z1 o1 hAr hNm => ?_
  have hsz : s0.heap.size ≤ H.size := Nat.le_trans C9.2.2.2.2.2.2.2.2.2.1.2.1 hS.1
  refine kk H.size hsz hE.fresh p e s m args below meth c H1 locs ls C9 ⟨Nat.le_trans hS.1 (by omega), fun x h1 h2 => (o1 x (Nat.lt_of_lt_of_le h1 hS.1)).trans (hS.2.1 x h1 h2), hS.2.2⟩ (hE.new hsz ⟨cA, e1, hAr, ?_⟩ o1) hl
  cases atype <;> exact hNm
theorem V_newq {index : Nat} {C : String} {n : Int32} {N : Nat} (hdg : decode cc pc = .ok (.anewarray index, 3)) (hw : Cond.classLink own index C ∈ WT) (hw2 : Cond.arrayOver (.object C) ∈ WT) (hn : ¬ n < 0) (hN : n.toNatClampNeg = N) (hbytes : N * 4 ≤ 536870912) (hcells : cells + 1 ≤ R.cells) (hslots : slots + N ≤ R.slots) (kk : ∀ q : Nat, s0.heap.size ≤ q → G q = none → V D s0 own mn cc nL ret hh l R Z (pc + 3) lo (.ref q :: st) (gset G q (.inr (.object C, N, fun _ => .null))) (cells + 1) (slots + N)) : V D s0 own mn cc nL ret hh l R Z pc lo (.int n :: st) G cells slots := by
  intro p e s m args below meth c H locs ls C9 hS hE hl
  have hAO : va_AO C s := by
    have h9 := C9.2.2.2.2.2.1 _ hw2
    exact word_at (State.WarmedH.refl s) (wt_good hw2).2 h9
  subst hN
  refine W.anew C9.1 C9.2.1 C9.2.2.2.2.1 (C9.2.2.2.2.2.1 _ hw) (va_AO.use hAO) rfl hdg rfl hn hbytes hcells hslots fun cA kA comp f1 f2 f3 f4 => ?_
  generalize hH1 : H.push ({ cls := cA, slots := Array.replicate n.toNatClampNeg .null, vm := .none } : Cell) = H1
  have z1 : H1.size = H.size + 1 := by rw [← hH1, Array.size_push]
  have e1 : H1[H.size]? = some (arrV cA n.toNatClampNeg (fun _ => .null)) := by rw [← hH1, Array.getElem?_push_size, ← arrV_new]
  have o1 : ∀ q : Nat, q < H.size → H1[q]? = H[q]? := fun q hq => by rw [← hH1, Array.getElem?_push, if_neg (Nat.ne_of_lt hq)]
  have hAr : ArrOfT s cA (.object C) := fun N z => ⟨(fun k h => by cases h), kA, f2, comp, f3⟩
  have hsz : s0.heap.size ≤ H.size := Nat.le_trans C9.2.2.2.2.2.2.2.2.2.1.2.1 hS.1
  exact kk H.size hsz hE.fresh p e s m args below meth c H1 locs ls C9 ⟨Nat.le_trans hS.1 (by omega), fun x h1 h2 => (o1 x (Nat.lt_of_lt_of_le h1 hS.1)).trans (hS.2.1 x h1 h2), hS.2.2⟩ (hE.new hsz ⟨cA, e1, hAr, ⟨kA, comp, f2, f3, f4, f1⟩⟩ o1) hl

theorem V_new {index ci N : Nat} {C : String} {T : u_T} {ty : Nat → FieldType} {fs : List Value} (hdg : decode cc pc = .ok (.new index, 3)) (hcl : cls9[ci]? = some (C, T, N)) (hin : ∀ w ∈ u_ws C T N, w ∈ WT) (hty : ∀ k, k < N → parseFieldDescriptor (T k).2.2.1 = some (ty k)) (hw : Cond.classLink own index C ∈ WT) (hw2 : Cond.instantiable C N ∈ WT) (hw3 : Cond.initialized C ∈ WT) (hfs : ∀ j, j < N → defaultValue (ty j) = vp_V fs j) (hcells : cells + 1 ≤ R.cells) (hslots : slots + N ≤ R.slots) (kk : ∀ q : Nat, s0.heap.size ≤ q → G q = none → V D s0 own mn cc nL ret hh l R Z (pc + 3) lo (.ref q :: st) (gset G q (.inl (ci, fs))) (cells + 1) (slots + N)) : V D s0 own mn cc nL ret hh l R Z pc lo st G cells slots := by
  intro p e s m args below meth c H locs ls C9 hS hE hl
  have hts := C9.2.2.2.2.2.1
  have hKn := (C9.2.2.2.2.2.2.2.2.2.2).1 ci _ hcl
  refine W.newcK C9.1 C9.2.1 C9.2.2.2.2.1 (hts _ hw) (hts _ hw2) (hts _ hw3) rfl hdg hcells hslots hKn.2.1 rfl fun H1 kC hkC e1 z1 o1 => ?_
  have hsz : s0.heap.size ≤ H.size := Nat.le_trans C9.2.2.2.2.2.2.2.2.2.1.2.1 hS.1
  exact kk H.size hsz hE.fresh p e s m args below meth c H1 locs ls C9 ⟨Nat.le_trans hS.1 (by omega), fun x h1 h2 => (o1 x (Nat.lt_of_lt_of_le h1 hS.1)).trans (hS.2.1 x h1 h2), hS.2.2⟩ (hE.new hsz ⟨_, hcl, (u_born ty hts hin hKn hkC e1 hty).to hfs⟩ o1) hl
theorem V_objInit {idx a : Nat} (hdg : decode cc pc = .ok (.invokespecial idx, 3)) (h1 : Cond.methodLink own idx Lib.objectInit ∈ WT) (h2 : Cond.instanceMethod Lib.objectInit ∈ WT) (h3 : Cond.code Lib.objectInit ⟨#[0xb1]⟩ 1 none ∈ WT) (hfr : 1 ≤ R.frames) (hlo : (st.map fun v => v.category).sum + 12 ≤ R.locals) (kk : V D s0 own mn cc nL ret hh l R Z (pc + 3) lo st G cells slots) : V D s0 own mn cc nL ret hh l R Z pc lo (.ref a :: st) G cells slots := by
  intro p e s m args below meth c H locs ls C9 hS hE hl
  have hts := C9.2.2.2.2.2.1
  refine W.objInit C9.1 C9.2.1 C9.2.2.2.2.1 (hts _ h1) (hts _ h2) (hts _ h3) rfl (by rw [C9.2.2.1]; exact hl.1) rfl hdg hfr (by show 2 * JFrame.monitorRoom _ + _ + 12 ≤ _; simpa [JFrame.monitorRoom] using hlo) ?_
  exact kk p e s m args below meth c H locs ls C9 hS hE hl
theorem V_iret {d mc ms : Nat} {Post : Option Value → GH → Prop} {PX : String → GH → Prop} {v : Int32} (hdg : decode cc pc = .ok (.ireturn, 1)) (hr : ret = some .int) (hc : cells ≤ mc) (hs : slots ≤ ms) (hp : Post (some (.int v)) G) : V D s0 own mn cc nL ret hh l (rmd d mc ms) (Zm D s0 mc ms Post PX) pc lo [.int v] G cells slots :=
  fun p e s m args below meth c H locs ls C9 hS hE hl => W.widen hc hs (vx_ret (W.iret C9.1 C9.2.1 (C9.2.2.2.1.trans hr) (fun t ht hW => ⟨_, G, rfl, hp, by rw [ht]; exact Emb.moved hW.alike hE, hS.F ht⟩) hS.2.2 hdg C9.2.2.2.2.2.2.1))
theorem V_lret {d mc ms : Nat} {Post : Option Value → GH → Prop} {PX : String → GH → Prop} {v : Int64} (hdg : decode cc pc = .ok (.lreturn, 1)) (hr : ret = some .long) (hc : cells ≤ mc) (hs : slots ≤ ms) (hp : Post (some (.long v)) G) : V D s0 own mn cc nL ret hh l (rmd d mc ms) (Zm D s0 mc ms Post PX) pc lo [.long v] G cells slots :=
  fun p e s m args below meth c H locs ls C9 hS hE hl => W.widen hc hs (vx_ret (W.lret C9.1 C9.2.1 (C9.2.2.2.1.trans hr) (fun t ht hW => ⟨_, G, rfl, hp, by rw [ht]; exact Emb.moved hW.alike hE, hS.F ht⟩) hS.2.2 hdg C9.2.2.2.2.2.2.1))
theorem V_fret {d mc ms : Nat} {Post : Option Value → GH → Prop} {PX : String → GH → Prop} {v : UInt32} (hdg : decode cc pc = .ok (.freturn, 1)) (hr : ret = some .float) (hc : cells ≤ mc) (hs : slots ≤ ms) (hp : Post (some (.float v)) G) : V D s0 own mn cc nL ret hh l (rmd d mc ms) (Zm D s0 mc ms Post PX) pc lo [.float v] G cells slots :=
  fun p e s m args below meth c H locs ls C9 hS hE hl => W.widen hc hs (vx_ret (W.fret C9.1 C9.2.1 (C9.2.2.2.1.trans hr) (fun t ht hW => ⟨_, G, rfl, hp, by rw [ht]; exact Emb.moved hW.alike hE, hS.F ht⟩) hS.2.2 hdg C9.2.2.2.2.2.2.1))
theorem V_dret {d mc ms : Nat} {Post : Option Value → GH → Prop} {PX : String → GH → Prop} {v : UInt64} (hdg : decode cc pc = .ok (.dreturn, 1)) (hr : ret = some .double) (hc : cells ≤ mc) (hs : slots ≤ ms) (hp : Post (some (.double v)) G) : V D s0 own mn cc nL ret hh l (rmd d mc ms) (Zm D s0 mc ms Post PX) pc lo [.double v] G cells slots :=
  fun p e s m args below meth c H locs ls C9 hS hE hl => W.widen hc hs (vx_ret (W.dret C9.1 C9.2.1 (C9.2.2.2.1.trans hr) (fun t ht hW => ⟨_, G, rfl, hp, by rw [ht]; exact Emb.moved hW.alike hE, hS.F ht⟩) hS.2.2 hdg C9.2.2.2.2.2.2.1))
theorem V_zret {d mc ms : Nat} {Post : Option Value → GH → Prop} {PX : String → GH → Prop} {v : Int32} {ty : FieldType} (hdg : decode cc pc = .ok (.ireturn, 1)) (hr : ret = some ty) (hn : narrow ty (.int v) = .int v) (hc : cells ≤ mc) (hs : slots ≤ ms) (hp : Post (some (.int v)) G) : V D s0 own mn cc nL ret hh l (rmd d mc ms) (Zm D s0 mc ms Post PX) pc lo [.int v] G cells slots :=
  fun p e s m args below meth c H locs ls C9 hS hE hl => W.widen hc hs (vx_ret (W.zret C9.1 C9.2.1 (C9.2.2.2.1.trans hr) hn (fun t ht hW => ⟨_, G, rfl, hp, by rw [ht]; exact Emb.moved hW.alike hE, hS.F ht⟩) hS.2.2 hdg C9.2.2.2.2.2.2.1))
theorem V_vret {d mc ms : Nat} {Post : Option Value → GH → Prop} {PX : String → GH → Prop} (hdg : decode cc pc = .ok (.return_, 1)) (hr : ret = none) (hc : cells ≤ mc) (hs : slots ≤ ms) (hp : Post none G) : V D s0 own mn cc nL ret hh l (rmd d mc ms) (Zm D s0 mc ms Post PX) pc lo [] G cells slots :=
  fun p e s m args below meth c H locs ls C9 hS hE hl => W.widen hc hs (vx_ret (W.vret C9.1 C9.2.1 (C9.2.2.2.1.trans hr) (fun t ht hW => ⟨_, G, rfl, hp, by rw [ht]; exact Emb.moved hW.alike hE, hS.F ht⟩) hS.2.2 hdg C9.2.2.2.2.2.2.1))
theorem V_aret {d mc ms : Nat} {Post : Option Value → GH → Prop} {PX : String → GH → Prop} {v : Value} {rt : FieldType} (hdg : decode cc pc = .ok (.areturn, 1)) (hr : ret = some rt) (hrt : (∃ n, rt = .object n) ∨ ∃ t, rt = .array t) (hv : v = .null ∨ ∃ a, v = .ref a) (hc : cells ≤ mc) (hs : slots ≤ ms) (hp : Post (some v) G) : V D s0 own mn cc nL ret hh l (rmd d mc ms) (Zm D s0 mc ms Post PX) pc lo [v] G cells slots :=
  fun p e s m args below meth c H locs ls C9 hS hE hl => W.widen hc hs (vx_ret (W.aret C9.1 C9.2.1 (C9.2.2.2.1.trans hr) hrt hv (fun t ht hW => ⟨_, G, rfl, hp, by rw [ht]; exact Emb.moved hW.alike hE, hS.F ht⟩) hS.2.2 hdg C9.2.2.2.2.2.2.1))
/-- behind a call that returns or throws -/
theorem V_run {p : Program} {e : Env} {s : State} {m : MethodId} {args : Array Value} {below : List Frame} {meth : Method} {c : Code} {H : Heap} {locs : List Loc} {ls : Array Slot} {Post : Option Value → GH → Prop} {PX : String → GH → Prop} {mc ms : Nat} {a : Array Value} {st0 : List Value} (C9 : Cx D s0 own mn cc nL ret hh p s m args meth c) (hS : va_S (bA s0) s.heap H locs) (hl : lv_has ls nL lo)
    (hr : vx_Run p l e R s m args below meth c H locs cells slots mc ms (F0 m pc ls st0) st (QcV D s0 Post a) (XcV D s0 PX) (bA s0))
    (kk : ∀ (rv : Option Value) (G' : GH), Post rv G' → V D s0 own mn cc nL ret hh l R Z (pc + 3) lo (rv.toList ++ st) G' (cells + mc) (slots + ms)) (kx : ∀ (E : String) (G' : GH), PX E G' → VX D s0 own mn cc nL ret hh l R Z pc lo st E G' (cells + mc) (slots + ms)) : W p l e R s m args below meth c H locs cells slots (Z below args s) (F0 m pc ls st0) := by
  intro T hT X
  rcases hr T hT X with ⟨v, st₀, t, T', L, h0, X', hL, e1, e2, ⟨rv, G', hv, hp, hb, hF⟩, stp⟩ | ⟨q, st₀, t, T', L, E, ce, h0, X', hL, e1, e2, ⟨G', hp, hb, hF⟩, hce, hcv, hcl, stp⟩
  · cases hv
    obtain ⟨k1, k2, k3⟩ := vx_keep (free := bA s0) h0 e1 hS (fun _ _ h => h) (fun _ h => h) hL hF
    have hal : s.vm.Alike t.vm := by rw [← e2]; exact X'.warmed.alike
    have hE' : Emb D s0.heap.size s G' T'.heap := by rw [e1]; exact Emb.moved hal.symm hb
    obtain ⟨t2, a1, b1⟩ := kk v G' hp p e s m args below meth c T'.heap (locs ++ L) ls C9 k3 hE' hl T' rfl X'
    exact ⟨t2, stp t2 a1, b1⟩
  · obtain ⟨k1, k2, k3⟩ := vx_keep (free := bA s0) h0 e1 hS (fun _ _ h => h) (fun _ h => h) hL hF
    have hal : s.vm.Alike t.vm := by rw [← e2]; exact X'.warmed.alike
    have hE' : Emb D s0.heap.size s G' T'.heap := by rw [e1]; exact Emb.moved hal.symm hb
    obtain ⟨t2, a1, b1⟩ := kx E G' hp p e s m args below meth c T'.heap (locs ++ L) ls q ce C9 k3 hE' hl (by rw [e1]; exact hce) hcv hcl T' rfl X'
    exact ⟨t2, stp.trans a1, b1⟩
theorem pre_S {p : Program} {s : State} {m : MethodId} {args : Array Value} {meth : Method} {c : Code} {H : Heap} {locs : List Loc} {as : List Value} (C9 : Cx D s0 own mn cc nL ret hh p s m args meth c) (hS : va_S (bA s0) s.heap H locs) (hE : Emb D s0.heap.size s G H) : PreS s H (PcV D s0 as G) as :=
  ⟨pc_blind, fun U hU hW => ⟨rfl, Fr.go C9.2.2.2.2.2.2.2.2.2.1 hS hW hU, va_K.moved hW.alike C9.2.2.2.2.2.2.2.2.2.2, by rw [hU]; exact Emb.moved hW.alike hE⟩⟩
theorem pre_V {p : Program} {s : State} {m : MethodId} {args : Array Value} {meth : Method} {c : Code} {H : Heap} {locs : List Loc} {as : List Value} {b ci : Nat} {fs : List Value} {q : vw_C} (C9 : Cx D s0 own mn cc nL ret hh p s m args meth c) (hS : va_S (bA s0) s.heap H locs) (hE : Emb D s0.heap.size s G H) (hb : G b = some (.inl (ci, fs))) (hq : cls9[ci]? = some q) : PreV s H q.1 b (PcV D s0 (.ref b :: as) G) as := by
  obtain ⟨g1, g2⟩ := pre_S (as := .ref b :: as) C9 hS hE
  refine ⟨g1, ?_, g2⟩
  obtain ⟨-, q', h1, cell, e1, e2, e3, -⟩ := hE b _ hb
  exact ⟨cell, e1, by rw [e3]; rfl, by rw [e2]; exact ((C9.2.2.2.2.2.2.2.2.2.2).1 ci q hq).2.1⟩
/-- what a call's site names: a virtual call of y -/
def CV (own : String) (index : Nat) (y : MethodName) (cc' : ByteArray) (nL' : Nat) (ret' : Option FieldType) (n : Nat) : Prop := GoodIn WT (wsV own index y.cls y (.code y cc' nL' ret' :: WT)) ∧ (y.cls ≠ "java/lang/invoke/MethodHandle" ∧ y.cls ≠ "java/lang/invoke/VarHandle" ∧ (parseMethodDescriptor y.desc).map (fun d => d.parameters.length) = some n) ∧ nL' ≤ 300
def CS (own : String) (index : Nat) (y : MethodName) (cc' : ByteArray) (nL' : Nat) (ret' : Option FieldType) (n : Nat) : Prop := GoodIn WT (wsS own index y (.code y cc' nL' ret' :: WT)) ∧ (y.cls = own ∧ y.cls ≠ "java/lang/invoke/MethodHandle" ∧ y.cls ≠ "java/lang/invoke/VarHandle" ∧ (parseMethodDescriptor y.desc).map (fun d => d.parameters.length) = some n) ∧ nL' ≤ 300
theorem rm_ok {R : Room} {d d' nL' mc' ms' : Nat} (hR : 16 * (d + 1) ≤ R.frames ∧ 400 * (d + 1) ≤ R.locals) (hd : d' < d) (hn : nL' ≤ 300) : (rmd d' mc' ms').frames + 1 ≤ R.frames ∧ 8 + (nL' + 11) + (rmd d' mc' ms').locals ≤ R.locals := by
  simp only [rmd]
  omega
theorem V_call {index d d' mc' ms' n ci b nL' : Nat} {y : MethodName} {cc' : ByteArray} {ret' : Option FieldType} {as fs : List Value} {q : vw_C} {Post : Option Value → GH → Prop} {PX : String → GH → Prop} {st0 : List Value} (hC : CV own index y cc' nL' ret' n) (hdg : decode cc pc = .ok (.invokevirtual index, 3)) (hM : Tri D s0 l y cc' nL' ret' d' mc' ms' (.ref b :: as) G Post PX) (hb : G b = some (.inl (ci, fs))) (hq : cls9[ci]? = some q) (hqy : q.1 = y.cls) (hn : as.length = n) (hst : st0 = as.reverse ++ .ref b :: st) (hW : (st.map fun v => v.category).sum ≤ 8) (hR : 16 * (d + 1) ≤ R.frames ∧ 400 * (d + 1) ≤ R.locals) (hd : d' < d) (hf : cells + mc' ≤ R.cells ∧ slots + ms' ≤ R.slots)
    (kk : ∀ (rv : Option Value) (G' : GH), Post rv G' → V D s0 own mn cc nL ret hh l R Z (pc + 3) lo (rv.toList ++ st) G' (cells + mc') (slots + ms')) (kx : ∀ (E : String) (G' : GH), PX E G' → VX D s0 own mn cc nL ret hh l R Z pc lo st E G' (cells + mc') (slots + ms')) : V D s0 own mn cc nL ret hh l R Z pc lo st0 G cells slots := by
  intro p e s m args below meth c H locs ls C9 hS hE hl
  subst hst
  obtain ⟨hG, hy, hn3⟩ := hC
  have hp := pre_V (as := as) C9 hS hE hb hq
  rw [hqy] at hp
  exact V_run C9 hS hl (vx_runV (Ts := WT) ⟨C9.1, C9.2.1, C9.2.2.1, C9.2.2.2.2.1, C9.2.2.2.2.2.1⟩ hM (cwV n C9.2.2.2.2.2.1 hG rfl rfl rfl ⟨rfl, hy⟩ (rm_ok hR hd hn3)) hp rfl hn hl.1 rfl (by simpa [JFrame.monitorRoom] using hW) hdg hf) kk kx
theorem V_calls {index d d' mc' ms' n nL' : Nat} {y : MethodName} {cc' : ByteArray} {ret' : Option FieldType} {as : List Value} {Post : Option Value → GH → Prop} {PX : String → GH → Prop} {st0 : List Value} (hC : CS own index y cc' nL' ret' n) (hdg : decode cc pc = .ok (.invokestatic index, 3)) (hM : Tri D s0 l y cc' nL' ret' d' mc' ms' as G Post PX) (hn : as.length = n) (hst : st0 = as.reverse ++ st) (hW : (st.map fun v => v.category).sum ≤ 8) (hR : 16 * (d + 1) ≤ R.frames ∧ 400 * (d + 1) ≤ R.locals) (hd : d' < d) (hf : cells + mc' ≤ R.cells ∧ slots + ms' ≤ R.slots)
    (kk : ∀ (rv : Option Value) (G' : GH), Post rv G' → V D s0 own mn cc nL ret hh l R Z (pc + 3) lo (rv.toList ++ st) G' (cells + mc') (slots + ms')) (kx : ∀ (E : String) (G' : GH), PX E G' → VX D s0 own mn cc nL ret hh l R Z pc lo st E G' (cells + mc') (slots + ms')) : V D s0 own mn cc nL ret hh l R Z pc lo st0 G cells slots := by
  intro p e s m args below meth c H locs ls C9 hS hE hl
  subst hst
  obtain ⟨hG, hy, hn3⟩ := hC
  exact V_run C9 hS hl (vx_runS (Ts := WT) ⟨C9.1, C9.2.1, C9.2.2.1, C9.2.2.2.2.1, C9.2.2.2.2.2.1⟩ hM (cwS n C9.2.2.2.2.2.1 hG rfl rfl rfl hy (rm_ok hR hd hn3)) (pre_S C9 hS hE) rfl hn hl.1 rfl (by simpa [JFrame.monitorRoom] using hW) hdg hf) kk kx
theorem VX_out {d mc ms : Nat} {Post : Option Value → GH → Prop} {PX : String → GH → Prop} {E : String} (hh0 : hh = []) (hc : cells ≤ mc) (hs : slots ≤ ms) (hp : PX E G) : VX D s0 own mn cc nL ret hh l (rmd d mc ms) (Zm D s0 mc ms Post PX) pc lo st E G cells slots := by
  intro p e s m args below meth c H locs ls q ce C9 hS hE hl hq hv hcl
  have ht : c.exceptionTable.toList = [] := by rw [C9.2.2.2.2.2.2.2.2.1, hh0]; rfl
  exact vx_out (fun x hx => by rw [ht] at hx; cases hx) C9.2.2.2.2.2.2.1 hq hv hcl (fun t ht hvm => ⟨G, hp, by rw [ht]; exact Emb.moved hvm hE, hS.F ht⟩) hS.2.2 hc hs
end VR
end
