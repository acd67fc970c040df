-- ===== PART A: goes FIRST, ahead of the names: the tables' words, and 'selects' of the private methods out of them =====
/-- a private method of a class that the tables say can be made, by its rows of tables_1 -/
def lw_okq (q : MethodName × Nat) : Prop := (q.1.cls ≠ "java/lang/invoke/MethodHandle" ∧ q.1.cls ≠ "java/lang/invoke/VarHandle") ∧ Cond.instantiable q.1.cls q.2 ∈ tables_1 ∧ Cond.privateMethod q.1 ∈ tables_1 ∧ Cond.instanceMethod q.1 ∈ tables_1
theorem lw_p0 : lw_okq (⟨"StorksLet", "housedDays", "(II)I"⟩, 16) := ⟨⟨by decide +kernel, by decide +kernel⟩, List.mem_of_getElem? (i := 28) (by decide +kernel), List.mem_of_getElem? (i := 921) (by decide +kernel), List.mem_of_getElem? (i := 922) (by decide +kernel)⟩
theorem lw_p1 : lw_okq (⟨"StorksLet", "waysAreTooMany", "()Z"⟩, 16) := ⟨⟨by decide +kernel, by decide +kernel⟩, List.mem_of_getElem? (i := 28) (by decide +kernel), List.mem_of_getElem? (i := 951) (by decide +kernel), List.mem_of_getElem? (i := 952) (by decide +kernel)⟩
theorem lw_p2 : lw_okq (⟨"StorksLet", "openWays", "()V"⟩, 16) := ⟨⟨by decide +kernel, by decide +kernel⟩, List.mem_of_getElem? (i := 28) (by decide +kernel), List.mem_of_getElem? (i := 958) (by decide +kernel), List.mem_of_getElem? (i := 959) (by decide +kernel)⟩
theorem lw_p3 : lw_okq (⟨"StorksLet", "bestWheel", "(LStorksLet$Town;II)I"⟩, 16) := ⟨⟨by decide +kernel, by decide +kernel⟩, List.mem_of_getElem? (i := 28) (by decide +kernel), List.mem_of_getElem? (i := 984) (by decide +kernel), List.mem_of_getElem? (i := 985) (by decide +kernel)⟩
theorem lw_p4 : lw_okq (⟨"StorksLet", "livingWithWheel", "(LStorksLet$Town;III)I"⟩, 16) := ⟨⟨by decide +kernel, by decide +kernel⟩, List.mem_of_getElem? (i := 28) (by decide +kernel), List.mem_of_getElem? (i := 988) (by decide +kernel), List.mem_of_getElem? (i := 989) (by decide +kernel)⟩
theorem lw_p5 : lw_okq (⟨"StorksLet", "gainOf", "(LStorksLet$Town;III)I"⟩, 16) := ⟨⟨by decide +kernel, by decide +kernel⟩, List.mem_of_getElem? (i := 28) (by decide +kernel), List.mem_of_getElem? (i := 996) (by decide +kernel), List.mem_of_getElem? (i := 997) (by decide +kernel)⟩
theorem lw_p6 : lw_okq (⟨"StorksLet", "housedDaysUnder", "(III)I"⟩, 16) := ⟨⟨by decide +kernel, by decide +kernel⟩, List.mem_of_getElem? (i := 28) (by decide +kernel), List.mem_of_getElem? (i := 1016) (by decide +kernel), List.mem_of_getElem? (i := 1017) (by decide +kernel)⟩
theorem lw_p7 : lw_okq (⟨"StorksLet", "weightOf", "(II)I"⟩, 16) := ⟨⟨by decide +kernel, by decide +kernel⟩, List.mem_of_getElem? (i := 28) (by decide +kernel), List.mem_of_getElem? (i := 1188) (by decide +kernel), List.mem_of_getElem? (i := 1189) (by decide +kernel)⟩
theorem lw_p8 : lw_okq (⟨"StorksLet", "passDaysWithout", "(II)V"⟩, 16) := ⟨⟨by decide +kernel, by decide +kernel⟩, List.mem_of_getElem? (i := 28) (by decide +kernel), List.mem_of_getElem? (i := 1198) (by decide +kernel), List.mem_of_getElem? (i := 1199) (by decide +kernel)⟩
theorem lw_p9 : lw_okq (⟨"StorksLet", "weighNests", "(II)V"⟩, 16) := ⟨⟨by decide +kernel, by decide +kernel⟩, List.mem_of_getElem? (i := 28) (by decide +kernel), List.mem_of_getElem? (i := 1211) (by decide +kernel), List.mem_of_getElem? (i := 1212) (by decide +kernel)⟩
theorem lw_p10 : lw_okq (⟨"java/lang/Throwable", "fillInStackTrace", "(I)Ljava/lang/Throwable;"⟩, 6) := ⟨⟨by decide +kernel, by decide +kernel⟩, List.mem_of_getElem? (i := 1291) (by decide +kernel), List.mem_of_getElem? (i := 1289) (by decide +kernel), List.mem_of_getElem? (i := 1290) (by decide +kernel)⟩
theorem lw_p11 : lw_okq (⟨"StorksLetModel", "begin", "([BII)V"⟩, 68) := ⟨⟨by decide +kernel, by decide +kernel⟩, List.mem_of_getElem? (i := 1367) (by decide +kernel), List.mem_of_getElem? (i := 1597) (by decide +kernel), List.mem_of_getElem? (i := 1598) (by decide +kernel)⟩
theorem lw_p12 : lw_okq (⟨"StorksLetModel", "fine", "()Z"⟩, 68) := ⟨⟨by decide +kernel, by decide +kernel⟩, List.mem_of_getElem? (i := 1367) (by decide +kernel), List.mem_of_getElem? (i := 1601) (by decide +kernel), List.mem_of_getElem? (i := 1602) (by decide +kernel)⟩
theorem lw_p13 : lw_okq (⟨"StorksLetModel", "here", "()I"⟩, 68) := ⟨⟨by decide +kernel, by decide +kernel⟩, List.mem_of_getElem? (i := 1367) (by decide +kernel), List.mem_of_getElem? (i := 1605) (by decide +kernel), List.mem_of_getElem? (i := 1606) (by decide +kernel)⟩
theorem lw_p14 : lw_okq (⟨"StorksLetModel", "readRoof", "(I)V"⟩, 68) := ⟨⟨by decide +kernel, by decide +kernel⟩, List.mem_of_getElem? (i := 1367) (by decide +kernel), List.mem_of_getElem? (i := 1609) (by decide +kernel), List.mem_of_getElem? (i := 1610) (by decide +kernel)⟩
theorem lw_p15 : lw_okq (⟨"StorksLetModel", "digit", "(II)I"⟩, 68) := ⟨⟨by decide +kernel, by decide +kernel⟩, List.mem_of_getElem? (i := 1367) (by decide +kernel), List.mem_of_getElem? (i := 1613) (by decide +kernel), List.mem_of_getElem? (i := 1614) (by decide +kernel)⟩
def lw_privs_1 : List (MethodName × Nat) := [(⟨"StorksLet", "housedDays", "(II)I"⟩, 16), (⟨"StorksLet", "waysAreTooMany", "()Z"⟩, 16), (⟨"StorksLet", "openWays", "()V"⟩, 16), (⟨"StorksLet", "bestWheel", "(LStorksLet$Town;II)I"⟩, 16), (⟨"StorksLet", "livingWithWheel", "(LStorksLet$Town;III)I"⟩, 16), (⟨"StorksLet", "gainOf", "(LStorksLet$Town;III)I"⟩, 16), (⟨"StorksLet", "housedDaysUnder", "(III)I"⟩, 16), (⟨"StorksLet", "weightOf", "(II)I"⟩, 16), (⟨"StorksLet", "passDaysWithout", "(II)V"⟩, 16), (⟨"StorksLet", "weighNests", "(II)V"⟩, 16), (⟨"java/lang/Throwable", "fillInStackTrace", "(I)Ljava/lang/Throwable;"⟩, 6), (⟨"StorksLetModel", "begin", "([BII)V"⟩, 68), (⟨"StorksLetModel", "fine", "()Z"⟩, 68), (⟨"StorksLetModel", "here", "()I"⟩, 68), (⟨"StorksLetModel", "readRoof", "(I)V"⟩, 68), (⟨"StorksLetModel", "digit", "(II)I"⟩, 68)]
theorem lw_r1 : ∀ q ∈ lw_privs_1, lw_okq q := List.forall_mem_cons.mpr ⟨lw_p0, List.forall_mem_cons.mpr ⟨lw_p1, List.forall_mem_cons.mpr ⟨lw_p2, List.forall_mem_cons.mpr ⟨lw_p3, List.forall_mem_cons.mpr ⟨lw_p4, List.forall_mem_cons.mpr ⟨lw_p5, List.forall_mem_cons.mpr ⟨lw_p6, List.forall_mem_cons.mpr ⟨lw_p7, List.forall_mem_cons.mpr ⟨lw_p8, List.forall_mem_cons.mpr ⟨lw_p9, List.forall_mem_cons.mpr ⟨lw_p10, List.forall_mem_cons.mpr ⟨lw_p11, List.forall_mem_cons.mpr ⟨lw_p12, List.forall_mem_cons.mpr ⟨lw_p13, List.forall_mem_cons.mpr ⟨lw_p14, List.forall_mem_cons.mpr ⟨lw_p15, fun _ h => absurd h List.not_mem_nil⟩⟩⟩⟩⟩⟩⟩⟩⟩⟩⟩⟩⟩⟩⟩⟩
theorem lw_p16 : lw_okq (⟨"StorksLetModel", "fault", "(I)V"⟩, 68) := ⟨⟨by decide +kernel, by decide +kernel⟩, List.mem_of_getElem? (i := 1367) (by decide +kernel), List.mem_of_getElem? (i := 1617) (by decide +kernel), List.mem_of_getElem? (i := 1618) (by decide +kernel)⟩
theorem lw_p17 : lw_okq (⟨"StorksLetModel", "passes", "(C)Z"⟩, 68) := ⟨⟨by decide +kernel, by decide +kernel⟩, List.mem_of_getElem? (i := 1367) (by decide +kernel), List.mem_of_getElem? (i := 1621) (by decide +kernel), List.mem_of_getElem? (i := 1622) (by decide +kernel)⟩
theorem lw_p18 : lw_okq (⟨"StorksLetModel", "need", "(C)V"⟩, 68) := ⟨⟨by decide +kernel, by decide +kernel⟩, List.mem_of_getElem? (i := 1367) (by decide +kernel), List.mem_of_getElem? (i := 1625) (by decide +kernel), List.mem_of_getElem? (i := 1626) (by decide +kernel)⟩
theorem lw_p19 : lw_okq (⟨"StorksLetModel", "twoDigits", "()I"⟩, 68) := ⟨⟨by decide +kernel, by decide +kernel⟩, List.mem_of_getElem? (i := 1367) (by decide +kernel), List.mem_of_getElem? (i := 1629) (by decide +kernel), List.mem_of_getElem? (i := 1630) (by decide +kernel)⟩
theorem lw_p20 : lw_okq (⟨"StorksLetModel", "held", "(I)I"⟩, 68) := ⟨⟨by decide +kernel, by decide +kernel⟩, List.mem_of_getElem? (i := 1367) (by decide +kernel), List.mem_of_getElem? (i := 1641) (by decide +kernel), List.mem_of_getElem? (i := 1642) (by decide +kernel)⟩
theorem lw_p21 : lw_okq (⟨"StorksLetModel", "sum", "(I)I"⟩, 68) := ⟨⟨by decide +kernel, by decide +kernel⟩, List.mem_of_getElem? (i := 1367) (by decide +kernel), List.mem_of_getElem? (i := 1645) (by decide +kernel), List.mem_of_getElem? (i := 1646) (by decide +kernel)⟩
theorem lw_p22 : lw_okq (⟨"StorksLetModel", "product", "(I)I"⟩, 68) := ⟨⟨by decide +kernel, by decide +kernel⟩, List.mem_of_getElem? (i := 1367) (by decide +kernel), List.mem_of_getElem? (i := 1649) (by decide +kernel), List.mem_of_getElem? (i := 1650) (by decide +kernel)⟩
theorem lw_p23 : lw_okq (⟨"StorksLetModel", "thing", "(I)I"⟩, 68) := ⟨⟨by decide +kernel, by decide +kernel⟩, List.mem_of_getElem? (i := 1367) (by decide +kernel), List.mem_of_getElem? (i := 1653) (by decide +kernel), List.mem_of_getElem? (i := 1654) (by decide +kernel)⟩
theorem lw_p24 : lw_okq (⟨"StorksLetModel", "letter", "(I[III)I"⟩, 68) := ⟨⟨by decide +kernel, by decide +kernel⟩, List.mem_of_getElem? (i := 1367) (by decide +kernel), List.mem_of_getElem? (i := 1657) (by decide +kernel), List.mem_of_getElem? (i := 1658) (by decide +kernel)⟩
theorem lw_p25 : lw_okq (⟨"StorksLetModel", "followers", "(I)I"⟩, 68) := ⟨⟨by decide +kernel, by decide +kernel⟩, List.mem_of_getElem? (i := 1367) (by decide +kernel), List.mem_of_getElem? (i := 1661) (by decide +kernel), List.mem_of_getElem? (i := 1662) (by decide +kernel)⟩
theorem lw_p26 : lw_okq (⟨"StorksLetModel", "isRoof", "(I)Z"⟩, 68) := ⟨⟨by decide +kernel, by decide +kernel⟩, List.mem_of_getElem? (i := 1367) (by decide +kernel), List.mem_of_getElem? (i := 1669) (by decide +kernel), List.mem_of_getElem? (i := 1670) (by decide +kernel)⟩
theorem lw_p27 : lw_okq (⟨"StorksLetModel", "lost", "()I"⟩, 68) := ⟨⟨by decide +kernel, by decide +kernel⟩, List.mem_of_getElem? (i := 1367) (by decide +kernel), List.mem_of_getElem? (i := 1673) (by decide +kernel), List.mem_of_getElem? (i := 1674) (by decide +kernel)⟩
theorem lw_p28 : lw_okq (⟨"StorksLetModel", "birdOn", "([II)I"⟩, 68) := ⟨⟨by decide +kernel, by decide +kernel⟩, List.mem_of_getElem? (i := 1367) (by decide +kernel), List.mem_of_getElem? (i := 1677) (by decide +kernel), List.mem_of_getElem? (i := 1678) (by decide +kernel)⟩
theorem lw_p29 : lw_okq (⟨"StorksLetModel", "livingOn", "([II)I"⟩, 68) := ⟨⟨by decide +kernel, by decide +kernel⟩, List.mem_of_getElem? (i := 1367) (by decide +kernel), List.mem_of_getElem? (i := 1681) (by decide +kernel), List.mem_of_getElem? (i := 1682) (by decide +kernel)⟩
theorem lw_p30 : lw_okq (⟨"StorksLetModel", "isBird", "(I)Z"⟩, 68) := ⟨⟨by decide +kernel, by decide +kernel⟩, List.mem_of_getElem? (i := 1367) (by decide +kernel), List.mem_of_getElem? (i := 1689) (by decide +kernel), List.mem_of_getElem? (i := 1690) (by decide +kernel)⟩
theorem lw_p31 : lw_okq (⟨"StorksLetModel", "worthOf", "([III)I"⟩, 68) := ⟨⟨by decide +kernel, by decide +kernel⟩, List.mem_of_getElem? (i := 1367) (by decide +kernel), List.mem_of_getElem? (i := 1693) (by decide +kernel), List.mem_of_getElem? (i := 1694) (by decide +kernel)⟩
def lw_privs_2 : List (MethodName × Nat) := [(⟨"StorksLetModel", "fault", "(I)V"⟩, 68), (⟨"StorksLetModel", "passes", "(C)Z"⟩, 68), (⟨"StorksLetModel", "need", "(C)V"⟩, 68), (⟨"StorksLetModel", "twoDigits", "()I"⟩, 68), (⟨"StorksLetModel", "held", "(I)I"⟩, 68), (⟨"StorksLetModel", "sum", "(I)I"⟩, 68), (⟨"StorksLetModel", "product", "(I)I"⟩, 68), (⟨"StorksLetModel", "thing", "(I)I"⟩, 68), (⟨"StorksLetModel", "letter", "(I[III)I"⟩, 68), (⟨"StorksLetModel", "followers", "(I)I"⟩, 68), (⟨"StorksLetModel", "isRoof", "(I)Z"⟩, 68), (⟨"StorksLetModel", "lost", "()I"⟩, 68), (⟨"StorksLetModel", "birdOn", "([II)I"⟩, 68), (⟨"StorksLetModel", "livingOn", "([II)I"⟩, 68), (⟨"StorksLetModel", "isBird", "(I)Z"⟩, 68), (⟨"StorksLetModel", "worthOf", "([III)I"⟩, 68)]
theorem lw_r2 : ∀ q ∈ lw_privs_2, lw_okq q := List.forall_mem_cons.mpr ⟨lw_p16, List.forall_mem_cons.mpr ⟨lw_p17, List.forall_mem_cons.mpr ⟨lw_p18, List.forall_mem_cons.mpr ⟨lw_p19, List.forall_mem_cons.mpr ⟨lw_p20, List.forall_mem_cons.mpr ⟨lw_p21, List.forall_mem_cons.mpr ⟨lw_p22, List.forall_mem_cons.mpr ⟨lw_p23, List.forall_mem_cons.mpr ⟨lw_p24, List.forall_mem_cons.mpr ⟨lw_p25, List.forall_mem_cons.mpr ⟨lw_p26, List.forall_mem_cons.mpr ⟨lw_p27, List.forall_mem_cons.mpr ⟨lw_p28, List.forall_mem_cons.mpr ⟨lw_p29, List.forall_mem_cons.mpr ⟨lw_p30, List.forall_mem_cons.mpr ⟨lw_p31, fun _ h => absurd h List.not_mem_nil⟩⟩⟩⟩⟩⟩⟩⟩⟩⟩⟩⟩⟩⟩⟩⟩
theorem lw_p32 : lw_okq (⟨"StorksLetModel", "isFamily", "(I)Z"⟩, 68) := ⟨⟨by decide +kernel, by decide +kernel⟩, List.mem_of_getElem? (i := 1367) (by decide +kernel), List.mem_of_getElem? (i := 1703) (by decide +kernel), List.mem_of_getElem? (i := 1704) (by decide +kernel)⟩
theorem lw_p33 : lw_okq (⟨"StorksLetModel", "partOf", "(I)[I"⟩, 68) := ⟨⟨by decide +kernel, by decide +kernel⟩, List.mem_of_getElem? (i := 1367) (by decide +kernel), List.mem_of_getElem? (i := 1718) (by decide +kernel), List.mem_of_getElem? (i := 1719) (by decide +kernel)⟩
theorem lw_p34 : lw_okq (⟨"StorksLetModel", "laySide", "(Z)V"⟩, 68) := ⟨⟨by decide +kernel, by decide +kernel⟩, List.mem_of_getElem? (i := 1367) (by decide +kernel), List.mem_of_getElem? (i := 1738) (by decide +kernel), List.mem_of_getElem? (i := 1739) (by decide +kernel)⟩
theorem lw_p35 : lw_okq (⟨"StorksLetModel", "remember", "()V"⟩, 68) := ⟨⟨by decide +kernel, by decide +kernel⟩, List.mem_of_getElem? (i := 1367) (by decide +kernel), List.mem_of_getElem? (i := 1745) (by decide +kernel), List.mem_of_getElem? (i := 1746) (by decide +kernel)⟩
theorem lw_p36 : lw_okq (⟨"StorksLetModel", "goDay", "([I)V"⟩, 68) := ⟨⟨by decide +kernel, by decide +kernel⟩, List.mem_of_getElem? (i := 1367) (by decide +kernel), List.mem_of_getElem? (i := 1749) (by decide +kernel), List.mem_of_getElem? (i := 1750) (by decide +kernel)⟩
theorem lw_p37 : lw_okq (⟨"StorksLetModel", "frostOf", "(I)I"⟩, 68) := ⟨⟨by decide +kernel, by decide +kernel⟩, List.mem_of_getElem? (i := 1367) (by decide +kernel), List.mem_of_getElem? (i := 1753) (by decide +kernel), List.mem_of_getElem? (i := 1754) (by decide +kernel)⟩
theorem lw_p38 : lw_okq (⟨"StorksLetModel", "goal", "([II)I"⟩, 68) := ⟨⟨by decide +kernel, by decide +kernel⟩, List.mem_of_getElem? (i := 1367) (by decide +kernel), List.mem_of_getElem? (i := 1760) (by decide +kernel), List.mem_of_getElem? (i := 1761) (by decide +kernel)⟩
theorem lw_p39 : lw_okq (⟨"StorksLetModel", "tell", "(I)V"⟩, 68) := ⟨⟨by decide +kernel, by decide +kernel⟩, List.mem_of_getElem? (i := 1367) (by decide +kernel), List.mem_of_getElem? (i := 1764) (by decide +kernel), List.mem_of_getElem? (i := 1765) (by decide +kernel)⟩
theorem lw_p40 : lw_okq (⟨"StorksLetModel", "nowhere", "([I)I"⟩, 68) := ⟨⟨by decide +kernel, by decide +kernel⟩, List.mem_of_getElem? (i := 1367) (by decide +kernel), List.mem_of_getElem? (i := 1768) (by decide +kernel), List.mem_of_getElem? (i := 1769) (by decide +kernel)⟩
theorem lw_p41 : lw_okq (⟨"StorksLetModel", "living", "([I)I"⟩, 68) := ⟨⟨by decide +kernel, by decide +kernel⟩, List.mem_of_getElem? (i := 1367) (by decide +kernel), List.mem_of_getElem? (i := 1772) (by decide +kernel), List.mem_of_getElem? (i := 1773) (by decide +kernel)⟩
theorem lw_p42 : lw_okq (⟨"StorksLetModel", "readWork", "(I)V"⟩, 68) := ⟨⟨by decide +kernel, by decide +kernel⟩, List.mem_of_getElem? (i := 1367) (by decide +kernel), List.mem_of_getElem? (i := 1785) (by decide +kernel), List.mem_of_getElem? (i := 1786) (by decide +kernel)⟩
theorem lw_p43 : lw_okq (⟨"StorksLetModel", "work", "(I)Z"⟩, 68) := ⟨⟨by decide +kernel, by decide +kernel⟩, List.mem_of_getElem? (i := 1367) (by decide +kernel), List.mem_of_getElem? (i := 1789) (by decide +kernel), List.mem_of_getElem? (i := 1790) (by decide +kernel)⟩
theorem lw_p44 : lw_okq (⟨"StorksLetModel", "under", "([II)I"⟩, 68) := ⟨⟨by decide +kernel, by decide +kernel⟩, List.mem_of_getElem? (i := 1367) (by decide +kernel), List.mem_of_getElem? (i := 1805) (by decide +kernel), List.mem_of_getElem? (i := 1806) (by decide +kernel)⟩
theorem lw_p45 : lw_okq (⟨"StorksLetModel", "goOn", "(I)V"⟩, 68) := ⟨⟨by decide +kernel, by decide +kernel⟩, List.mem_of_getElem? (i := 1367) (by decide +kernel), List.mem_of_getElem? (i := 1820) (by decide +kernel), List.mem_of_getElem? (i := 1821) (by decide +kernel)⟩
theorem lw_p46 : lw_okq (⟨"StorksLetModel", "beginThen", "()V"⟩, 68) := ⟨⟨by decide +kernel, by decide +kernel⟩, List.mem_of_getElem? (i := 1367) (by decide +kernel), List.mem_of_getElem? (i := 1824) (by decide +kernel), List.mem_of_getElem? (i := 1825) (by decide +kernel)⟩
theorem lw_p47 : lw_okq (⟨"StorksLetModel", "tellNests", "([I)V"⟩, 68) := ⟨⟨by decide +kernel, by decide +kernel⟩, List.mem_of_getElem? (i := 1367) (by decide +kernel), List.mem_of_getElem? (i := 1828) (by decide +kernel), List.mem_of_getElem? (i := 1829) (by decide +kernel)⟩
def lw_privs_3 : List (MethodName × Nat) := [(⟨"StorksLetModel", "isFamily", "(I)Z"⟩, 68), (⟨"StorksLetModel", "partOf", "(I)[I"⟩, 68), (⟨"StorksLetModel", "laySide", "(Z)V"⟩, 68), (⟨"StorksLetModel", "remember", "()V"⟩, 68), (⟨"StorksLetModel", "goDay", "([I)V"⟩, 68), (⟨"StorksLetModel", "frostOf", "(I)I"⟩, 68), (⟨"StorksLetModel", "goal", "([II)I"⟩, 68), (⟨"StorksLetModel", "tell", "(I)V"⟩, 68), (⟨"StorksLetModel", "nowhere", "([I)I"⟩, 68), (⟨"StorksLetModel", "living", "([I)I"⟩, 68), (⟨"StorksLetModel", "readWork", "(I)V"⟩, 68), (⟨"StorksLetModel", "work", "(I)Z"⟩, 68), (⟨"StorksLetModel", "under", "([II)I"⟩, 68), (⟨"StorksLetModel", "goOn", "(I)V"⟩, 68), (⟨"StorksLetModel", "beginThen", "()V"⟩, 68), (⟨"StorksLetModel", "tellNests", "([I)V"⟩, 68)]
theorem lw_r3 : ∀ q ∈ lw_privs_3, lw_okq q := List.forall_mem_cons.mpr ⟨lw_p32, List.forall_mem_cons.mpr ⟨lw_p33, List.forall_mem_cons.mpr ⟨lw_p34, List.forall_mem_cons.mpr ⟨lw_p35, List.forall_mem_cons.mpr ⟨lw_p36, List.forall_mem_cons.mpr ⟨lw_p37, List.forall_mem_cons.mpr ⟨lw_p38, List.forall_mem_cons.mpr ⟨lw_p39, List.forall_mem_cons.mpr ⟨lw_p40, List.forall_mem_cons.mpr ⟨lw_p41, List.forall_mem_cons.mpr ⟨lw_p42, List.forall_mem_cons.mpr ⟨lw_p43, List.forall_mem_cons.mpr ⟨lw_p44, List.forall_mem_cons.mpr ⟨lw_p45, List.forall_mem_cons.mpr ⟨lw_p46, List.forall_mem_cons.mpr ⟨lw_p47, fun _ h => absurd h List.not_mem_nil⟩⟩⟩⟩⟩⟩⟩⟩⟩⟩⟩⟩⟩⟩⟩⟩
theorem lw_p48 : lw_okq (⟨"StorksLetModel", "housed", "([I)I"⟩, 68) := ⟨⟨by decide +kernel, by decide +kernel⟩, List.mem_of_getElem? (i := 1367) (by decide +kernel), List.mem_of_getElem? (i := 1855) (by decide +kernel), List.mem_of_getElem? (i := 1856) (by decide +kernel)⟩
theorem lw_p49 : lw_okq (⟨"StorksLetModel", "restless", "([I)I"⟩, 68) := ⟨⟨by decide +kernel, by decide +kernel⟩, List.mem_of_getElem? (i := 1367) (by decide +kernel), List.mem_of_getElem? (i := 1863) (by decide +kernel), List.mem_of_getElem? (i := 1864) (by decide +kernel)⟩
theorem lw_p50 : lw_okq (⟨"StorksLetModel", "countWays", "()I"⟩, 68) := ⟨⟨by decide +kernel, by decide +kernel⟩, List.mem_of_getElem? (i := 1367) (by decide +kernel), List.mem_of_getElem? (i := 1871) (by decide +kernel), List.mem_of_getElem? (i := 1872) (by decide +kernel)⟩
theorem lw_p51 : lw_okq (⟨"StorksLetModel", "layWay", "(I)Z"⟩, 68) := ⟨⟨by decide +kernel, by decide +kernel⟩, List.mem_of_getElem? (i := 1367) (by decide +kernel), List.mem_of_getElem? (i := 1876) (by decide +kernel), List.mem_of_getElem? (i := 1877) (by decide +kernel)⟩
theorem lw_p52 : lw_okq (⟨"StorksLetModel", "take", "()V"⟩, 68) := ⟨⟨by decide +kernel, by decide +kernel⟩, List.mem_of_getElem? (i := 1367) (by decide +kernel), List.mem_of_getElem? (i := 1880) (by decide +kernel), List.mem_of_getElem? (i := 1881) (by decide +kernel)⟩
theorem lw_p53 : lw_okq (⟨"StorksLetModel", "findWheel", "(II)V"⟩, 68) := ⟨⟨by decide +kernel, by decide +kernel⟩, List.mem_of_getElem? (i := 1367) (by decide +kernel), List.mem_of_getElem? (i := 1892) (by decide +kernel), List.mem_of_getElem? (i := 1893) (by decide +kernel)⟩
theorem lw_p54 : lw_okq (⟨"StorksLetModel", "wheels", "()I"⟩, 68) := ⟨⟨by decide +kernel, by decide +kernel⟩, List.mem_of_getElem? (i := 1367) (by decide +kernel), List.mem_of_getElem? (i := 1900) (by decide +kernel), List.mem_of_getElem? (i := 1901) (by decide +kernel)⟩
theorem lw_p55 : lw_okq (⟨"StorksLetModel", "hasAim", "()Z"⟩, 68) := ⟨⟨by decide +kernel, by decide +kernel⟩, List.mem_of_getElem? (i := 1367) (by decide +kernel), List.mem_of_getElem? (i := 1924) (by decide +kernel), List.mem_of_getElem? (i := 1925) (by decide +kernel)⟩
theorem lw_p56 : lw_okq (⟨"StorksLetModel", "movesLeft", "([I)I"⟩, 68) := ⟨⟨by decide +kernel, by decide +kernel⟩, List.mem_of_getElem? (i := 1367) (by decide +kernel), List.mem_of_getElem? (i := 1928) (by decide +kernel), List.mem_of_getElem? (i := 1929) (by decide +kernel)⟩
theorem lw_p57 : lw_okq (⟨"StorksLetModel", "isMove", "(II)Z"⟩, 68) := ⟨⟨by decide +kernel, by decide +kernel⟩, List.mem_of_getElem? (i := 1367) (by decide +kernel), List.mem_of_getElem? (i := 1932) (by decide +kernel), List.mem_of_getElem? (i := 1933) (by decide +kernel)⟩
theorem lw_p58 : lw_okq (⟨"StorksLetModel", "codeOf", "([I)I"⟩, 68) := ⟨⟨by decide +kernel, by decide +kernel⟩, List.mem_of_getElem? (i := 1367) (by decide +kernel), List.mem_of_getElem? (i := 1940) (by decide +kernel), List.mem_of_getElem? (i := 1941) (by decide +kernel)⟩
theorem lw_p59 : lw_okq (⟨"StorksLetModel", "find", "(III)Z"⟩, 68) := ⟨⟨by decide +kernel, by decide +kernel⟩, List.mem_of_getElem? (i := 1367) (by decide +kernel), List.mem_of_getElem? (i := 1944) (by decide +kernel), List.mem_of_getElem? (i := 1945) (by decide +kernel)⟩
theorem lw_p60 : lw_okq (⟨"StorksLetModel", "tellWay", "(I)I"⟩, 68) := ⟨⟨by decide +kernel, by decide +kernel⟩, List.mem_of_getElem? (i := 1367) (by decide +kernel), List.mem_of_getElem? (i := 1948) (by decide +kernel), List.mem_of_getElem? (i := 1949) (by decide +kernel)⟩
theorem lw_p61 : lw_okq (⟨"StorksLetModel", "layCode", "(I)V"⟩, 68) := ⟨⟨by decide +kernel, by decide +kernel⟩, List.mem_of_getElem? (i := 1367) (by decide +kernel), List.mem_of_getElem? (i := 1952) (by decide +kernel), List.mem_of_getElem? (i := 1953) (by decide +kernel)⟩
theorem lw_p62 : lw_okq (⟨"StorksLetModel", "isSo", "()Z"⟩, 68) := ⟨⟨by decide +kernel, by decide +kernel⟩, List.mem_of_getElem? (i := 1367) (by decide +kernel), List.mem_of_getElem? (i := 1968) (by decide +kernel), List.mem_of_getElem? (i := 1969) (by decide +kernel)⟩
theorem lw_p63 : lw_okq (⟨"StorksLetModel", "partOf", "(II)I"⟩, 68) := ⟨⟨by decide +kernel, by decide +kernel⟩, List.mem_of_getElem? (i := 1367) (by decide +kernel), List.mem_of_getElem? (i := 1984) (by decide +kernel), List.mem_of_getElem? (i := 1985) (by decide +kernel)⟩
def lw_privs_4 : List (MethodName × Nat) := [(⟨"StorksLetModel", "housed", "([I)I"⟩, 68), (⟨"StorksLetModel", "restless", "([I)I"⟩, 68), (⟨"StorksLetModel", "countWays", "()I"⟩, 68), (⟨"StorksLetModel", "layWay", "(I)Z"⟩, 68), (⟨"StorksLetModel", "take", "()V"⟩, 68), (⟨"StorksLetModel", "findWheel", "(II)V"⟩, 68), (⟨"StorksLetModel", "wheels", "()I"⟩, 68), (⟨"StorksLetModel", "hasAim", "()Z"⟩, 68), (⟨"StorksLetModel", "movesLeft", "([I)I"⟩, 68), (⟨"StorksLetModel", "isMove", "(II)Z"⟩, 68), (⟨"StorksLetModel", "codeOf", "([I)I"⟩, 68), (⟨"StorksLetModel", "find", "(III)Z"⟩, 68), (⟨"StorksLetModel", "tellWay", "(I)I"⟩, 68), (⟨"StorksLetModel", "layCode", "(I)V"⟩, 68), (⟨"StorksLetModel", "isSo", "()Z"⟩, 68), (⟨"StorksLetModel", "partOf", "(II)I"⟩, 68)]
theorem lw_r4 : ∀ q ∈ lw_privs_4, lw_okq q := List.forall_mem_cons.mpr ⟨lw_p48, List.forall_mem_cons.mpr ⟨lw_p49, List.forall_mem_cons.mpr ⟨lw_p50, List.forall_mem_cons.mpr ⟨lw_p51, List.forall_mem_cons.mpr ⟨lw_p52, List.forall_mem_cons.mpr ⟨lw_p53, List.forall_mem_cons.mpr ⟨lw_p54, List.forall_mem_cons.mpr ⟨lw_p55, List.forall_mem_cons.mpr ⟨lw_p56, List.forall_mem_cons.mpr ⟨lw_p57, List.forall_mem_cons.mpr ⟨lw_p58, List.forall_mem_cons.mpr ⟨lw_p59, List.forall_mem_cons.mpr ⟨lw_p60, List.forall_mem_cons.mpr ⟨lw_p61, List.forall_mem_cons.mpr ⟨lw_p62, List.forall_mem_cons.mpr ⟨lw_p63, fun _ h => absurd h List.not_mem_nil⟩⟩⟩⟩⟩⟩⟩⟩⟩⟩⟩⟩⟩⟩⟩⟩
theorem lw_p64 : lw_okq (⟨"StorksLetModel", "tellPart", "(I)V"⟩, 68) := ⟨⟨by decide +kernel, by decide +kernel⟩, List.mem_of_getElem? (i := 1367) (by decide +kernel), List.mem_of_getElem? (i := 1988) (by decide +kernel), List.mem_of_getElem? (i := 1989) (by decide +kernel)⟩
def lw_privs_5 : List (MethodName × Nat) := [(⟨"StorksLetModel", "tellPart", "(I)V"⟩, 68)]
theorem lw_r5 : ∀ q ∈ lw_privs_5, lw_okq q := List.forall_mem_cons.mpr ⟨lw_p64, fun _ h => absurd h List.not_mem_nil⟩
def lw_privs : List (MethodName × Nat) := lw_privs_1 ++ (lw_privs_2 ++ (lw_privs_3 ++ (lw_privs_4 ++ (lw_privs_5))))
def lw_tbl : List Cond := k2_sels lw_privs ++ tables_1
theorem lw_privs_ok : ∀ q ∈ lw_privs, lw_okq q := by
  show ∀ q ∈ lw_privs_1 ++ (lw_privs_2 ++ (lw_privs_3 ++ (lw_privs_4 ++ (lw_privs_5)))), lw_okq q
  exact List.forall_mem_append.mpr ⟨lw_r1, List.forall_mem_append.mpr ⟨lw_r2, List.forall_mem_append.mpr ⟨lw_r3, List.forall_mem_append.mpr ⟨lw_r4, lw_r5⟩⟩⟩⟩
def RX0 : String := "StorksLet$History"
def TX0 : u_T := fun k => match k with
  | 0 => ("StorksLet$History", "states", "[[I", true)
  | 1 => ("StorksLet$History", "oldest", "I", false)
  | _ => ("StorksLet$History", "size", "I", false)
def tyX0 : Nat → FieldType := fun k => match k with
  | 0 => .array (.array .int)
  | 1 => .int
  | _ => .int
abbrev wsX00 : List Cond := u_ws RX0 TX0 3
theorem nmX0 : ∀ a, a < 3 → ∀ b, b < 3 → a ≠ b → (TX0 a).2.1 ≠ (TX0 b).2.1 := by decide +kernel
theorem tyX0_ok : ∀ k, k < 3 → parseFieldDescriptor (TX0 k).2.2.1 = some (tyX0 k) := by decide +kernel
abbrev cX0_init : ByteArray := prog_2_method_1_code
def yX0_init : MethodName := ⟨RX0, "<init>", "()V"⟩
abbrev cX0_slot : ByteArray := prog_2_method_2_code
def yX0_slot : MethodName := ⟨RX0, "slot", "()[I"⟩
abbrev cX0_commit : ByteArray := prog_2_method_3_code
def yX0_commit : MethodName := ⟨RX0, "commit", "()V"⟩
abbrev cX0_takeLatest : ByteArray := prog_2_method_4_code
def yX0_takeLatest : MethodName := ⟨RX0, "takeLatest", "()[I"⟩
abbrev cX0_clear : ByteArray := prog_2_method_5_code
def yX0_clear : MethodName := ⟨RX0, "clear", "()V"⟩
def RX1 : String := "StorksLet$Lines"
def TX1 : u_T := fun k => match k with
  | _ => ("", "", "", false)
def tyX1 : Nat → FieldType := fun k => match k with
  | _ => .int
abbrev wsX10 : List Cond := u_ws RX1 TX1 0
theorem nmX1 : ∀ a, a < 0 → ∀ b, b < 0 → a ≠ b → (TX1 a).2.1 ≠ (TX1 b).2.1 := by decide +kernel
theorem tyX1_ok : ∀ k, k < 0 → parseFieldDescriptor (TX1 k).2.2.1 = some (tyX1 k) := by decide +kernel
abbrev cX1_readTown : ByteArray := prog_3_method_2_code
def yX1_readTown : MethodName := ⟨RX1, "readTown", "(LStorksLet$Signs;LStorksLet$Town;)I"⟩
abbrev cX1_readLine : ByteArray := prog_3_method_3_code
def yX1_readLine : MethodName := ⟨RX1, "readLine", "(LStorksLet$Signs;LStorksLet$Town;)Z"⟩
abbrev cX1_readRoof : ByteArray := prog_3_method_4_code
def yX1_readRoof : MethodName := ⟨RX1, "readRoof", "(LStorksLet$Signs;LStorksLet$Town;)Z"⟩
abbrev cX1_readBird : ByteArray := prog_3_method_5_code
def yX1_readBird : MethodName := ⟨RX1, "readBird", "(LStorksLet$Signs;LStorksLet$Town;)Z"⟩
abbrev cX1_readFamily : ByteArray := prog_3_method_6_code
def yX1_readFamily : MethodName := ⟨RX1, "readFamily", "(LStorksLet$Signs;LStorksLet$Town;)Z"⟩
abbrev cX1_readFrost : ByteArray := prog_3_method_7_code
def yX1_readFrost : MethodName := ⟨RX1, "readFrost", "(LStorksLet$Signs;[I)I"⟩
def RX2 : String := "StorksLet$Row"
def TX2 : u_T := fun k => match k with
  | 0 => ("StorksLet$Row", "numbers", "[I", true)
  | _ => ("StorksLet$Row", "size", "I", false)
def tyX2 : Nat → FieldType := fun k => match k with
  | 0 => .array .int
  | _ => .int
abbrev wsX20 : List Cond := u_ws RX2 TX2 2
theorem nmX2 : ∀ a, a < 2 → ∀ b, b < 2 → a ≠ b → (TX2 a).2.1 ≠ (TX2 b).2.1 := by decide +kernel
theorem tyX2_ok : ∀ k, k < 2 → parseFieldDescriptor (TX2 k).2.2.1 = some (tyX2 k) := by decide +kernel
abbrev cX2_init : ByteArray := prog_4_method_1_code
def yX2_init : MethodName := ⟨RX2, "<init>", "()V"⟩
abbrev cX2_clear : ByteArray := prog_4_method_2_code
def yX2_clear : MethodName := ⟨RX2, "clear", "()V"⟩
abbrev cX2_add : ByteArray := prog_4_method_3_code
def yX2_add : MethodName := ⟨RX2, "add", "(I)V"⟩
abbrev cX2_putTwo : ByteArray := prog_4_method_4_code
def yX2_putTwo : MethodName := ⟨RX2, "putTwo", "(II)V"⟩
abbrev cX2_putAll : ByteArray := prog_4_method_5_code
def yX2_putAll : MethodName := ⟨RX2, "putAll", "([II)V"⟩
abbrev cX2_putFraction : ByteArray := prog_4_method_6_code
def yX2_putFraction : MethodName := ⟨RX2, "putFraction", "(II)V"⟩
def RX3 : String := "StorksLet$Rule"
def TX3 : u_T := fun k => match k with
  | 0 => ("StorksLet$Rule", "steps", "[I", true)
  | 1 => ("StorksLet$Rule", "waiting", "[I", true)
  | 2 => ("StorksLet$Rule", "values", "[I", true)
  | 3 => ("StorksLet$Rule", "size", "I", false)
  | 4 => ("StorksLet$Rule", "waits", "I", false)
  | 5 => ("StorksLet$Rule", "depth", "I", false)
  | 6 => ("StorksLet$Rule", "comparedBits", "I", false)
  | 7 => ("StorksLet$Rule", "digits", "I", false)
  | 8 => ("StorksLet$Rule", "wantsThing", "Z", false)
  | 9 => ("StorksLet$Rule", "tellsDay", "Z", false)
  | _ => ("StorksLet$Rule", "tellsNest", "Z", false)
def tyX3 : Nat → FieldType := fun k => match k with
  | 0 => .array .int
  | 1 => .array .int
  | 2 => .array .int
  | 3 => .int
  | 4 => .int
  | 5 => .int
  | 6 => .int
  | 7 => .int
  | 8 => .boolean
  | 9 => .boolean
  | _ => .boolean
abbrev wsX30 : List Cond := u_ws RX3 TX3 11
theorem nmX3 : ∀ a, a < 11 → ∀ b, b < 11 → a ≠ b → (TX3 a).2.1 ≠ (TX3 b).2.1 := by decide +kernel
theorem tyX3_ok : ∀ k, k < 11 → parseFieldDescriptor (TX3 k).2.2.1 = some (tyX3 k) := by decide +kernel
abbrev cX3_init : ByteArray := prog_5_method_1_code
def yX3_init : MethodName := ⟨RX3, "<init>", "()V"⟩
abbrev cX3_read : ByteArray := prog_5_method_2_code
def yX3_read : MethodName := ⟨RX3, "read", "(LStorksLet$Signs;)I"⟩
abbrev cX3_reset : ByteArray := prog_5_method_3_code
def yX3_reset : MethodName := ⟨RX3, "reset", "()V"⟩
abbrev cX3_takeThing : ByteArray := prog_5_method_4_code
def yX3_takeThing : MethodName := ⟨RX3, "takeThing", "(C)Z"⟩
abbrev cX3_takeOpening : ByteArray := prog_5_method_5_code
def yX3_takeOpening : MethodName := ⟨RX3, "takeOpening", "()Z"⟩
abbrev cX3_takeBehind : ByteArray := prog_5_method_6_code
def yX3_takeBehind : MethodName := ⟨RX3, "takeBehind", "(C)Z"⟩
abbrev cX3_takeDigitMore : ByteArray := prog_5_method_7_code
def yX3_takeDigitMore : MethodName := ⟨RX3, "takeDigitMore", "(I)Z"⟩
abbrev cX3_takeClosing : ByteArray := prog_5_method_8_code
def yX3_takeClosing : MethodName := ⟨RX3, "takeClosing", "()Z"⟩
abbrev cX3_bondOf : ByteArray := prog_5_method_9_code
def yX3_bondOf : MethodName := ⟨RX3, "bondOf", "(I)I"⟩
abbrev cX3_settle : ByteArray := prog_5_method_10_code
def yX3_settle : MethodName := ⟨RX3, "settle", "(I)V"⟩
abbrev cX3_put : ByteArray := prog_5_method_11_code
def yX3_put : MethodName := ⟨RX3, "put", "(I)V"⟩
abbrev cX3_hold : ByteArray := prog_5_method_12_code
def yX3_hold : MethodName := ⟨RX3, "hold", "(I)V"⟩
abbrev cX3_valueOf : ByteArray := prog_5_method_13_code
def yX3_valueOf : MethodName := ⟨RX3, "valueOf", "([I)I"⟩
abbrev cX3_joined : ByteArray := prog_5_method_14_code
def yX3_joined : MethodName := ⟨RX3, "joined", "(III)I"⟩
def RX4 : String := "StorksLet$Search"
def TX4 : u_T := fun k => match k with
  | 0 => ("StorksLet$Search", "found", "[I", true)
  | 1 => ("StorksLet$Search", "cameBy", "[I", true)
  | 2 => ("StorksLet$Search", "known", "[I", true)
  | 3 => ("StorksLet$Search", "liked", "[Z", true)
  | 4 => ("StorksLet$Search", "nest", "[I", true)
  | 5 => ("StorksLet$Search", "sitter", "[I", true)
  | 6 => ("StorksLet$Search", "roofs", "I", false)
  | 7 => ("StorksLet$Search", "birds", "I", false)
  | _ => ("StorksLet$Search", "size", "I", false)
def tyX4 : Nat → FieldType := fun k => match k with
  | 0 => .array .int
  | 1 => .array .int
  | 2 => .array .int
  | 3 => .array .boolean
  | 4 => .array .int
  | 5 => .array .int
  | 6 => .int
  | 7 => .int
  | _ => .int
abbrev wsX40 : List Cond := u_ws RX4 TX4 9
theorem nmX4 : ∀ a, a < 9 → ∀ b, b < 9 → a ≠ b → (TX4 a).2.1 ≠ (TX4 b).2.1 := by decide +kernel
theorem tyX4_ok : ∀ k, k < 9 → parseFieldDescriptor (TX4 k).2.2.1 = some (tyX4 k) := by decide +kernel
abbrev cX4_init : ByteArray := prog_6_method_1_code
def yX4_init : MethodName := ⟨RX4, "<init>", "()V"⟩
abbrev cX4_run : ByteArray := prog_6_method_2_code
def yX4_run : MethodName := ⟨RX4, "run", "(LStorksLet$Town;[ILStorksLet$Row;)I"⟩
abbrev cX4_open : ByteArray := prog_6_method_3_code
def yX4_open : MethodName := ⟨RX4, "open", "(LStorksLet$Town;)V"⟩
abbrev cX4_codeOf : ByteArray := prog_6_method_4_code
def yX4_codeOf : MethodName := ⟨RX4, "codeOf", "([I)I"⟩
abbrev cX4_setNests : ByteArray := prog_6_method_5_code
def yX4_setNests : MethodName := ⟨RX4, "setNests", "(I)V"⟩
abbrev cX4_add : ByteArray := prog_6_method_6_code
def yX4_add : MethodName := ⟨RX4, "add", "(II)V"⟩
abbrev cX4_isKnown : ByteArray := prog_6_method_7_code
def yX4_isKnown : MethodName := ⟨RX4, "isKnown", "(I)Z"⟩
abbrev cX4_searchFrom : ByteArray := prog_6_method_8_code
def yX4_searchFrom : MethodName := ⟨RX4, "searchFrom", "(II)I"⟩
abbrev cX4_tellWay : ByteArray := prog_6_method_9_code
def yX4_tellWay : MethodName := ⟨RX4, "tellWay", "(ILStorksLet$Row;)I"⟩
def RX5 : String := "StorksLet$Sightings"
def TX5 : u_T := fun k => match k with
  | 0 => ("StorksLet$Sightings", "bird", "[I", true)
  | 1 => ("StorksLet$Sightings", "roof", "[I", true)
  | 2 => ("StorksLet$Sightings", "after", "[I", true)
  | _ => ("StorksLet$Sightings", "size", "I", false)
def tyX5 : Nat → FieldType := fun k => match k with
  | 0 => .array .int
  | 1 => .array .int
  | 2 => .array .int
  | _ => .int
abbrev wsX50 : List Cond := u_ws RX5 TX5 4
theorem nmX5 : ∀ a, a < 4 → ∀ b, b < 4 → a ≠ b → (TX5 a).2.1 ≠ (TX5 b).2.1 := by decide +kernel
theorem tyX5_ok : ∀ k, k < 4 → parseFieldDescriptor (TX5 k).2.2.1 = some (tyX5 k) := by decide +kernel
abbrev cX5_init : ByteArray := prog_7_method_1_code
def yX5_init : MethodName := ⟨RX5, "<init>", "()V"⟩
abbrev cX5_add : ByteArray := prog_7_method_2_code
def yX5_add : MethodName := ⟨RX5, "add", "(III)Z"⟩
abbrev cX5_longest : ByteArray := prog_7_method_3_code
def yX5_longest : MethodName := ⟨RX5, "longest", "()I"⟩
abbrev cX5_holdIn : ByteArray := prog_7_method_4_code
def yX5_holdIn : MethodName := ⟨RX5, "holdIn", "(LStorksLet$Town;)Z"⟩
def RX6 : String := "StorksLet$Signs"
def TX6 : u_T := fun k => match k with
  | 0 => ("StorksLet$Signs", "signs", "[C", true)
  | 1 => ("StorksLet$Signs", "length", "I", false)
  | 2 => ("StorksLet$Signs", "at", "I", false)
  | _ => ("StorksLet$Signs", "bound", "I", false)
def tyX6 : Nat → FieldType := fun k => match k with
  | 0 => .array .char
  | 1 => .int
  | 2 => .int
  | _ => .int
abbrev wsX60 : List Cond := u_ws RX6 TX6 4
theorem nmX6 : ∀ a, a < 4 → ∀ b, b < 4 → a ≠ b → (TX6 a).2.1 ≠ (TX6 b).2.1 := by decide +kernel
theorem tyX6_ok : ∀ k, k < 4 → parseFieldDescriptor (TX6 k).2.2.1 = some (tyX6 k) := by decide +kernel
abbrev cX6_init : ByteArray := prog_8_method_1_code
def yX6_init : MethodName := ⟨RX6, "<init>", "()V"⟩
abbrev cX6_addFour : ByteArray := prog_8_method_2_code
def yX6_addFour : MethodName := ⟨RX6, "addFour", "(I)Z"⟩
abbrev cX6_cutTo : ByteArray := prog_8_method_3_code
def yX6_cutTo : MethodName := ⟨RX6, "cutTo", "(I)Z"⟩
abbrev cX6_empty : ByteArray := prog_8_method_4_code
def yX6_empty : MethodName := ⟨RX6, "empty", "()V"⟩
abbrev cX6_open : ByteArray := prog_8_method_5_code
def yX6_open : MethodName := ⟨RX6, "open", "(I)V"⟩
abbrev cX6_isReadWhole : ByteArray := prog_8_method_6_code
def yX6_isReadWhole : MethodName := ⟨RX6, "isReadWhole", "()Z"⟩
abbrev cX6_take : ByteArray := prog_8_method_7_code
def yX6_take : MethodName := ⟨RX6, "take", "(C)Z"⟩
abbrev cX6_takeDigit : ByteArray := prog_8_method_8_code
def yX6_takeDigit : MethodName := ⟨RX6, "takeDigit", "(II)I"⟩
abbrev cX6_wrongHere : ByteArray := prog_8_method_9_code
def yX6_wrongHere : MethodName := ⟨RX6, "wrongHere", "()I"⟩
def RX7 : String := "StorksLet$Steps"
def TX7 : u_T := fun k => match k with
  | 0 => ("StorksLet$Steps", "goal", "[I", true)
  | 1 => ("StorksLet$Steps", "draft", "[I", true)
  | 2 => ("StorksLet$Steps", "isSet", "Z", false)
  | 3 => ("StorksLet$Steps", "roofs", "I", false)
  | 4 => ("StorksLet$Steps", "birds", "I", false)
  | 5 => ("StorksLet$Steps", "nest", "[I", true)
  | _ => ("StorksLet$Steps", "sitter", "[I", true)
def tyX7 : Nat → FieldType := fun k => match k with
  | 0 => .array .int
  | 1 => .array .int
  | 2 => .boolean
  | 3 => .int
  | 4 => .int
  | 5 => .array .int
  | _ => .array .int
abbrev wsX70 : List Cond := u_ws RX7 TX7 7
theorem nmX7 : ∀ a, a < 7 → ∀ b, b < 7 → a ≠ b → (TX7 a).2.1 ≠ (TX7 b).2.1 := by decide +kernel
theorem tyX7_ok : ∀ k, k < 7 → parseFieldDescriptor (TX7 k).2.2.1 = some (tyX7 k) := by decide +kernel
abbrev cX7_init : ByteArray := prog_9_method_1_code
def yX7_init : MethodName := ⟨RX7, "<init>", "()V"⟩
abbrev cX7_readGoal : ByteArray := prog_9_method_2_code
def yX7_readGoal : MethodName := ⟨RX7, "readGoal", "(LStorksLet$Signs;LStorksLet$Town;)I"⟩
abbrev cX7_isGoalFor : ByteArray := prog_9_method_3_code
def yX7_isGoalFor : MethodName := ⟨RX7, "isGoalFor", "(LStorksLet$Town;)Z"⟩
abbrev cX7_takeFewest : ByteArray := prog_9_method_4_code
def yX7_takeFewest : MethodName := ⟨RX7, "takeFewest", "(LStorksLet$Town;LStorksLet$Row;)I"⟩
abbrev cX7_takeLeastMove : ByteArray := prog_9_method_5_code
def yX7_takeLeastMove : MethodName := ⟨RX7, "takeLeastMove", "(I)I"⟩
abbrev cX7_move : ByteArray := prog_9_method_6_code
def yX7_move : MethodName := ⟨RX7, "move", "(II)V"⟩
abbrev cX7_distance : ByteArray := prog_9_method_7_code
def yX7_distance : MethodName := ⟨RX7, "distance", "()I"⟩
abbrev cX7_isLeastOfRing : ByteArray := prog_9_method_8_code
def yX7_isLeastOfRing : MethodName := ⟨RX7, "isLeastOfRing", "(I)Z"⟩
def RX8 : String := "StorksLet$Town"
def TX8 : u_T := fun k => match k with
  | 0 => ("StorksLet$Town", "day", "I", false)
  | 1 => ("StorksLet$Town", "roofs", "I", false)
  | 2 => ("StorksLet$Town", "birds", "I", false)
  | 3 => ("StorksLet$Town", "families", "I", false)
  | 4 => ("StorksLet$Town", "house", "[I", true)
  | 5 => ("StorksLet$Town", "strength", "[I", true)
  | 6 => ("StorksLet$Town", "arrival", "[I", true)
  | 7 => ("StorksLet$Town", "nest", "[I", true)
  | 8 => ("StorksLet$Town", "sitter", "[I", true)
  | 9 => ("StorksLet$Town", "ahead", "[I", true)
  | 10 => ("StorksLet$Town", "keeper", "[I", true)
  | 11 => ("StorksLet$Town", "rent", "[I", true)
  | 12 => ("StorksLet$Town", "home", "[I", true)
  | 13 => ("StorksLet$Town", "moved", "[I", true)
  | 14 => ("StorksLet$Town", "owed", "[I", true)
  | 15 => ("StorksLet$Town", "due", "[I", true)
  | 16 => ("StorksLet$Town", "frost", "[I", false)
  | 17 => ("StorksLet$Town", "frosts", "I", false)
  | _ => ("StorksLet$Town", "worths", "LStorksLet$Worths;", true)
def tyX8 : Nat → FieldType := fun k => match k with
  | 0 => .int
  | 1 => .int
  | 2 => .int
  | 3 => .int
  | 4 => .array .int
  | 5 => .array .int
  | 6 => .array .int
  | 7 => .array .int
  | 8 => .array .int
  | 9 => .array .int
  | 10 => .array .int
  | 11 => .array .int
  | 12 => .array .int
  | 13 => .array .int
  | 14 => .array .int
  | 15 => .array .int
  | 16 => .array .int
  | 17 => .int
  | _ => .object "StorksLet$Worths"
abbrev wsX80 : List Cond := u_ws RX8 TX8 19
theorem nmX8 : ∀ a, a < 19 → ∀ b, b < 19 → a ≠ b → (TX8 a).2.1 ≠ (TX8 b).2.1 := by decide +kernel
theorem tyX8_ok : ∀ k, k < 19 → parseFieldDescriptor (TX8 k).2.2.1 = some (tyX8 k) := by decide +kernel
abbrev cX8_init : ByteArray := prog_10_method_1_code
def yX8_init : MethodName := ⟨RX8, "<init>", "()V"⟩
abbrev cX8_copyFrom : ByteArray := prog_10_method_2_code
def yX8_copyFrom : MethodName := ⟨RX8, "copyFrom", "(LStorksLet$Town;)V"⟩
abbrev cX8_isRoof : ByteArray := prog_10_method_3_code
def yX8_isRoof : MethodName := ⟨RX8, "isRoof", "(I)Z"⟩
abbrev cX8_isBird : ByteArray := prog_10_method_4_code
def yX8_isBird : MethodName := ⟨RX8, "isBird", "(I)Z"⟩
abbrev cX8_isFamily : ByteArray := prog_10_method_5_code
def yX8_isFamily : MethodName := ⟨RX8, "isFamily", "(I)Z"⟩
abbrev cX8_sizeMark : ByteArray := prog_10_method_6_code
def yX8_sizeMark : MethodName := ⟨RX8, "sizeMark", "()I"⟩
abbrev cX8_addRoof : ByteArray := prog_10_method_7_code
def yX8_addRoof : MethodName := ⟨RX8, "addRoof", "(IIIII)V"⟩
abbrev cX8_addBird : ByteArray := prog_10_method_8_code
def yX8_addBird : MethodName := ⟨RX8, "addBird", "(II)V"⟩
abbrev cX8_addFamily : ByteArray := prog_10_method_9_code
def yX8_addFamily : MethodName := ⟨RX8, "addFamily", "(II)V"⟩
abbrev cX8_trait : ByteArray := prog_10_method_10_code
def yX8_trait : MethodName := ⟨RX8, "trait", "(II)I"⟩
abbrev cX8_setTrait : ByteArray := prog_10_method_11_code
def yX8_setTrait : MethodName := ⟨RX8, "setTrait", "(III)V"⟩
abbrev cX8_setStrength : ByteArray := prog_10_method_12_code
def yX8_setStrength : MethodName := ⟨RX8, "setStrength", "(II)V"⟩
abbrev cX8_setKeeper : ByteArray := prog_10_method_13_code
def yX8_setKeeper : MethodName := ⟨RX8, "setKeeper", "(II)V"⟩
abbrev cX8_owedTo : ByteArray := prog_10_method_14_code
def yX8_owedTo : MethodName := ⟨RX8, "owedTo", "(II)I"⟩
abbrev cX8_setOwed : ByteArray := prog_10_method_15_code
def yX8_setOwed : MethodName := ⟨RX8, "setOwed", "(III)V"⟩
abbrev cX8_familiesOf : ByteArray := prog_10_method_16_code
def yX8_familiesOf : MethodName := ⟨RX8, "familiesOf", "(I)I"⟩
abbrev cX8_livingOn : ByteArray := prog_10_method_17_code
def yX8_livingOn : MethodName := ⟨RX8, "livingOn", "(I)I"⟩
abbrev cX8_livingUnder : ByteArray := prog_10_method_18_code
def yX8_livingUnder : MethodName := ⟨RX8, "livingUnder", "(I)I"⟩
abbrev cX8_nowhere : ByteArray := prog_10_method_19_code
def yX8_nowhere : MethodName := ⟨RX8, "nowhere", "()I"⟩
abbrev cX8_nestsUnder : ByteArray := prog_10_method_20_code
def yX8_nestsUnder : MethodName := ⟨RX8, "nestsUnder", "(I)I"⟩
abbrev cX8_owedBy : ByteArray := prog_10_method_21_code
def yX8_owedBy : MethodName := ⟨RX8, "owedBy", "(I)I"⟩
abbrev cX8_owedByAll : ByteArray := prog_10_method_22_code
def yX8_owedByAll : MethodName := ⟨RX8, "owedByAll", "(I)I"⟩
abbrev cX8_frogsOfAll : ByteArray := prog_10_method_23_code
def yX8_frogsOfAll : MethodName := ⟨RX8, "frogsOfAll", "()I"⟩
abbrev cX8_movesOfAll : ByteArray := prog_10_method_24_code
def yX8_movesOfAll : MethodName := ⟨RX8, "movesOfAll", "()I"⟩
abbrev cX8_nestedBits : ByteArray := prog_10_method_25_code
def yX8_nestedBits : MethodName := ⟨RX8, "nestedBits", "()I"⟩
abbrev cX8_housedBits : ByteArray := prog_10_method_26_code
def yX8_housedBits : MethodName := ⟨RX8, "housedBits", "()I"⟩
abbrev cX8_wheelBits : ByteArray := prog_10_method_27_code
def yX8_wheelBits : MethodName := ⟨RX8, "wheelBits", "()I"⟩
abbrev cX8_nestedFamilies : ByteArray := prog_10_method_28_code
def yX8_nestedFamilies : MethodName := ⟨RX8, "nestedFamilies", "()I"⟩
abbrev cX8_worthNow : ByteArray := prog_10_method_29_code
def yX8_worthNow : MethodName := ⟨RX8, "worthNow", "(II)I"⟩
abbrev cX8_dearestRoof : ByteArray := prog_10_method_30_code
def yX8_dearestRoof : MethodName := ⟨RX8, "dearestRoof", "(I)I"⟩
abbrev cX8_isOpenTo : ByteArray := prog_10_method_31_code
def yX8_isOpenTo : MethodName := ⟨RX8, "isOpenTo", "(II)Z"⟩
abbrev cX8_betterRoof : ByteArray := prog_10_method_32_code
def yX8_betterRoof : MethodName := ⟨RX8, "betterRoof", "(I)I"⟩
abbrev cX8_leave : ByteArray := prog_10_method_33_code
def yX8_leave : MethodName := ⟨RX8, "leave", "(I)V"⟩
abbrev cX8_goTo : ByteArray := prog_10_method_34_code
def yX8_goTo : MethodName := ⟨RX8, "goTo", "(II)V"⟩
abbrev cX8_sendAway : ByteArray := prog_10_method_35_code
def yX8_sendAway : MethodName := ⟨RX8, "sendAway", "(I)V"⟩
abbrev cX8_restlessBirds : ByteArray := prog_10_method_36_code
def yX8_restlessBirds : MethodName := ⟨RX8, "restlessBirds", "()I"⟩
abbrev cX8_isAtRest : ByteArray := prog_10_method_37_code
def yX8_isAtRest : MethodName := ⟨RX8, "isAtRest", "()Z"⟩
abbrev cX8_turnToNextNests : ByteArray := prog_10_method_38_code
def yX8_turnToNextNests : MethodName := ⟨RX8, "turnToNextNests", "()Z"⟩
abbrev cX8_passDays : ByteArray := prog_10_method_39_code
def yX8_passDays : MethodName := ⟨RX8, "passDays", "(I)V"⟩
abbrev cX8_freeze : ByteArray := prog_10_method_40_code
def yX8_freeze : MethodName := ⟨RX8, "freeze", "(I)V"⟩
abbrev cX8_lookForNest : ByteArray := prog_10_method_41_code
def yX8_lookForNest : MethodName := ⟨RX8, "lookForNest", "(I)V"⟩
abbrev cX8_followBird : ByteArray := prog_10_method_42_code
def yX8_followBird : MethodName := ⟨RX8, "followBird", "(I)V"⟩
abbrev cX8_changedNests : ByteArray := prog_10_method_43_code
def yX8_changedNests : MethodName := ⟨RX8, "changedNests", "()I"⟩
abbrev cX8_startDues : ByteArray := prog_10_method_44_code
def yX8_startDues : MethodName := ⟨RX8, "startDues", "()V"⟩
abbrev cX8_duesOfAll : ByteArray := prog_10_method_45_code
def yX8_duesOfAll : MethodName := ⟨RX8, "duesOfAll", "()I"⟩
abbrev cX8_saveTo : ByteArray := prog_10_method_46_code
def yX8_saveTo : MethodName := ⟨RX8, "saveTo", "([IZ)V"⟩
abbrev cX8_loadFrom : ByteArray := prog_10_method_47_code
def yX8_loadFrom : MethodName := ⟨RX8, "loadFrom", "([I)V"⟩
abbrev cX8_pack : ByteArray := prog_10_method_48_code
def yX8_pack : MethodName := ⟨RX8, "pack", "([II[III)I"⟩
abbrev cX8_unpack : ByteArray := prog_10_method_49_code
def yX8_unpack : MethodName := ⟨RX8, "unpack", "([II[III)I"⟩
def RX9 : String := "StorksLet$Works"
def TX9 : u_T := fun k => match k with
  | 0 => ("StorksLet$Works", "kind", "[C", true)
  | 1 => ("StorksLet$Works", "first", "[I", true)
  | 2 => ("StorksLet$Works", "second", "[I", true)
  | _ => ("StorksLet$Works", "size", "I", false)
def tyX9 : Nat → FieldType := fun k => match k with
  | 0 => .array .char
  | 1 => .array .int
  | 2 => .array .int
  | _ => .int
abbrev wsX90 : List Cond := u_ws RX9 TX9 4
theorem nmX9 : ∀ a, a < 4 → ∀ b, b < 4 → a ≠ b → (TX9 a).2.1 ≠ (TX9 b).2.1 := by decide +kernel
theorem tyX9_ok : ∀ k, k < 4 → parseFieldDescriptor (TX9 k).2.2.1 = some (tyX9 k) := by decide +kernel
abbrev cX9_init : ByteArray := prog_11_method_1_code
def yX9_init : MethodName := ⟨RX9, "<init>", "()V"⟩
abbrev cX9_read : ByteArray := prog_11_method_2_code
def yX9_read : MethodName := ⟨RX9, "read", "(LStorksLet$Signs;)I"⟩
abbrev cX9_readWork : ByteArray := prog_11_method_3_code
def yX9_readWork : MethodName := ⟨RX9, "readWork", "(LStorksLet$Signs;)Z"⟩
abbrev cX9_doOne : ByteArray := prog_11_method_4_code
def yX9_doOne : MethodName := ⟨RX9, "doOne", "(ILStorksLet$Town;)Z"⟩
abbrev cX9_turnWheel : ByteArray := prog_11_method_5_code
def yX9_turnWheel : MethodName := ⟨RX9, "turnWheel", "(ILStorksLet$Town;)Z"⟩
abbrev cX9_setSmoke : ByteArray := prog_11_method_6_code
def yX9_setSmoke : MethodName := ⟨RX9, "setSmoke", "(IILStorksLet$Town;)Z"⟩
abbrev cX9_driveOff : ByteArray := prog_11_method_7_code
def yX9_driveOff : MethodName := ⟨RX9, "driveOff", "(ILStorksLet$Town;)Z"⟩
abbrev cX9_changeKeeper : ByteArray := prog_11_method_8_code
def yX9_changeKeeper : MethodName := ⟨RX9, "changeKeeper", "(IILStorksLet$Town;)Z"⟩
def RX10 : String := "StorksLet$Worths"
def TX10 : u_T := fun k => match k with
  | 0 => ("StorksLet$Worths", "law", "LStorksLet$Rule;", false)
  | 1 => ("StorksLet$Worths", "ofOthers", "[I", true)
  | 2 => ("StorksLet$Worths", "ofNests", "[I", true)
  | 3 => ("StorksLet$Worths", "things", "[I", true)
  | 4 => ("StorksLet$Worths", "fresh", "Z", false)
  | _ => ("StorksLet$Worths", "madeOn", "I", false)
def tyX10 : Nat → FieldType := fun k => match k with
  | 0 => .object "StorksLet$Rule"
  | 1 => .array .int
  | 2 => .array .int
  | 3 => .array .int
  | 4 => .boolean
  | _ => .int
abbrev wsX100 : List Cond := u_ws RX10 TX10 6
theorem nmX10 : ∀ a, a < 6 → ∀ b, b < 6 → a ≠ b → (TX10 a).2.1 ≠ (TX10 b).2.1 := by decide +kernel
theorem tyX10_ok : ∀ k, k < 6 → parseFieldDescriptor (TX10 k).2.2.1 = some (tyX10 k) := by decide +kernel
abbrev cX10_init : ByteArray := prog_12_method_1_code
def yX10_init : MethodName := ⟨RX10, "<init>", "()V"⟩
abbrev cX10_spoil : ByteArray := prog_12_method_2_code
def yX10_spoil : MethodName := ⟨RX10, "spoil", "()V"⟩
abbrev cX10_copyFrom : ByteArray := prog_12_method_3_code
def yX10_copyFrom : MethodName := ⟨RX10, "copyFrom", "(LStorksLet$Worths;)V"⟩
abbrev cX10_refresh : ByteArray := prog_12_method_4_code
def yX10_refresh : MethodName := ⟨RX10, "refresh", "(LStorksLet$Town;)V"⟩
abbrev cX10_ofOther : ByteArray := prog_12_method_5_code
def yX10_ofOther : MethodName := ⟨RX10, "ofOther", "(II)I"⟩
abbrev cX10_ofNest : ByteArray := prog_12_method_6_code
def yX10_ofNest : MethodName := ⟨RX10, "ofNest", "(II)I"⟩
def RX11 : String := "StorksLet"
def TX11 : u_T := fun k => match k with
  | 0 => ("StorksLet", "text", "LStorksLet$Signs;", true)
  | 1 => ("StorksLet", "told", "LStorksLet$Row;", true)
  | 2 => ("StorksLet", "now", "LStorksLet$Town;", true)
  | 3 => ("StorksLet", "trial", "LStorksLet$Town;", true)
  | 4 => ("StorksLet", "draft", "LStorksLet$Town;", true)
  | 5 => ("StorksLet", "spareRule", "LStorksLet$Rule;", false)
  | 6 => ("StorksLet", "spareFrost", "[I", true)
  | 7 => ("StorksLet", "steadyFrost", "[I", true)
  | 8 => ("StorksLet", "works", "LStorksLet$Works;", true)
  | 9 => ("StorksLet", "past", "LStorksLet$History;", true)
  | 10 => ("StorksLet", "stored", "[[I", true)
  | 11 => ("StorksLet", "storedFor", "[I", true)
  | 12 => ("StorksLet", "steps", "LStorksLet$Steps;", true)
  | 13 => ("StorksLet", "search", "LStorksLet$Search;", false)
  | 14 => ("StorksLet", "sightings", "LStorksLet$Sightings;", true)
  | _ => ("StorksLet", "odds", "[I", true)
def tyX11 : Nat → FieldType := fun k => match k with
  | 0 => .object "StorksLet$Signs"
  | 1 => .object "StorksLet$Row"
  | 2 => .object "StorksLet$Town"
  | 3 => .object "StorksLet$Town"
  | 4 => .object "StorksLet$Town"
  | 5 => .object "StorksLet$Rule"
  | 6 => .array .int
  | 7 => .array .int
  | 8 => .object "StorksLet$Works"
  | 9 => .object "StorksLet$History"
  | 10 => .array (.array .int)
  | 11 => .array .int
  | 12 => .object "StorksLet$Steps"
  | 13 => .object "StorksLet$Search"
  | 14 => .object "StorksLet$Sightings"
  | _ => .array .int
abbrev wsX110 : List Cond := u_ws RX11 TX11 16
theorem nmX11 : ∀ a, a < 16 → ∀ b, b < 16 → a ≠ b → (TX11 a).2.1 ≠ (TX11 b).2.1 := by decide +kernel
theorem tyX11_ok : ∀ k, k < 16 → parseFieldDescriptor (TX11 k).2.2.1 = some (tyX11 k) := by decide +kernel
abbrev cX11_init : ByteArray := prog_1_method_1_code
def yX11_init : MethodName := ⟨RX11, "<init>", "()V"⟩
abbrev cX11_sign : ByteArray := prog_1_method_2_code
def yX11_sign : MethodName := ⟨RX11, "sign", "(I)I"⟩
abbrev cX11_end : ByteArray := prog_1_method_3_code
def yX11_end : MethodName := ⟨RX11, "end", "(I)Z"⟩
abbrev cX11_town : ByteArray := prog_1_method_4_code
def yX11_town : MethodName := ⟨RX11, "town", "()I"⟩
abbrev cX11_rule : ByteArray := prog_1_method_5_code
def yX11_rule : MethodName := ⟨RX11, "rule", "()I"⟩
abbrev cX11_frost : ByteArray := prog_1_method_6_code
def yX11_frost : MethodName := ⟨RX11, "frost", "()I"⟩
abbrev cX11_roof : ByteArray := prog_1_method_7_code
def yX11_roof : MethodName := ⟨RX11, "roof", "(II)I"⟩
abbrev cX11_bird : ByteArray := prog_1_method_8_code
def yX11_bird : MethodName := ⟨RX11, "bird", "(II)I"⟩
abbrev cX11_family : ByteArray := prog_1_method_9_code
def yX11_family : MethodName := ⟨RX11, "family", "(II)I"⟩
abbrev cX11_worth : ByteArray := prog_1_method_10_code
def yX11_worth : MethodName := ⟨RX11, "worth", "(II)I"⟩
abbrev cX11_build : ByteArray := prog_1_method_11_code
def yX11_build : MethodName := ⟨RX11, "build", "(III)I"⟩
abbrev cX11_ring : ByteArray := prog_1_method_12_code
def yX11_ring : MethodName := ⟨RX11, "ring", "(III)I"⟩
abbrev cX11_swear : ByteArray := prog_1_method_13_code
def yX11_swear : MethodName := ⟨RX11, "swear", "(II)I"⟩
abbrev cX11_sheet : ByteArray := prog_1_method_14_code
def yX11_sheet : MethodName := ⟨RX11, "sheet", "(IIII)I"⟩
abbrev cX11_day : ByteArray := prog_1_method_15_code
def yX11_day : MethodName := ⟨RX11, "day", "()I"⟩
abbrev cX11_days : ByteArray := prog_1_method_16_code
def yX11_days : MethodName := ⟨RX11, "days", "(I)I"⟩
abbrev cX11_spring : ByteArray := prog_1_method_17_code
def yX11_spring : MethodName := ⟨RX11, "spring", "()I"⟩
abbrev cX11_pay : ByteArray := prog_1_method_18_code
def yX11_pay : MethodName := ⟨RX11, "pay", "(III)I"⟩
abbrev cX11_owes : ByteArray := prog_1_method_19_code
def yX11_owes : MethodName := ⟨RX11, "owes", "(II)I"⟩
abbrev cX11_lord : ByteArray := prog_1_method_20_code
def yX11_lord : MethodName := ⟨RX11, "lord", "(I)I"⟩
abbrev cX11_undo : ByteArray := prog_1_method_21_code
def yX11_undo : MethodName := ⟨RX11, "undo", "()I"⟩
abbrev cX11_later : ByteArray := prog_1_method_22_code
def yX11_later : MethodName := ⟨RX11, "later", "(II)I"⟩
abbrev cX11_calm : ByteArray := prog_1_method_23_code
def yX11_calm : MethodName := ⟨RX11, "calm", "()I"⟩
abbrev cX11_moves : ByteArray := prog_1_method_24_code
def yX11_moves : MethodName := ⟨RX11, "moves", "(II)I"⟩
abbrev cX11_income : ByteArray := prog_1_method_25_code
def yX11_income : MethodName := ⟨RX11, "income", "(II)I"⟩
abbrev cX11_homeless : ByteArray := prog_1_method_26_code
def yX11_homeless : MethodName := ⟨RX11, "homeless", "(I)I"⟩
abbrev cX11_bears : ByteArray := prog_1_method_27_code
def yX11_bears : MethodName := ⟨RX11, "bears", "(I)I"⟩
abbrev cX11_rests : ByteArray := prog_1_method_28_code
def yX11_rests : MethodName := ⟨RX11, "rests", "()I"⟩
abbrev cX11_ways : ByteArray := prog_1_method_29_code
def yX11_ways : MethodName := ⟨RX11, "ways", "()I"⟩
abbrev cX11_kindest : ByteArray := prog_1_method_30_code
def yX11_kindest : MethodName := ⟨RX11, "kindest", "()I"⟩
abbrev cX11_wheel : ByteArray := prog_1_method_31_code
def yX11_wheel : MethodName := ⟨RX11, "wheel", "(II)I"⟩
abbrev cX11_courts : ByteArray := prog_1_method_32_code
def yX11_courts : MethodName := ⟨RX11, "courts", "(II)I"⟩
abbrev cX11_win : ByteArray := prog_1_method_33_code
def yX11_win : MethodName := ⟨RX11, "win", "(III)I"⟩
abbrev cX11_drive : ByteArray := prog_1_method_34_code
def yX11_drive : MethodName := ⟨RX11, "drive", "(II)I"⟩
abbrev cX11_choose : ByteArray := prog_1_method_35_code
def yX11_choose : MethodName := ⟨RX11, "choose", "(II)I"⟩
abbrev cX11_aim : ByteArray := prog_1_method_36_code
def yX11_aim : MethodName := ⟨RX11, "aim", "()I"⟩
abbrev cX11_fewest : ByteArray := prog_1_method_37_code
def yX11_fewest : MethodName := ⟨RX11, "fewest", "()I"⟩
abbrev cX11_gently : ByteArray := prog_1_method_38_code
def yX11_gently : MethodName := ⟨RX11, "gently", "()I"⟩
abbrev cX11_seen : ByteArray := prog_1_method_39_code
def yX11_seen : MethodName := ⟨RX11, "seen", "(III)I"⟩
abbrev cX11_forget : ByteArray := prog_1_method_40_code
def yX11_forget : MethodName := ⟨RX11, "forget", "()I"⟩
abbrev cX11_strengths : ByteArray := prog_1_method_41_code
def yX11_strengths : MethodName := ⟨RX11, "strengths", "(I)I"⟩
abbrev cX11_latest : ByteArray := prog_1_method_42_code
def yX11_latest : MethodName := ⟨RX11, "latest", "(I)I"⟩
abbrev cX11_absent : ByteArray := prog_1_method_43_code
def yX11_absent : MethodName := ⟨RX11, "absent", "()I"⟩
abbrev cX11_chance : ByteArray := prog_1_method_44_code
def yX11_chance : MethodName := ⟨RX11, "chance", "(III)I"⟩
abbrev cX11_safest : ByteArray := prog_1_method_45_code
def yX11_safest : MethodName := ⟨RX11, "safest", "(II)I"⟩
abbrev cX11_keep : ByteArray := prog_1_method_46_code
def yX11_keep : MethodName := ⟨RX11, "keep", "(I)Z"⟩
abbrev cX11_again : ByteArray := prog_1_method_47_code
def yX11_again : MethodName := ⟨RX11, "again", "(I)Z"⟩
abbrev cX11_count : ByteArray := prog_1_method_48_code
def yX11_count : MethodName := ⟨RX11, "count", "(I)I"⟩
abbrev cX11_row : ByteArray := prog_1_method_49_code
def yX11_row : MethodName := ⟨RX11, "row", "(I)I"⟩
abbrev cX11_isLord : ByteArray := prog_1_method_50_code
def yX11_isLord : MethodName := ⟨RX11, "isLord", "(I)Z"⟩
abbrev cX11_mostOfTrait : ByteArray := prog_1_method_51_code
def yX11_mostOfTrait : MethodName := ⟨RX11, "mostOfTrait", "(I)I"⟩
abbrev cX11_sheetEntry : ByteArray := prog_1_method_52_code
def yX11_sheetEntry : MethodName := ⟨RX11, "sheetEntry", "(II)I"⟩
abbrev cX11_power : ByteArray := prog_1_method_53_code
def yX11_power : MethodName := ⟨RX11, "power", "(II)I"⟩
abbrev cX11_seatAll : ByteArray := prog_1_method_54_code
def yX11_seatAll : MethodName := ⟨RX11, "seatAll", "([II[I)V"⟩
abbrev cX11_housedDays : ByteArray := prog_1_method_55_code
def yX11_housedDays : MethodName := ⟨RX11, "housedDays", "(II)I"⟩
abbrev cX11_housedDaysUnder : ByteArray := prog_1_method_56_code
def yX11_housedDaysUnder : MethodName := ⟨RX11, "housedDaysUnder", "(III)I"⟩
abbrev cX11_waysAreTooMany : ByteArray := prog_1_method_57_code
def yX11_waysAreTooMany : MethodName := ⟨RX11, "waysAreTooMany", "()Z"⟩
abbrev cX11_openWays : ByteArray := prog_1_method_58_code
def yX11_openWays : MethodName := ⟨RX11, "openWays", "()V"⟩
abbrev cX11_livingWithWheel : ByteArray := prog_1_method_59_code
def yX11_livingWithWheel : MethodName := ⟨RX11, "livingWithWheel", "(LStorksLet$Town;III)I"⟩
abbrev cX11_bestWheel : ByteArray := prog_1_method_60_code
def yX11_bestWheel : MethodName := ⟨RX11, "bestWheel", "(LStorksLet$Town;II)I"⟩
abbrev cX11_gainOf : ByteArray := prog_1_method_61_code
def yX11_gainOf : MethodName := ⟨RX11, "gainOf", "(LStorksLet$Town;III)I"⟩
abbrev cX11_weightOf : ByteArray := prog_1_method_62_code
def yX11_weightOf : MethodName := ⟨RX11, "weightOf", "(II)I"⟩
abbrev cX11_passDaysWithout : ByteArray := prog_1_method_63_code
def yX11_passDaysWithout : MethodName := ⟨RX11, "passDaysWithout", "(II)V"⟩
abbrev cX11_weighNests : ByteArray := prog_1_method_64_code
def yX11_weighNests : MethodName := ⟨RX11, "weighNests", "(II)V"⟩
def RX12 : String := "StorksLetModel"
def TX12 : u_T := fun k => match k with
  | 0 => ("StorksLetModel", "now", "[I", true)
  | 1 => ("StorksLetModel", "roofs", "I", false)
  | 2 => ("StorksLetModel", "height", "[I", true)
  | 3 => ("StorksLetModel", "smoke", "[I", true)
  | 4 => ("StorksLetModel", "view", "[I", true)
  | 5 => ("StorksLetModel", "wheel", "[I", true)
  | 6 => ("StorksLetModel", "lordOf", "[I", true)
  | 7 => ("StorksLetModel", "birds", "I", false)
  | 8 => ("StorksLetModel", "strength", "[I", true)
  | 9 => ("StorksLetModel", "arrival", "[I", true)
  | 10 => ("StorksLetModel", "families", "I", false)
  | 11 => ("StorksLetModel", "belongs", "[I", true)
  | 12 => ("StorksLetModel", "rent", "[I", true)
  | 13 => ("StorksLetModel", "frosts", "[I", true)
  | 14 => ("StorksLetModel", "frostMany", "I", false)
  | 15 => ("StorksLetModel", "frostAsked", "I", false)
  | 16 => ("StorksLetModel", "away", "I", false)
  | 17 => ("StorksLetModel", "text", "[B", true)
  | 18 => ("StorksLetModel", "typed", "I", false)
  | 19 => ("StorksLetModel", "row", "[I", true)
  | 20 => ("StorksLetModel", "rowMany", "I", false)
  | 21 => ("StorksLetModel", "thrown", "I", false)
  | 22 => ("StorksLetModel", "read", "[B", false)
  | 23 => ("StorksLetModel", "length", "I", false)
  | 24 => ("StorksLetModel", "top", "I", false)
  | 25 => ("StorksLetModel", "at", "I", false)
  | 26 => ("StorksLetModel", "wrong", "I", false)
  | 27 => ("StorksLetModel", "newRoofs", "[I", true)
  | 28 => ("StorksLetModel", "newBirds", "[I", true)
  | 29 => ("StorksLetModel", "newFamilies", "[I", true)
  | 30 => ("StorksLetModel", "rule", "[B", true)
  | 31 => ("StorksLetModel", "ruleSize", "I", false)
  | 32 => ("StorksLetModel", "askedState", "[I", false)
  | 33 => ("StorksLetModel", "askedRoof", "I", false)
  | 34 => ("StorksLetModel", "askedBird", "I", false)
  | 35 => ("StorksLetModel", "movesNow", "I", false)
  | 36 => ("StorksLetModel", "frogsTo", "[I", true)
  | 37 => ("StorksLetModel", "frogsNow", "I", false)
  | 38 => ("StorksLetModel", "askedFamily", "I", false)
  | 39 => ("StorksLetModel", "frogsOfAsked", "I", false)
  | 40 => ("StorksLetModel", "undos", "[I", true)
  | 41 => ("StorksLetModel", "undoMany", "I", false)
  | 42 => ("StorksLetModel", "aside", "[I", true)
  | 43 => ("StorksLetModel", "works", "[I", true)
  | 44 => ("StorksLetModel", "workMoves", "I", false)
  | 45 => ("StorksLetModel", "then", "[I", true)
  | 46 => ("StorksLetModel", "before", "[I", true)
  | 47 => ("StorksLetModel", "incomes", "[I", true)
  | 48 => ("StorksLetModel", "found", "[I", true)
  | 49 => ("StorksLetModel", "wheelRoof", "I", false)
  | 50 => ("StorksLetModel", "wheelSo", "I", false)
  | 51 => ("StorksLetModel", "wheelElse", "I", false)
  | 52 => ("StorksLetModel", "aim", "[I", true)
  | 53 => ("StorksLetModel", "isAimed", "Z", false)
  | 54 => ("StorksLetModel", "aimCame", "I", false)
  | 55 => ("StorksLetModel", "pool", "[I", true)
  | 56 => ("StorksLetModel", "parent", "[I", true)
  | 57 => ("StorksLetModel", "move", "[I", true)
  | 58 => ("StorksLetModel", "places", "[I", true)
  | 59 => ("StorksLetModel", "poolMany", "I", false)
  | 60 => ("StorksLetModel", "sights", "[I", true)
  | 61 => ("StorksLetModel", "sightMany", "I", false)
  | 62 => ("StorksLetModel", "likely", "[I", true)
  | 63 => ("StorksLetModel", "came", "I", false)
  | 64 => ("StorksLetModel", "cameOnes", "I", false)
  | 65 => ("StorksLetModel", "kept", "[I", true)
  | 66 => ("StorksLetModel", "isKept", "[Z", true)
  | _ => ("StorksLetModel", "keptCame", "[I", true)
def tyX12 : Nat → FieldType := fun k => match k with
  | 0 => .array .int
  | 1 => .int
  | 2 => .array .int
  | 3 => .array .int
  | 4 => .array .int
  | 5 => .array .int
  | 6 => .array .int
  | 7 => .int
  | 8 => .array .int
  | 9 => .array .int
  | 10 => .int
  | 11 => .array .int
  | 12 => .array .int
  | 13 => .array .int
  | 14 => .int
  | 15 => .int
  | 16 => .int
  | 17 => .array .byte
  | 18 => .int
  | 19 => .array .int
  | 20 => .int
  | 21 => .int
  | 22 => .array .byte
  | 23 => .int
  | 24 => .int
  | 25 => .int
  | 26 => .int
  | 27 => .array .int
  | 28 => .array .int
  | 29 => .array .int
  | 30 => .array .byte
  | 31 => .int
  | 32 => .array .int
  | 33 => .int
  | 34 => .int
  | 35 => .int
  | 36 => .array .int
  | 37 => .int
  | 38 => .int
  | 39 => .int
  | 40 => .array .int
  | 41 => .int
  | 42 => .array .int
  | 43 => .array .int
  | 44 => .int
  | 45 => .array .int
  | 46 => .array .int
  | 47 => .array .int
  | 48 => .array .int
  | 49 => .int
  | 50 => .int
  | 51 => .int
  | 52 => .array .int
  | 53 => .boolean
  | 54 => .int
  | 55 => .array .int
  | 56 => .array .int
  | 57 => .array .int
  | 58 => .array .int
  | 59 => .int
  | 60 => .array .int
  | 61 => .int
  | 62 => .array .int
  | 63 => .int
  | 64 => .int
  | 65 => .array .int
  | 66 => .array .boolean
  | _ => .array .int
abbrev wsX120 : List Cond := u_ws RX12 TX12 68
theorem nmX12 : ∀ a, a < 68 → ∀ b, b < 68 → a ≠ b → (TX12 a).2.1 ≠ (TX12 b).2.1 := by decide +kernel
theorem tyX12_ok : ∀ k, k < 68 → parseFieldDescriptor (TX12 k).2.2.1 = some (tyX12 k) := by decide +kernel
abbrev cX12_init : ByteArray := prog_14_method_1_code
def yX12_init : MethodName := ⟨RX12, "<init>", "()V"⟩
abbrev cX12_thrown : ByteArray := prog_14_method_2_code
def yX12_thrown : MethodName := ⟨RX12, "thrown", "()I"⟩
abbrev cX12_in : ByteArray := prog_14_method_3_code
def yX12_in : MethodName := ⟨RX12, "in", "(III)Z"⟩
abbrev cX12_has : ByteArray := prog_14_method_4_code
def yX12_has : MethodName := ⟨RX12, "has", "(II)Z"⟩
abbrev cX12_lost : ByteArray := prog_14_method_5_code
def yX12_lost : MethodName := ⟨RX12, "lost", "()I"⟩
abbrev cX12_tell : ByteArray := prog_14_method_6_code
def yX12_tell : MethodName := ⟨RX12, "tell", "(I)V"⟩
abbrev cX12_isRoof : ByteArray := prog_14_method_7_code
def yX12_isRoof : MethodName := ⟨RX12, "isRoof", "(I)Z"⟩
abbrev cX12_isBird : ByteArray := prog_14_method_8_code
def yX12_isBird : MethodName := ⟨RX12, "isBird", "(I)Z"⟩
abbrev cX12_isFamily : ByteArray := prog_14_method_9_code
def yX12_isFamily : MethodName := ⟨RX12, "isFamily", "(I)Z"⟩
abbrev cX12_sign : ByteArray := prog_14_method_10_code
def yX12_sign : MethodName := ⟨RX12, "sign", "(I)I"⟩
abbrev cX12_end : ByteArray := prog_14_method_11_code
def yX12_end : MethodName := ⟨RX12, "end", "(I)Z"⟩
abbrev cX12_begin : ByteArray := prog_14_method_12_code
def yX12_begin : MethodName := ⟨RX12, "begin", "([BII)V"⟩
abbrev cX12_here : ByteArray := prog_14_method_13_code
def yX12_here : MethodName := ⟨RX12, "here", "()I"⟩
abbrev cX12_fine : ByteArray := prog_14_method_14_code
def yX12_fine : MethodName := ⟨RX12, "fine", "()Z"⟩
abbrev cX12_fault : ByteArray := prog_14_method_15_code
def yX12_fault : MethodName := ⟨RX12, "fault", "(I)V"⟩
abbrev cX12_passes : ByteArray := prog_14_method_16_code
def yX12_passes : MethodName := ⟨RX12, "passes", "(C)Z"⟩
abbrev cX12_need : ByteArray := prog_14_method_17_code
def yX12_need : MethodName := ⟨RX12, "need", "(C)V"⟩
abbrev cX12_digit : ByteArray := prog_14_method_18_code
def yX12_digit : MethodName := ⟨RX12, "digit", "(II)I"⟩
abbrev cX12_town : ByteArray := prog_14_method_19_code
def yX12_town : MethodName := ⟨RX12, "town", "()I"⟩
abbrev cX12_readRoof : ByteArray := prog_14_method_20_code
def yX12_readRoof : MethodName := ⟨RX12, "readRoof", "(I)V"⟩
abbrev cX12_twoDigits : ByteArray := prog_14_method_21_code
def yX12_twoDigits : MethodName := ⟨RX12, "twoDigits", "()I"⟩
abbrev cX12_frost : ByteArray := prog_14_method_22_code
def yX12_frost : MethodName := ⟨RX12, "frost", "()I"⟩
abbrev cX12_frostOf : ByteArray := prog_14_method_23_code
def yX12_frostOf : MethodName := ⟨RX12, "frostOf", "(I)I"⟩
abbrev cX12_held : ByteArray := prog_14_method_24_code
def yX12_held : MethodName := ⟨RX12, "held", "(I)I"⟩
abbrev cX12_sum : ByteArray := prog_14_method_25_code
def yX12_sum : MethodName := ⟨RX12, "sum", "(I)I"⟩
abbrev cX12_product : ByteArray := prog_14_method_26_code
def yX12_product : MethodName := ⟨RX12, "product", "(I)I"⟩
abbrev cX12_thing : ByteArray := prog_14_method_27_code
def yX12_thing : MethodName := ⟨RX12, "thing", "(I)I"⟩
abbrev cX12_letter : ByteArray := prog_14_method_28_code
def yX12_letter : MethodName := ⟨RX12, "letter", "(I[III)I"⟩
abbrev cX12_followers : ByteArray := prog_14_method_29_code
def yX12_followers : MethodName := ⟨RX12, "followers", "(I)I"⟩
abbrev cX12_rule : ByteArray := prog_14_method_30_code
def yX12_rule : MethodName := ⟨RX12, "rule", "()I"⟩
abbrev cX12_worthOf : ByteArray := prog_14_method_31_code
def yX12_worthOf : MethodName := ⟨RX12, "worthOf", "([III)I"⟩
abbrev cX12_birdOn : ByteArray := prog_14_method_32_code
def yX12_birdOn : MethodName := ⟨RX12, "birdOn", "([II)I"⟩
abbrev cX12_livingOn : ByteArray := prog_14_method_33_code
def yX12_livingOn : MethodName := ⟨RX12, "livingOn", "([II)I"⟩
abbrev cX12_roof : ByteArray := prog_14_method_34_code
def yX12_roof : MethodName := ⟨RX12, "roof", "(II)I"⟩
abbrev cX12_bird : ByteArray := prog_14_method_35_code
def yX12_bird : MethodName := ⟨RX12, "bird", "(II)I"⟩
abbrev cX12_owesAll : ByteArray := prog_14_method_36_code
def yX12_owesAll : MethodName := ⟨RX12, "owesAll", "([II)I"⟩
abbrev cX12_family : ByteArray := prog_14_method_37_code
def yX12_family : MethodName := ⟨RX12, "family", "(II)I"⟩
abbrev cX12_worth : ByteArray := prog_14_method_38_code
def yX12_worth : MethodName := ⟨RX12, "worth", "(II)I"⟩
abbrev cX12_partOf : ByteArray := prog_14_method_39_code
def yX12_partOf : MethodName := ⟨RX12, "partOf", "(I)[I"⟩
abbrev cX12_build : ByteArray := prog_14_method_40_code
def yX12_build : MethodName := ⟨RX12, "build", "(III)I"⟩
abbrev cX12_ring : ByteArray := prog_14_method_41_code
def yX12_ring : MethodName := ⟨RX12, "ring", "(III)I"⟩
abbrev cX12_swear : ByteArray := prog_14_method_42_code
def yX12_swear : MethodName := ⟨RX12, "swear", "(II)I"⟩
abbrev cX12_sheet : ByteArray := prog_14_method_43_code
def yX12_sheet : MethodName := ⟨RX12, "sheet", "(IIII)I"⟩
abbrev cX12_goal : ByteArray := prog_14_method_44_code
def yX12_goal : MethodName := ⟨RX12, "goal", "([II)I"⟩
abbrev cX12_goDay : ByteArray := prog_14_method_45_code
def yX12_goDay : MethodName := ⟨RX12, "goDay", "([I)V"⟩
abbrev cX12_living : ByteArray := prog_14_method_46_code
def yX12_living : MethodName := ⟨RX12, "living", "([I)I"⟩
abbrev cX12_nowhere : ByteArray := prog_14_method_47_code
def yX12_nowhere : MethodName := ⟨RX12, "nowhere", "([I)I"⟩
abbrev cX12_lay : ByteArray := prog_14_method_48_code
def yX12_lay : MethodName := ⟨RX12, "lay", "([I[II)V"⟩
abbrev cX12_laySide : ByteArray := prog_14_method_49_code
def yX12_laySide : MethodName := ⟨RX12, "laySide", "(Z)V"⟩
abbrev cX12_remember : ByteArray := prog_14_method_50_code
def yX12_remember : MethodName := ⟨RX12, "remember", "()V"⟩
abbrev cX12_day : ByteArray := prog_14_method_51_code
def yX12_day : MethodName := ⟨RX12, "day", "()I"⟩
abbrev cX12_days : ByteArray := prog_14_method_52_code
def yX12_days : MethodName := ⟨RX12, "days", "(I)I"⟩
abbrev cX12_spring : ByteArray := prog_14_method_53_code
def yX12_spring : MethodName := ⟨RX12, "spring", "()I"⟩
abbrev cX12_readWork : ByteArray := prog_14_method_54_code
def yX12_readWork : MethodName := ⟨RX12, "readWork", "(I)V"⟩
abbrev cX12_work : ByteArray := prog_14_method_55_code
def yX12_work : MethodName := ⟨RX12, "work", "(I)Z"⟩
abbrev cX12_pay : ByteArray := prog_14_method_56_code
def yX12_pay : MethodName := ⟨RX12, "pay", "(III)I"⟩
abbrev cX12_owes : ByteArray := prog_14_method_57_code
def yX12_owes : MethodName := ⟨RX12, "owes", "(II)I"⟩
abbrev cX12_under : ByteArray := prog_14_method_58_code
def yX12_under : MethodName := ⟨RX12, "under", "([II)I"⟩
abbrev cX12_lord : ByteArray := prog_14_method_59_code
def yX12_lord : MethodName := ⟨RX12, "lord", "(I)I"⟩
abbrev cX12_undo : ByteArray := prog_14_method_60_code
def yX12_undo : MethodName := ⟨RX12, "undo", "()I"⟩
abbrev cX12_beginThen : ByteArray := prog_14_method_61_code
def yX12_beginThen : MethodName := ⟨RX12, "beginThen", "()V"⟩
abbrev cX12_goOn : ByteArray := prog_14_method_62_code
def yX12_goOn : MethodName := ⟨RX12, "goOn", "(I)V"⟩
abbrev cX12_isDays : ByteArray := prog_14_method_63_code
def yX12_isDays : MethodName := ⟨RX12, "isDays", "(I)Z"⟩
abbrev cX12_isMore : ByteArray := prog_14_method_64_code
def yX12_isMore : MethodName := ⟨RX12, "isMore", "(I)Z"⟩
abbrev cX12_tellNests : ByteArray := prog_14_method_65_code
def yX12_tellNests : MethodName := ⟨RX12, "tellNests", "([I)V"⟩
abbrev cX12_later : ByteArray := prog_14_method_66_code
def yX12_later : MethodName := ⟨RX12, "later", "(II)I"⟩
abbrev cX12_calm : ByteArray := prog_14_method_67_code
def yX12_calm : MethodName := ⟨RX12, "calm", "()I"⟩
abbrev cX12_moves : ByteArray := prog_14_method_68_code
def yX12_moves : MethodName := ⟨RX12, "moves", "(II)I"⟩
abbrev cX12_income : ByteArray := prog_14_method_69_code
def yX12_income : MethodName := ⟨RX12, "income", "(II)I"⟩
abbrev cX12_homeless : ByteArray := prog_14_method_70_code
def yX12_homeless : MethodName := ⟨RX12, "homeless", "(I)I"⟩
abbrev cX12_bears : ByteArray := prog_14_method_71_code
def yX12_bears : MethodName := ⟨RX12, "bears", "(I)I"⟩
abbrev cX12_housed : ByteArray := prog_14_method_72_code
def yX12_housed : MethodName := ⟨RX12, "housed", "([I)I"⟩
abbrev cX12_restless : ByteArray := prog_14_method_73_code
def yX12_restless : MethodName := ⟨RX12, "restless", "([I)I"⟩
abbrev cX12_rests : ByteArray := prog_14_method_74_code
def yX12_rests : MethodName := ⟨RX12, "rests", "()I"⟩
abbrev cX12_layWay : ByteArray := prog_14_method_75_code
def yX12_layWay : MethodName := ⟨RX12, "layWay", "(I)Z"⟩
abbrev cX12_countWays : ByteArray := prog_14_method_76_code
def yX12_countWays : MethodName := ⟨RX12, "countWays", "()I"⟩
abbrev cX12_take : ByteArray := prog_14_method_77_code
def yX12_take : MethodName := ⟨RX12, "take", "()V"⟩
abbrev cX12_ways : ByteArray := prog_14_method_78_code
def yX12_ways : MethodName := ⟨RX12, "ways", "()I"⟩
abbrev cX12_kindest : ByteArray := prog_14_method_79_code
def yX12_kindest : MethodName := ⟨RX12, "kindest", "()I"⟩
abbrev cX12_findWheel : ByteArray := prog_14_method_80_code
def yX12_findWheel : MethodName := ⟨RX12, "findWheel", "(II)V"⟩
abbrev cX12_wheel : ByteArray := prog_14_method_81_code
def yX12_wheel : MethodName := ⟨RX12, "wheel", "(II)I"⟩
abbrev cX12_courts : ByteArray := prog_14_method_82_code
def yX12_courts : MethodName := ⟨RX12, "courts", "(II)I"⟩
abbrev cX12_wheels : ByteArray := prog_14_method_83_code
def yX12_wheels : MethodName := ⟨RX12, "wheels", "()I"⟩
abbrev cX12_win : ByteArray := prog_14_method_84_code
def yX12_win : MethodName := ⟨RX12, "win", "(III)I"⟩
abbrev cX12_drive : ByteArray := prog_14_method_85_code
def yX12_drive : MethodName := ⟨RX12, "drive", "(II)I"⟩
abbrev cX12_choose : ByteArray := prog_14_method_86_code
def yX12_choose : MethodName := ⟨RX12, "choose", "(II)I"⟩
abbrev cX12_aim : ByteArray := prog_14_method_87_code
def yX12_aim : MethodName := ⟨RX12, "aim", "()I"⟩
abbrev cX12_hasAim : ByteArray := prog_14_method_88_code
def yX12_hasAim : MethodName := ⟨RX12, "hasAim", "()Z"⟩
abbrev cX12_movesLeft : ByteArray := prog_14_method_89_code
def yX12_movesLeft : MethodName := ⟨RX12, "movesLeft", "([I)I"⟩
abbrev cX12_fewest : ByteArray := prog_14_method_90_code
def yX12_fewest : MethodName := ⟨RX12, "fewest", "()I"⟩
abbrev cX12_isMove : ByteArray := prog_14_method_91_code
def yX12_isMove : MethodName := ⟨RX12, "isMove", "(II)Z"⟩
abbrev cX12_codeOf : ByteArray := prog_14_method_92_code
def yX12_codeOf : MethodName := ⟨RX12, "codeOf", "([I)I"⟩
abbrev cX12_layCode : ByteArray := prog_14_method_93_code
def yX12_layCode : MethodName := ⟨RX12, "layCode", "(I)V"⟩
abbrev cX12_find : ByteArray := prog_14_method_94_code
def yX12_find : MethodName := ⟨RX12, "find", "(III)Z"⟩
abbrev cX12_gently : ByteArray := prog_14_method_95_code
def yX12_gently : MethodName := ⟨RX12, "gently", "()I"⟩
abbrev cX12_tellWay : ByteArray := prog_14_method_96_code
def yX12_tellWay : MethodName := ⟨RX12, "tellWay", "(I)I"⟩
abbrev cX12_seen : ByteArray := prog_14_method_97_code
def yX12_seen : MethodName := ⟨RX12, "seen", "(III)I"⟩
abbrev cX12_forget : ByteArray := prog_14_method_98_code
def yX12_forget : MethodName := ⟨RX12, "forget", "()I"⟩
abbrev cX12_isSo : ByteArray := prog_14_method_99_code
def yX12_isSo : MethodName := ⟨RX12, "isSo", "()Z"⟩
abbrev cX12_strengths : ByteArray := prog_14_method_100_code
def yX12_strengths : MethodName := ⟨RX12, "strengths", "(I)I"⟩
abbrev cX12_latest : ByteArray := prog_14_method_101_code
def yX12_latest : MethodName := ⟨RX12, "latest", "(I)I"⟩
abbrev cX12_absent : ByteArray := prog_14_method_102_code
def yX12_absent : MethodName := ⟨RX12, "absent", "()I"⟩
abbrev cX12_tenths : ByteArray := prog_14_method_103_code
def yX12_tenths : MethodName := ⟨RX12, "tenths", "(I)I"⟩
abbrev cX12_common : ByteArray := prog_14_method_104_code
def yX12_common : MethodName := ⟨RX12, "common", "(II)I"⟩
abbrev cX12_tellPart : ByteArray := prog_14_method_105_code
def yX12_tellPart : MethodName := ⟨RX12, "tellPart", "(I)V"⟩
abbrev cX12_partOf_ : ByteArray := prog_14_method_106_code
def yX12_partOf_ : MethodName := ⟨RX12, "partOf", "(II)I"⟩
abbrev cX12_chance : ByteArray := prog_14_method_107_code
def yX12_chance : MethodName := ⟨RX12, "chance", "(III)I"⟩
abbrev cX12_safest : ByteArray := prog_14_method_108_code
def yX12_safest : MethodName := ⟨RX12, "safest", "(II)I"⟩
abbrev cX12_keep : ByteArray := prog_14_method_109_code
def yX12_keep : MethodName := ⟨RX12, "keep", "(I)Z"⟩
abbrev cX12_again : ByteArray := prog_14_method_110_code
def yX12_again : MethodName := ⟨RX12, "again", "(I)Z"⟩
abbrev cX12_count : ByteArray := prog_14_method_111_code
def yX12_count : MethodName := ⟨RX12, "count", "(I)I"⟩
abbrev cX12_row : ByteArray := prog_14_method_112_code
def yX12_row : MethodName := ⟨RX12, "row", "(I)I"⟩
def RJx145de : String := "java/io/Serializable"
def TJx145de : u_T := fun k => match k with
  | _ => ("", "", "", false)
def tyJx145de : Nat → FieldType := fun k => match k with
  | _ => .int
abbrev wsJx145de0 : List Cond := u_ws RJx145de TJx145de 0
theorem nmJx145de : ∀ a, a < 0 → ∀ b, b < 0 → a ≠ b → (TJx145de a).2.1 ≠ (TJx145de b).2.1 := by decide +kernel
theorem tyJx145de_ok : ∀ k, k < 0 → parseFieldDescriptor (TJx145de k).2.2.1 = some (tyJx145de k) := by decide +kernel
def RJx9f9b0 : String := "java/lang/CharSequence"
def TJx9f9b0 : u_T := fun k => match k with
  | _ => ("", "", "", false)
def tyJx9f9b0 : Nat → FieldType := fun k => match k with
  | _ => .int
abbrev wsJx9f9b00 : List Cond := u_ws RJx9f9b0 TJx9f9b0 0
theorem nmJx9f9b0 : ∀ a, a < 0 → ∀ b, b < 0 → a ≠ b → (TJx9f9b0 a).2.1 ≠ (TJx9f9b0 b).2.1 := by decide +kernel
theorem tyJx9f9b0_ok : ∀ k, k < 0 → parseFieldDescriptor (TJx9f9b0 k).2.2.1 = some (tyJx9f9b0 k) := by decide +kernel
def RJ11 : String := "java/lang/Character"
def TJ11 : u_T := fun k => match k with
  | _ => ("", "", "", false)
def tyJ11 : Nat → FieldType := fun k => match k with
  | _ => .int
abbrev wsJ110 : List Cond := u_ws RJ11 TJ11 0
theorem nmJ11 : ∀ a, a < 0 → ∀ b, b < 0 → a ≠ b → (TJ11 a).2.1 ≠ (TJ11 b).2.1 := by decide +kernel
theorem tyJ11_ok : ∀ k, k < 0 → parseFieldDescriptor (TJ11 k).2.2.1 = some (tyJ11 k) := by decide +kernel
abbrev cJ11_isValidCodePoint_9a6ad : ByteArray := prog_17_method_11_code
def yJ11_isValidCodePoint_9a6ad : MethodName := ⟨RJ11, "isValidCodePoint", "(I)Z"⟩
abbrev cJ11_highSurrogate_5068e : ByteArray := prog_17_method_28_code
def yJ11_highSurrogate_5068e : MethodName := ⟨RJ11, "highSurrogate", "(I)C"⟩
abbrev cJ11_lowSurrogate_5068e : ByteArray := prog_17_method_29_code
def yJ11_lowSurrogate_5068e : MethodName := ⟨RJ11, "lowSurrogate", "(I)C"⟩
def RJxb160c : String := "java/lang/Comparable"
def TJxb160c : u_T := fun k => match k with
  | _ => ("", "", "", false)
def tyJxb160c : Nat → FieldType := fun k => match k with
  | _ => .int
abbrev wsJxb160c0 : List Cond := u_ws RJxb160c TJxb160c 0
theorem nmJxb160c : ∀ a, a < 0 → ∀ b, b < 0 → a ≠ b → (TJxb160c a).2.1 ≠ (TJxb160c b).2.1 := by decide +kernel
theorem tyJxb160c_ok : ∀ k, k < 0 → parseFieldDescriptor (TJxb160c k).2.2.1 = some (tyJxb160c k) := by decide +kernel
def RJ6 : String := "java/lang/Integer"
def TJ6 : u_T := fun k => match k with
  | _ => ("", "", "", false)
def tyJ6 : Nat → FieldType := fun k => match k with
  | _ => .int
abbrev wsJ60 : List Cond := u_ws RJ6 TJ6 0
theorem nmJ6 : ∀ a, a < 0 → ∀ b, b < 0 → a ≠ b → (TJ6 a).2.1 ≠ (TJ6 b).2.1 := by decide +kernel
theorem tyJ6_ok : ∀ k, k < 0 → parseFieldDescriptor (TJ6 k).2.2.1 = some (tyJ6 k) := by decide +kernel
abbrev cJ6_bitCount_0f7a4 : ByteArray := prog_20_method_49_code
def yJ6_bitCount_0f7a4 : MethodName := ⟨RJ6, "bitCount", "(I)I"⟩
def RJ9 : String := "java/lang/Math"
def TJ9 : u_T := fun k => match k with
  | _ => ("", "", "", false)
def tyJ9 : Nat → FieldType := fun k => match k with
  | _ => .int
abbrev wsJ90 : List Cond := u_ws RJ9 TJ9 0
theorem nmJ9 : ∀ a, a < 0 → ∀ b, b < 0 → a ≠ b → (TJ9 a).2.1 ≠ (TJ9 b).2.1 := by decide +kernel
theorem tyJ9_ok : ∀ k, k < 0 → parseFieldDescriptor (TJ9 k).2.2.1 = some (tyJ9 k) := by decide +kernel
abbrev cJ9_max_7cf53 : ByteArray := prog_21_method_65_code
def yJ9_max_7cf53 : MethodName := ⟨RJ9, "max", "(II)I"⟩
abbrev cJ9_min_7cf53 : ByteArray := prog_21_method_69_code
def yJ9_min_7cf53 : MethodName := ⟨RJ9, "min", "(II)I"⟩
def RJ0 : String := "java/lang/String"
def TJ0 : u_T := fun k => match k with
  | _ => ("", "", "", false)
def tyJ0 : Nat → FieldType := fun k => match k with
  | _ => .int
abbrev wsJ00 : List Cond := u_ws RJ0 TJ0 0
theorem nmJ0 : ∀ a, a < 0 → ∀ b, b < 0 → a ≠ b → (TJ0 a).2.1 ≠ (TJ0 b).2.1 := by decide +kernel
theorem tyJ0_ok : ∀ k, k < 0 → parseFieldDescriptor (TJ0 k).2.2.1 = some (tyJ0 k) := by decide +kernel
abbrev cJ0_length_8abf5 : ByteArray := prog_23_method_54_code
def yJ0_length_8abf5 : MethodName := ⟨RJ0, "length", "()I"⟩
abbrev cJ0_indexOf_0f7a4 : ByteArray := prog_23_method_79_code
def yJ0_indexOf_0f7a4 : MethodName := ⟨RJ0, "indexOf", "(I)I"⟩
abbrev cJ0_indexOf_7cf53 : ByteArray := prog_23_method_80_code
def yJ0_indexOf_7cf53 : MethodName := ⟨RJ0, "indexOf", "(II)I"⟩
abbrev cJ0_coder_7d493 : ByteArray := prog_23_method_152_code
def yJ0_coder_7d493 : MethodName := ⟨RJ0, "coder", "()B"⟩
abbrev cJ0_isLatin1_aae02 : ByteArray := prog_23_method_154_code
def yJ0_isLatin1_aae02 : MethodName := ⟨RJ0, "isLatin1", "()Z"⟩
abbrev cJ0_checkBoundsBeginEnd_23922 : ByteArray := prog_23_method_158_code
def yJ0_checkBoundsBeginEnd_23922 : MethodName := ⟨RJ0, "checkBoundsBeginEnd", "(III)V"⟩
def RJ1 : String := "java/lang/StringLatin1"
def TJ1 : u_T := fun k => match k with
  | _ => ("", "", "", false)
def tyJ1 : Nat → FieldType := fun k => match k with
  | _ => .int
abbrev wsJ10 : List Cond := u_ws RJ1 TJ1 0
theorem nmJ1 : ∀ a, a < 0 → ∀ b, b < 0 → a ≠ b → (TJ1 a).2.1 ≠ (TJ1 b).2.1 := by decide +kernel
theorem tyJ1_ok : ∀ k, k < 0 → parseFieldDescriptor (TJ1 k).2.2.1 = some (tyJ1 k) := by decide +kernel
abbrev cJ1_canEncode_9a6ad : ByteArray := prog_24_method_4_code
def yJ1_canEncode_9a6ad : MethodName := ⟨RJ1, "canEncode", "(I)Z"⟩
abbrev cJ1_indexOf_4cfef : ByteArray := prog_24_method_22_code
def yJ1_indexOf_4cfef : MethodName := ⟨RJ1, "indexOf", "([BIII)I"⟩
abbrev cJ1_indexOfChar_4cfef : ByteArray := prog_24_method_23_code
def yJ1_indexOfChar_4cfef : MethodName := ⟨RJ1, "indexOfChar", "([BIII)I"⟩
def RJ2 : String := "java/lang/StringUTF16"
def TJ2 : u_T := fun k => match k with
  | _ => ("", "", "", false)
def tyJ2 : Nat → FieldType := fun k => match k with
  | _ => .int
abbrev wsJ20 : List Cond := u_ws RJ2 TJ2 0
theorem nmJ2 : ∀ a, a < 0 → ∀ b, b < 0 → a ≠ b → (TJ2 a).2.1 ≠ (TJ2 b).2.1 := by decide +kernel
theorem tyJ2_ok : ∀ k, k < 0 → parseFieldDescriptor (TJ2 k).2.2.1 = some (tyJ2 k) := by decide +kernel
abbrev cJ2_getChar_3b067 : ByteArray := prog_25_method_5_code
def yJ2_getChar_3b067 : MethodName := ⟨RJ2, "getChar", "([BI)C"⟩
abbrev cJ2_length_9d52b : ByteArray := prog_25_method_6_code
def yJ2_length_9d52b : MethodName := ⟨RJ2, "length", "([B)I"⟩
abbrev cJ2_indexOf_4cfef : ByteArray := prog_25_method_40_code
def yJ2_indexOf_4cfef : MethodName := ⟨RJ2, "indexOf", "([BIII)I"⟩
abbrev cJ2_indexOfChar_4cfef : ByteArray := prog_25_method_47_code
def yJ2_indexOfChar_4cfef : MethodName := ⟨RJ2, "indexOfChar", "([BIII)I"⟩
abbrev cJ2_indexOfCharUnsafe_4cfef : ByteArray := prog_25_method_48_code
def yJ2_indexOfCharUnsafe_4cfef : MethodName := ⟨RJ2, "indexOfCharUnsafe", "([BIII)I"⟩
abbrev cJ2_indexOfSupplementary_4cfef : ByteArray := prog_25_method_49_code
def yJ2_indexOfSupplementary_4cfef : MethodName := ⟨RJ2, "indexOfSupplementary", "([BIII)I"⟩
abbrev cJ2_checkBoundsBeginEnd_d044e : ByteArray := prog_25_method_93_code
def yJ2_checkBoundsBeginEnd_d044e : MethodName := ⟨RJ2, "checkBoundsBeginEnd", "(II[B)V"⟩
def RJ10 : String := "java/lang/System"
def TJ10 : u_T := fun k => match k with
  | _ => ("", "", "", false)
def tyJ10 : Nat → FieldType := fun k => match k with
  | _ => .int
abbrev wsJ100 : List Cond := u_ws RJ10 TJ10 0
theorem nmJ10 : ∀ a, a < 0 → ∀ b, b < 0 → a ≠ b → (TJ10 a).2.1 ≠ (TJ10 b).2.1 := by decide +kernel
theorem tyJ10_ok : ∀ k, k < 0 → parseFieldDescriptor (TJ10 k).2.2.1 = some (tyJ10 k) := by decide +kernel
def RJxfd54e : String := "java/lang/constant/Constable"
def TJxfd54e : u_T := fun k => match k with
  | _ => ("", "", "", false)
def tyJxfd54e : Nat → FieldType := fun k => match k with
  | _ => .int
abbrev wsJxfd54e0 : List Cond := u_ws RJxfd54e TJxfd54e 0
theorem nmJxfd54e : ∀ a, a < 0 → ∀ b, b < 0 → a ≠ b → (TJxfd54e a).2.1 ≠ (TJxfd54e b).2.1 := by decide +kernel
theorem tyJxfd54e_ok : ∀ k, k < 0 → parseFieldDescriptor (TJxfd54e k).2.2.1 = some (tyJxfd54e k) := by decide +kernel
def RJx3cf43 : String := "java/lang/constant/ConstantDesc"
def TJx3cf43 : u_T := fun k => match k with
  | _ => ("", "", "", false)
def tyJx3cf43 : Nat → FieldType := fun k => match k with
  | _ => .int
abbrev wsJx3cf430 : List Cond := u_ws RJx3cf43 TJx3cf43 0
theorem nmJx3cf43 : ∀ a, a < 0 → ∀ b, b < 0 → a ≠ b → (TJx3cf43 a).2.1 ≠ (TJx3cf43 b).2.1 := by decide +kernel
theorem tyJx3cf43_ok : ∀ k, k < 0 → parseFieldDescriptor (TJx3cf43 k).2.2.1 = some (tyJx3cf43 k) := by decide +kernel
def RJ7 : String := "java/util/Arrays"
def TJ7 : u_T := fun k => match k with
  | _ => ("", "", "", false)
def tyJ7 : Nat → FieldType := fun k => match k with
  | _ => .int
abbrev wsJ70 : List Cond := u_ws RJ7 TJ7 0
theorem nmJ7 : ∀ a, a < 0 → ∀ b, b < 0 → a ≠ b → (TJ7 a).2.1 ≠ (TJ7 b).2.1 := by decide +kernel
theorem tyJ7_ok : ∀ k, k < 0 → parseFieldDescriptor (TJ7 k).2.2.1 = some (tyJ7 k) := by decide +kernel
abbrev cJ7_fill_53178 : ByteArray := prog_30_method_103_code
def yJ7_fill_53178 : MethodName := ⟨RJ7, "fill", "([II)V"⟩
def RJ3 : String := "jdk/internal/util/Preconditions"
def TJ3 : u_T := fun k => match k with
  | _ => ("", "", "", false)
def tyJ3 : Nat → FieldType := fun k => match k with
  | _ => .int
abbrev wsJ30 : List Cond := u_ws RJ3 TJ3 0
theorem nmJ3 : ∀ a, a < 0 → ∀ b, b < 0 → a ≠ b → (TJ3 a).2.1 ≠ (TJ3 b).2.1 := by decide +kernel
theorem tyJ3_ok : ∀ k, k < 0 → parseFieldDescriptor (TJ3 k).2.2.1 = some (tyJ3 k) := by decide +kernel
abbrev cJ3_checkFromToIndex_8c36e : ByteArray := prog_32_method_12_code
def yJ3_checkFromToIndex_8c36e : MethodName := ⟨RJ3, "checkFromToIndex", "(IIILjava/util/function/BiFunction;)I"⟩
def RL : String := "StorksLetLaw"
abbrev cL_roof : ByteArray := method_3_code
def yL_roof : MethodName := ⟨RL, "roof", "(LStorksLet;II[J)I"⟩
abbrev cL_bird : ByteArray := method_4_code
def yL_bird : MethodName := ⟨RL, "bird", "(LStorksLet;II[J)I"⟩
abbrev cL_family : ByteArray := method_5_code
def yL_family : MethodName := ⟨RL, "family", "(LStorksLet;II[J)I"⟩
abbrev cL_worth : ByteArray := method_6_code
def yL_worth : MethodName := ⟨RL, "worth", "(LStorksLet;II[J)I"⟩
abbrev cL_row : ByteArray := method_7_code
def yL_row : MethodName := ⟨RL, "row", "(LStorksLet;I[J)I"⟩
abbrev cL_law : ByteArray := code
def yL_law : MethodName := ⟨RL, "law", "([I)Z"⟩
abbrev vwCl : List vw_C := [(RX0, TX0, 3), (RX2, TX2, 2), (RX3, TX3, 11), (RX4, TX4, 9), (RX5, TX5, 4), (RX6, TX6, 4), (RX7, TX7, 7), (RX8, TX8, 19), (RX9, TX9, 4), (RX10, TX10, 6), (RX11, TX11, 16), (RX12, TX12, 68)]
